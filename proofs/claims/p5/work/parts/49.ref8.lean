/-! the reader of the reference: its place is a ghost too -/
abbrev mkP (n0 n2 n5 n7 m0 m5 w2 w7 kk a b0 b1 b2 b3 : Nat) : NP := (n0, n2, n5, n7, m0, m5, w2, w7, kk, a, b0, b1, b2, b3)
theorem nI_ex (x : Int32) : ∃ n : Nat, x = nI n := ⟨x.toBitVec.toNat, ((Int32.ofNat_bitVecToNat x.toBitVec).trans (Int32.ofBitVec_toBitVec x)).symm⟩
theorem bselN0 {P : NP} {m i : Nat} (hi : i ≠ 0) (h4 : i < 4) : bsel P i = bsel (mkP P.n0 P.n2 P.n5 P.n7 P.m0 P.m5 P.w2 P.w7 P.kk P.a m P.b1 P.b2 P.b3) i := by
  rcases (show i = 0 ∨ i = 1 ∨ i = 2 ∨ i = 3 by omega) with rfl | rfl | rfl | rfl
  · exact absurd rfl hi
  · rfl
  · rfl
  · rfl
theorem bselN1 {P : NP} {m i : Nat} (hi : i ≠ 1) (h4 : i < 4) : bsel P i = bsel (mkP P.n0 P.n2 P.n5 P.n7 P.m0 P.m5 P.w2 P.w7 P.kk P.a P.b0 m P.b2 P.b3) i := by
  rcases (show i = 0 ∨ i = 1 ∨ i = 2 ∨ i = 3 by omega) with rfl | rfl | rfl | rfl
  · rfl
  · exact absurd rfl hi
  · rfl
  · rfl
theorem bselN2 {P : NP} {m i : Nat} (hi : i ≠ 2) (h4 : i < 4) : bsel P i = bsel (mkP P.n0 P.n2 P.n5 P.n7 P.m0 P.m5 P.w2 P.w7 P.kk P.a P.b0 P.b1 m P.b3) i := by
  rcases (show i = 0 ∨ i = 1 ∨ i = 2 ∨ i = 3 by omega) with rfl | rfl | rfl | rfl
  · rfl
  · rfl
  · exact absurd rfl hi
  · rfl
theorem bselN3 {P : NP} {m i : Nat} (hi : i ≠ 3) (h4 : i < 4) : bsel P i = bsel (mkP P.n0 P.n2 P.n5 P.n7 P.m0 P.m5 P.w2 P.w7 P.kk P.a P.b0 P.b1 P.b2 m) i := by
  rcases (show i = 0 ∨ i = 1 ∨ i = 2 ∨ i = 3 by omega) with rfl | rfl | rfl | rfl
  · rfl
  · rfl
  · rfl
  · exact absurd rfl hi
def RA (P Q : NP) : Prop := Q.n0 = P.n0 ∧ Q.n2 = P.n2 ∧ Q.n5 = P.n5 ∧ Q.n7 = P.n7 ∧ Q.m0 = P.m0 ∧ Q.m5 = P.m5 ∧ Q.w2 = P.w2 ∧ Q.w7 = P.w7 ∧ Q.kk = P.kk ∧ P.a ≤ Q.a ∧ Q.b0 = P.b0 ∧ Q.b1 = P.b1 ∧ Q.b2 = P.b2 ∧ Q.b3 = P.b3
def RP (P Q : NP) : Prop := Q.n0 = P.n0 ∧ Q.n2 = P.n2 ∧ Q.m0 = P.m0 ∧ Q.w2 = P.w2 ∧ Q.kk = P.kk ∧ P.a ≤ Q.a ∧ Q.b0 = P.b0 ∧ Q.b1 = P.b1 ∧ Q.b2 = P.b2 ∧ Q.b3 = P.b3
def RQ (P Q : NP) : Prop := Q.n0 = P.n0 ∧ Q.n2 = P.n2 ∧ Q.m0 = P.m0 ∧ Q.w2 = P.w2 ∧ Q.kk = P.kk ∧ Q.b0 = P.b0 ∧ Q.b1 = P.b1 ∧ Q.b2 = P.b2 ∧ Q.b3 = P.b3
theorem CR.setA {V : VX} {c T Z u h a : Nat} {P : NP} {L : Nat → LQ} : ∀ i, i ≠ 1 → ∀ x, CR V c ⟨T, Z, u, h, P, L⟩ i x → CR V c ⟨T, Z, u, h, mkP P.n0 P.n2 P.n5 P.n7 P.m0 P.m5 P.w2 P.w7 P.kk a P.b0 P.b1 P.b2 P.b3, L⟩ i x := by
  intro i hi x hx
  unfold CR at hx ⊢
  split at hx <;> first | exact hx | exact absurd rfl hi
theorem ctl_a {c T Z u h a : Nat} {P : NP} {L : Nat → LQ} : ∀ i, i < rL.length → i ≠ 19 → ∀ w, TyW c ⟨T, Z, u, h, P, L⟩ (rL.getD i (0, 0)) w → TyW c ⟨T, Z, u, h, mkP P.n0 P.n2 P.n5 P.n7 P.m0 P.m5 P.w2 P.w7 P.kk a P.b0 P.b1 P.b2 P.b3, L⟩ (rL.getD i (0, 0)) w := by
  intro i hi hne w hw
  have key : ∀ i, i < 37 → i ≠ 19 → (rL.getD i (0, 0)).1 ≠ 9 := by decide
  have hk := key i hi hne
  unfold TyW at hw ⊢
  split at hw <;> simp_all
/-- fault isn't 0: the ghost says so -/
theorem HS.z0 {V : VX} {c T Z u h : Nat} {P : NP} {L : Nat → LQ} {ks : List Nat} {σ0 σ : Mem} {x : Int32} (hh : HS V c ⟨T, Z, u, h, P, L⟩ ks σ0 σ) (hf : fld σ c 23 = some (.int x)) (hx : ¬ x = 0) : HS V c ⟨T, 0, u, h, P, L⟩ ks σ0 σ := by
  refine ⟨fun a => ?_, hh.2⟩
  by_cases ha : kC c a = 1
  · have h8 := kC_un (k := 0) ha
    have h9 : a = c := h8
    subst h9
    have h1 := hh.1 a
    rw [ha] at h1 ⊢
    obtain ⟨fs, e, q1, q2⟩ := h1
    refine ⟨fs, e, q1, fun j t ht => ?_⟩
    obtain ⟨v, h2, h3⟩ := q2 j t ht
    refine ⟨v, h2, ?_⟩
    by_cases hj : j = 23
    · subst hj
      have h4 : fs[23]? = some (.int x) := fld_ob e hf
      rw [h4] at h2
      cases h2
      obtain rfl : t = (5, 0) := (Option.some.inj ht).symm
      exact ⟨x, fun _ => hx, rfl⟩
    · have hl : j < rL.length := (List.getElem?_eq_some_iff.mp ht).1
      have hu' : rL.getD j (0, 0) = t := by rw [List.getD_eq_getElem?_getD, ht]; rfl
      rw [← hu'] at h3 ⊢
      exact ctl_Z j hl hj v h3
  · exact CR.ctl _ ha _ (hh.1 a)
/-- what stands at the reader's place -/
def HE (σ : Mem) (c a : Nat) (x : Int32) : Prop := ∃ z : Nat, z ≤ 700 ∧ fld σ c 18 = some (.int (nI z)) ∧ ((z ≤ a ∧ x = -1) ∨ (a < z ∧ elI σ (c + 1) a = some x))
theorem HE.of {σ τ : Mem} {c a : Nat} {x : Int32} (h : HE σ c a x) (e1 : fld τ c 18 = fld σ c 18) (e2 : elI τ (c + 1) a = elI σ (c + 1) a) : HE τ c a x := by
  obtain ⟨z, hz, h1, h2⟩ := h
  exact ⟨z, hz, e1.trans h1, h2.imp id (fun q => ⟨q.1, e2.trans q.2⟩)⟩
theorem HE.uniq {σ : Mem} {c a : Nat} {x y : Int32} (h : HE σ c a x) (h' : HE σ c a y) : x = y := by
  obtain ⟨z, hz, h1, h2⟩ := h
  obtain ⟨z', hz', h1', h2'⟩ := h'
  have e : z = z' := by
    rw [h1] at h1'
    have h3 : nI z = nI z' := by injection (Option.some.inj h1')
    exact nI_inj (by omega) (by omega) h3
  subst e
  rcases h2 with ⟨a1, a2⟩ | ⟨a1, a2⟩ <;> rcases h2' with ⟨b1, b2⟩ | ⟨b1, b2⟩
  · exact a2.trans b2.symm
  · omega
  · omega
  · exact Option.some.inj (a2.symm.trans b2)
theorem HE.lt {σ : Mem} {c a : Nat} {x : Int32} (h : HE σ c a x) (hx : ¬ x = -1) : a < 700 := by
  obtain ⟨z, hz, -, ⟨-, h2⟩ | ⟨h2, -⟩⟩ := h
  · exact absurd h2 hx
  · omega
/-- a line or a step of the reader: a fault, the end, or further on -/
def PG (c a b : Nat) (τ : Mem) : Prop := ∃ x y : Int32, fld τ c 23 = some (.int x) ∧ fld τ c 21 = some (.int y) ∧ (x ≠ 0 ∨ y = 4 ∨ a < b)
theorem PG.of {c a b : Nat} {σ τ : Mem} (h : PG c a b σ) (e1 : fld τ c 23 = fld σ c 23) (e2 : fld τ c 21 = fld σ c 21) : PG c a b τ := by
  obtain ⟨x, y, h1, h2, h3⟩ := h
  exact ⟨x, y, e1.trans h1, e2.trans h2, h3⟩
theorem PG.mono {c a a' b : Nat} {σ : Mem} (h : PG c a b σ) (e : a' ≤ a) : PG c a' b σ := by
  obtain ⟨x, y, h1, h2, h3⟩ := h
  exact ⟨x, y, h1, h2, h3.imp id (fun q => q.imp id (fun q => Nat.lt_of_le_of_lt e q))⟩
theorem HR.f21 {V : VX} {c : Nat} {g : RG} {σ : Mem} (h : HR V c g σ) : ∃ y : Int32, fld σ c 21 = some (.int y) := by
  obtain ⟨fs, e, q1, q2⟩ : ∃ fs, σ c = some (ob 8 fs) ∧ TyO c g fs := h.cell (k := 0) (by decide)
  obtain ⟨v, h2, x, rfl⟩ := q2 21 (0, 0) rfl
  exact ⟨x, fld_of e h2⟩
theorem HR.f23 {V : VX} {c : Nat} {g : RG} {σ : Mem} (h : HR V c g σ) : ∃ y : Int32, fld σ c 23 = some (.int y) := by
  obtain ⟨fs, e, q1, q2⟩ : ∃ fs, σ c = some (ob 8 fs) ∧ TyO c g fs := h.cell (k := 0) (by decide)
  obtain ⟨v, h2, x, hx, rfl⟩ := q2 23 (5, 0) rfl
  exact ⟨x, fld_of e h2⟩
theorem PG.a1 {V : VX} {c a b : Nat} {g : RG} {σ : Mem} {x : Int32} (h : HR V c g σ) (e : fld σ c 23 = some (.int x)) (hx : ¬ x = 0) : PG c a b σ := by
  obtain ⟨y, hy⟩ := h.f21
  exact ⟨x, y, e, hy, Or.inl hx⟩
theorem PG.a2 {V : VX} {c a b : Nat} {g : RG} {σ : Mem} (h : HR V c g σ) (e : fld σ c 21 = some (.int 4) ∨ a < b) : PG c a b σ := by
  obtain ⟨y, hy⟩ := h.f21
  obtain ⟨x, hx⟩ := h.f23
  rcases e with e | e
  · exact ⟨x, 4, hx, e, Or.inr (Or.inl rfl)⟩
  · exact ⟨x, y, hx, hy, Or.inr (Or.inr e)⟩
theorem CR.chg {V : VX} {c T Z u h K : Nat} {P P' : NP} {L : Nat → LQ} (hE : ∀ k, k ≠ K → ∀ i x, EI P k i x → EI P' k i x) (hk : P'.kk = P.kk) (ha : P'.a = P.a) : ∀ i, i ≠ K → ∀ x, CR V c ⟨T, Z, u, h, P, L⟩ i x → CR V c ⟨T, Z, u, h, P', L⟩ i x := by
  intro i hi x hx
  unfold CR at hx ⊢
  split at hx
  · trivial
  · obtain ⟨fs, e, q1, q2⟩ := hx
    refine ⟨fs, e, q1, fun j t ht => ?_⟩
    obtain ⟨v, h2, h3⟩ := q2 j t ht
    refine ⟨v, h2, ?_⟩
    obtain ⟨tc, tw⟩ := t
    unfold TyW at h3 ⊢
    split at h3 <;> first | exact h3 | (show v = .int (nI P'.a); rw [ha]; exact h3)
  · exact hx
  · exact hx
  · exact hx
  · show ∃ f, _ = some (aJ V 1113 f) ∧ (h = 1 → GR P'.kk f)
    rw [hk]; exact hx
  · show ∃ f, _ = some (aJ V 22260 f) ∧ ∀ j, j < u → GR P'.kk (fun i => f (1113 * j + i))
    rw [hk]; exact hx
  · obtain ⟨f, e, q⟩ := hx
    exact ⟨f, e, fun i9 h9 => hE _ hi i9 _ (q i9 h9)⟩
  · exact hx
  · obtain ⟨f, e, q⟩ := hx
    exact ⟨f, e, fun i9 h9 => hE _ hi i9 _ (q i9 h9)⟩
set_option maxRecDepth 20000 in
theorem q_X10_here (l : Launch) (V : VX) (c T Z u h : Nat) (P : NP) (L : Nat → LQ) (N : Nat) (σ : Mem)  (h0 : HR V c ⟨T, Z, u, h, P, L⟩ σ) (hob : OKB L) (hP : OKP P)  : Ct l V yX10_here cX10_here 1 (some .int) 0 0 0 N σ [.ref c] (fun r τ => HS V c (⟨T, Z, u, h, P, L⟩ : RG) [0, 1, 2, 3, 4, 5, 6, 7, 8, 9, 10, 11, 12, 13, 14, 15, 16, 17, 18, 19, 20, 21, 22, 23] σ τ ∧ ∃ x : Int32, HE τ c P.a x ∧ r = some (.int x)) := by
  refine Ct.of (by decide) (Nat.le_of_ble_eq_true rfl) [(0, .ref c)] rfl (fun X hX F hQ => ?_)
  have hPP := hP
  unfold OKP at hPP
  have h1 : HS V c ⟨T, Z, u, h, P, L⟩ [0, 1, 2, 3, 4, 5, 6, 7, 8, 9, 10, 11, 12, 13, 14, 15, 16, 17, 18, 19, 20, 21, 22, 23] σ σ := HS.start h0
  refine m_aload_n F rfl e_X10_here_0 ?_
  refine r_get F e_X10_here_1 fl_X10_97 h1 rfl (fun v hv f7397 => ?_)
  obtain rfl : v = .int (nI (P.a)) := hv
  refine m_aload_n F rfl e_X10_here_4 ?_
  refine r_get F e_X10_here_5 fl_X10_100 h1 rfl (fun v hv f7398 => ?_)
  obtain ⟨n7399, hn7399, rfl⟩ := hv
  replace hn7399 : n7399 ≤ 700 := hn7399
  refine m_icmp_ge F e_X10_here_8 (fun q8 => ?_) (fun q8 => ?_)
  · have c8 : P.a ≥ n7399 := (nI_leI (a := n7399) (b := P.a) (by omega) (by omega)).mp q8
    refine m_iconst F (v := (-1)) (by decide) e_X10_here_23 ?_
    exact m_iret F hQ e_X10_here_24 (⟨h1, -1, ⟨n7399, by omega, f7398, Or.inl ⟨by omega, rfl⟩⟩, rfl⟩)
  · have c8 : P.a < n7399 := by have hh := mt (nI_leI (a := n7399) (b := P.a) (by omega) (by omega)).mpr q8; omega
    refine m_aload_n F rfl e_X10_here_11 ?_
    refine r_get F e_X10_here_12 fl_X10_7 h1 rfl (fun v hv f7400 => ?_)
    obtain rfl : v = .ref (c + 1) := hv
    refine m_aload_n F rfl e_X10_here_15 ?_
    refine r_getC F e_X10_here_16 fl_X10_97 h1 (f7397) ?_
    refine r_iald F (len := 700) (j := P.a) e_X10_here_19 h1 (fun _ h => h) (by decide) (nI_clamp (by omega)) (vp_in_nI (by omega) (by decide)) (fun x7401 h7402 f7403 => ?_)
    refine m_goto F e_X10_here_20 ?_
    exact m_iret F hQ e_X10_here_24 (⟨h1, x7401, ⟨n7399, by omega, f7398, Or.inr ⟨by omega, f7403⟩⟩, rfl⟩)
set_option maxRecDepth 20000 in
theorem q_X10_isSmall2 (l : Launch) (V : VX) (N : Nat) (σ : Mem) (x901 : Int32)  : Ct l V yX10_isSmall cX10_isSmall 1 (some .boolean) 0 0 0 N σ [.int x901] (fun r τ => τ = σ ∧ (¬ (¬ x901 < 97 ∧ ¬ 122 < x901) ∧ r = some (.int 0) ∨ (¬ x901 < 97 ∧ ¬ 122 < x901) ∧ r = some (.int 1))) := by
  refine Ct.of (by decide) (Nat.le_of_ble_eq_true rfl) [(0, .int x901)] rfl (fun X hX F hQ => ?_)
  refine m_iload_n F rfl e_X10_isSmall_0 ?_
  refine m_bipush F (v := 97) (by decide) e_X10_isSmall_1 ?_
  refine m_icmp_lt F e_X10_isSmall_3 (fun q3 => ?_) (fun q3 => ?_)
  · refine m_iconst F (v := 0) (by decide) e_X10_isSmall_16 ?_
    exact m_zret F hQ e_X10_isSmall_17 (by decide) (⟨rfl, Or.inl ⟨fun e => e.1 q3, rfl⟩⟩)
  · obtain ⟨n7404, hn7404, rfl⟩ := nI_nn (x := x901) (fun e => q3 (Int32.lt_of_lt_of_le e (by decide)))
    have c3 : n7404 ≥ 97 := by have hh := mt (nI_ltI (a := n7404) (b := 97) (by omega) (by omega)).mpr q3; omega
    refine m_iload_n F rfl e_X10_isSmall_6 ?_
    refine m_bipush F (v := 122) (by decide) e_X10_isSmall_7 ?_
    refine m_icmp_gt F e_X10_isSmall_9 (fun q9 => ?_) (fun q9 => ?_)
    · have c9 : n7404 > 122 := (nI_ltI (a := 122) (b := n7404) (by omega) (by omega)).mp q9
      refine m_iconst F (v := 0) (by decide) e_X10_isSmall_16 ?_
      exact m_zret F hQ e_X10_isSmall_17 (by decide) (⟨rfl, Or.inl ⟨fun e => e.2 q9, rfl⟩⟩)
    · have c9 : n7404 ≤ 122 := by have hh := mt (nI_ltI (a := 122) (b := n7404) (by omega) (by omega)).mpr q9; omega
      refine m_iconst F (v := 1) (by decide) e_X10_isSmall_12 ?_
      refine m_goto F e_X10_isSmall_13 ?_
      exact m_zret F hQ e_X10_isSmall_17 (by decide) (⟨rfl, Or.inr ⟨⟨q3, q9⟩, rfl⟩⟩)
set_option maxRecDepth 20000 in
theorem q_X10_isDigit2 (l : Launch) (V : VX) (N : Nat) (σ : Mem) (x901 : Int32)  : Ct l V yX10_isDigit cX10_isDigit 1 (some .boolean) 0 0 0 N σ [.int x901] (fun r τ => τ = σ ∧ (¬ (¬ x901 < 48 ∧ ¬ 57 < x901) ∧ r = some (.int 0) ∨ (¬ x901 < 48 ∧ ¬ 57 < x901) ∧ r = some (.int 1))) := by
  refine Ct.of (by decide) (Nat.le_of_ble_eq_true rfl) [(0, .int x901)] rfl (fun X hX F hQ => ?_)
  refine m_iload_n F rfl e_X10_isDigit_0 ?_
  refine m_bipush F (v := 48) (by decide) e_X10_isDigit_1 ?_
  refine m_icmp_lt F e_X10_isDigit_3 (fun q3 => ?_) (fun q3 => ?_)
  · refine m_iconst F (v := 0) (by decide) e_X10_isDigit_16 ?_
    exact m_zret F hQ e_X10_isDigit_17 (by decide) (⟨rfl, Or.inl ⟨fun e => e.1 q3, rfl⟩⟩)
  · obtain ⟨n7405, hn7405, rfl⟩ := nI_nn (x := x901) (fun e => q3 (Int32.lt_of_lt_of_le e (by decide)))
    have c3 : n7405 ≥ 48 := by have hh := mt (nI_ltI (a := n7405) (b := 48) (by omega) (by omega)).mpr q3; omega
    refine m_iload_n F rfl e_X10_isDigit_6 ?_
    refine m_bipush F (v := 57) (by decide) e_X10_isDigit_7 ?_
    refine m_icmp_gt F e_X10_isDigit_9 (fun q9 => ?_) (fun q9 => ?_)
    · have c9 : n7405 > 57 := (nI_ltI (a := 57) (b := n7405) (by omega) (by omega)).mp q9
      refine m_iconst F (v := 0) (by decide) e_X10_isDigit_16 ?_
      exact m_zret F hQ e_X10_isDigit_17 (by decide) (⟨rfl, Or.inl ⟨fun e => e.2 q9, rfl⟩⟩)
    · have c9 : n7405 ≤ 57 := by have hh := mt (nI_ltI (a := 57) (b := n7405) (by omega) (by omega)).mpr q9; omega
      refine m_iconst F (v := 1) (by decide) e_X10_isDigit_12 ?_
      refine m_goto F e_X10_isDigit_13 ?_
      exact m_zret F hQ e_X10_isDigit_17 (by decide) (⟨rfl, Or.inr ⟨⟨q3, q9⟩, rfl⟩⟩)
set_option maxRecDepth 20000 in
theorem lq_X10_wordHere_97 {V : VX} {X : MX} {N : Nat} {σ : Mem} {c T Z u h : Nat} {P : NP} {L : Nat → LQ}   (F : Fx V X yX10_wordHere cX10_wordHere 4 (some .int) (rmd 4 0 0)) (hQ : Rt V X 0 0 N (fun r τ => HS V c (⟨T, Z, u, h, P, L⟩ : RG) [0, 1, 2, 3, 4, 5, 6, 7, 8, 9, 10, 11, 12, 13, 14, 15, 16, 17, 18, 19, 20, 21, 22, 23] σ τ ∧ ∃ x : Int32, r = some (.int x))) (hob : OKB L) (hP : OKP P)  {fuelO : Nat} (hO : ∀ (n1 : Int32) (k : Nat) (τ : Mem), HS V c (⟨T, Z, u, h, P, L⟩ : RG) [0, 1, 2, 3, 4, 5, 6, 7, 8, 9, 10, 11, 12, 13, 14, 15, 16, 17, 18, 19, 20, 21, 22, 23] σ τ → k ≤ 48 → 48 - k < fuelO → Wm V X 4 N τ 0 0 4 [(0, .ref c), (1, .int n1), (2, .int (nI k))] []) : ∀ (fuel : Nat) (n1 : Int32) (k : Nat) (τ : Mem), HS V c (⟨T, Z, u, h, P, L⟩ : RG) [0, 1, 2, 3, 4, 5, 6, 7, 8, 9, 10, 11, 12, 13, 14, 15, 16, 17, 18, 19, 20, 21, 22, 23] σ τ → k ≤ 47 ∧ 48 - k ≤ fuelO → 48 - k < fuel → Wm V X 4 N τ 0 0 97 [(0, .ref c), (1, .int n1), (2, .int (nI k))] [] := by
  intro fuel
  induction fuel with
  | zero => intros; rename_i hm; exact absurd hm (Nat.not_lt_zero _)
  | succ fuel ih =>
    intro n1 k τ h1 hi hm
    have hPP := hP
    unfold OKP at hPP
    refine m_ldcS F e_X10_wordHere_97 F.sw.1.2.2 ?_
    refine m_iload_n F rfl e_X10_wordHere_99 ?_
    refine m_callO F e_X10_wordHere_100 (q_charAt (x_l X) V _ _ k (by omega)) cb_J0_charAt_5068e ml_X10_137 im_J0_charAt_5068e se_J0_charAt_5068e F.sw.2.2.2.2.2.2.1 rfl (rest := []) rfl (Nat.le_of_ble_eq_true rfl) ⟨Nat.le_of_ble_eq_true rfl, Nat.le_of_ble_eq_true rfl⟩ ⟨Nat.le_of_ble_eq_true rfl, Nat.le_of_ble_eq_true rfl⟩ (k' := 0) (z' := 0) (N' := N) rfl rfl rfl (fun r σ7406 hp => ?_)
    obtain ⟨rfl, rfl⟩ := hp
    refine m_bipush F (v := 32) (by decide) e_X10_wordHere_103 ?_
    refine m_icmp_eq F e_X10_wordHere_105 (fun q105 => ?_) (fun q105 => ?_)
    · refine m_iinc F (v := nI (k + 1)) (lv' := [(2, .int (nI (k + 1))), (0, .ref c), (1, .int n1)]) e_X10_wordHere_114 rfl (nI_add k 1) (by decide) rfl ?_
      refine m_iinc F (v := (n1 + 1)) (lv' := [(1, .int (n1 + 1)), (2, .int (nI (k + 1))), (0, .ref c)]) e_X10_wordHere_117 rfl rfl (by decide) rfl ?_
      refine m_goto F e_X10_wordHere_120 ?_
      refine Wm.lvsub (lv' := [(0, .ref c), (1, .int (n1 + 1)), (2, .int (nI (k + 1)))]) ?_ [2, 0, 1] rfl
      exact hO (n1 + 1) (k + 1) _ h1 (by omega) (by omega)
    · have hw105 := wb_47 (i := k) (by omega) q105
      refine m_iinc F (v := nI (k + 1)) (lv' := [(2, .int (nI (k + 1))), (0, .ref c), (1, .int n1)]) e_X10_wordHere_108 rfl (nI_add k 1) (by decide) rfl ?_
      refine m_goto F e_X10_wordHere_111 ?_
      refine Wm.lvsub (lv' := [(0, .ref c), (1, .int n1), (2, .int (nI (k + 1)))]) ?_ [1, 2, 0] rfl
      exact ih n1 (k + 1) _ h1 (by omega) (by omega)
set_option maxRecDepth 20000 in
theorem lq_X10_wordHere_15 {V : VX} {X : MX} {N : Nat} {σ : Mem} {c T Z u h : Nat} {P : NP} {L : Nat → LQ}   (F : Fx V X yX10_wordHere cX10_wordHere 4 (some .int) (rmd 4 0 0)) (hQ : Rt V X 0 0 N (fun r τ => HS V c (⟨T, Z, u, h, P, L⟩ : RG) [0, 1, 2, 3, 4, 5, 6, 7, 8, 9, 10, 11, 12, 13, 14, 15, 16, 17, 18, 19, 20, 21, 22, 23] σ τ ∧ ∃ x : Int32, r = some (.int x))) (hob : OKB L) (hP : OKP P)  {fuelO : Nat} (hO : ∀ (n1 : Int32) (k : Nat) (τ : Mem), HS V c (⟨T, Z, u, h, P, L⟩ : RG) [0, 1, 2, 3, 4, 5, 6, 7, 8, 9, 10, 11, 12, 13, 14, 15, 16, 17, 18, 19, 20, 21, 22, 23] σ τ → k ≤ 48 → 48 - k < fuelO → Wm V X 4 N τ 0 0 4 [(0, .ref c), (1, .int n1), (2, .int (nI k))] []) : ∀ (fuel : Nat) (n1 : Int32) (k : Nat) (i : Nat) (τ : Mem), HS V c (⟨T, Z, u, h, P, L⟩ : RG) [0, 1, 2, 3, 4, 5, 6, 7, 8, 9, 10, 11, 12, 13, 14, 15, 16, 17, 18, 19, 20, 21, 22, 23] σ τ → k + i ≤ 47 ∧ 48 - k ≤ fuelO → 48 - i < fuel → Wm V X 4 N τ 0 0 15 [(0, .ref c), (1, .int n1), (2, .int (nI k)), (3, .int (nI i))] [] := by
  intro fuel
  induction fuel with
  | zero => intros; rename_i hm; exact absurd hm (Nat.not_lt_zero _)
  | succ fuel ih =>
    intro n1 k i τ h1 hi hm
    have hPP := hP
    unfold OKP at hPP
    refine m_ldcS F e_X10_wordHere_15 F.sw.1.2.2 ?_
    refine m_iload_n F rfl e_X10_wordHere_17 ?_
    refine m_iload_n F rfl e_X10_wordHere_18 ?_
    refine m_iadd F e_X10_wordHere_19 ?_
    refine Wm.topE (w := nI (k + i)) (nI_add k i) ?_
    refine m_callO F e_X10_wordHere_20 (q_charAt (x_l X) V _ _ (k + i) (by omega)) cb_J0_charAt_5068e ml_X10_137 im_J0_charAt_5068e se_J0_charAt_5068e F.sw.2.2.2.2.2.2.1 rfl (rest := []) rfl (Nat.le_of_ble_eq_true rfl) ⟨Nat.le_of_ble_eq_true rfl, Nat.le_of_ble_eq_true rfl⟩ ⟨Nat.le_of_ble_eq_true rfl, Nat.le_of_ble_eq_true rfl⟩ (k' := 0) (z' := 0) (N' := N) rfl rfl rfl (fun r σ7407 hp => ?_)
    obtain ⟨rfl, rfl⟩ := hp
    refine m_bipush F (v := 32) (by decide) e_X10_wordHere_23 ?_
    refine m_icmp_eq F e_X10_wordHere_25 (fun q25 => ?_) (fun q25 => ?_)
    · refine m_ldcS F e_X10_wordHere_69 F.sw.1.2.2 ?_
      refine m_iload_n F rfl e_X10_wordHere_71 ?_
      refine m_iload_n F rfl e_X10_wordHere_72 ?_
      refine m_iadd F e_X10_wordHere_73 ?_
      refine Wm.topE (w := nI (k + i)) (nI_add k i) ?_
      refine m_callO F e_X10_wordHere_74 (q_charAt (x_l X) V _ _ (k + i) (by omega)) cb_J0_charAt_5068e ml_X10_137 im_J0_charAt_5068e se_J0_charAt_5068e F.sw.2.2.2.2.2.2.1 rfl (rest := []) rfl (Nat.le_of_ble_eq_true rfl) ⟨Nat.le_of_ble_eq_true rfl, Nat.le_of_ble_eq_true rfl⟩ ⟨Nat.le_of_ble_eq_true rfl, Nat.le_of_ble_eq_true rfl⟩ (k' := 0) (z' := 0) (N' := N) rfl rfl rfl (fun r σ7408 hp => ?_)
      obtain ⟨rfl, rfl⟩ := hp
      refine m_bipush F (v := 32) (by decide) e_X10_wordHere_77 ?_
      refine m_icmp_ne F e_X10_wordHere_79 (fun q79 => ?_) (fun q79 => ?_)
      · refine Wm.lvsub (lv' := [(0, .ref c), (1, .int n1), (2, .int (nI k))]) ?_ [0, 1, 2] rfl
        exact lq_X10_wordHere_97 F hQ hob hP  hO (48 - k + 1) n1 k _ h1 (by omega) (Nat.lt_succ_self _)
      · refine m_aload_n F rfl e_X10_wordHere_82 ?_
        refine r_get F e_X10_wordHere_83 fl_X10_107 h1 rfl (fun v hv f7409 => ?_)
        obtain ⟨n7410, hn7410, rfl⟩ := hv
        replace hn7410 : n7410 ≤ 700 := hn7410
        refine m_iload_n F rfl e_X10_wordHere_86 ?_
        refine m_iadd F e_X10_wordHere_87 ?_
        refine Wm.topE (w := nI (n7410 + i)) (nI_add n7410 i) ?_
        refine m_aload_n F rfl e_X10_wordHere_88 ?_
        refine r_get F e_X10_wordHere_89 fl_X10_97 h1 rfl (fun v hv f7411 => ?_)
        obtain rfl : v = .int (nI (P.a)) := hv
        refine m_icmp_ne F e_X10_wordHere_92 (fun q92 => ?_) (fun q92 => ?_)
        · have c92 : (n7410 + i) ≠ P.a := by have hh := mt (nI_eq (a := (n7410 + i)) (b := P.a) (by omega) (by omega)).mpr q92; omega
          refine Wm.lvsub (lv' := [(0, .ref c), (1, .int n1), (2, .int (nI k))]) ?_ [0, 1, 2] rfl
          exact lq_X10_wordHere_97 F hQ hob hP  hO (48 - k + 1) n1 k _ h1 (by omega) (Nat.lt_succ_self _)
        · have c92 : (n7410 + i) = P.a := (nI_eq (a := (n7410 + i)) (b := P.a) (by omega) (by omega)).mp q92
          refine m_iload_n F rfl e_X10_wordHere_95 ?_
          exact m_iret F hQ e_X10_wordHere_96 (⟨h1, _, rfl⟩)
    · have hw25 := wb_47 (i := k + i) (by omega) q25
      refine m_aload_n F rfl e_X10_wordHere_28 ?_
      refine r_get F e_X10_wordHere_29 fl_X10_107 h1 rfl (fun v hv f7412 => ?_)
      obtain ⟨n7413, hn7413, rfl⟩ := hv
      replace hn7413 : n7413 ≤ 700 := hn7413
      refine m_iload_n F rfl e_X10_wordHere_32 ?_
      refine m_iadd F e_X10_wordHere_33 ?_
      refine Wm.topE (w := nI (n7413 + i)) (nI_add n7413 i) ?_
      refine m_aload_n F rfl e_X10_wordHere_34 ?_
      refine r_get F e_X10_wordHere_35 fl_X10_97 h1 rfl (fun v hv f7414 => ?_)
      obtain rfl : v = .int (nI (P.a)) := hv
      refine m_icmp_ge F e_X10_wordHere_38 (fun q38 => ?_) (fun q38 => ?_)
      · have c38 : (n7413 + i) ≥ P.a := (nI_leI (a := P.a) (b := (n7413 + i)) (by omega) (by omega)).mp q38
        refine m_ldcS F e_X10_wordHere_69 F.sw.1.2.2 ?_
        refine m_iload_n F rfl e_X10_wordHere_71 ?_
        refine m_iload_n F rfl e_X10_wordHere_72 ?_
        refine m_iadd F e_X10_wordHere_73 ?_
        refine Wm.topE (w := nI (k + i)) (nI_add k i) ?_
        refine m_callO F e_X10_wordHere_74 (q_charAt (x_l X) V _ _ (k + i) (by omega)) cb_J0_charAt_5068e ml_X10_137 im_J0_charAt_5068e se_J0_charAt_5068e F.sw.2.2.2.2.2.2.1 rfl (rest := []) rfl (Nat.le_of_ble_eq_true rfl) ⟨Nat.le_of_ble_eq_true rfl, Nat.le_of_ble_eq_true rfl⟩ ⟨Nat.le_of_ble_eq_true rfl, Nat.le_of_ble_eq_true rfl⟩ (k' := 0) (z' := 0) (N' := N) rfl rfl rfl (fun r σ7415 hp => ?_)
        obtain ⟨rfl, rfl⟩ := hp
        refine m_bipush F (v := 32) (by decide) e_X10_wordHere_77 ?_
        refine m_icmp_ne F e_X10_wordHere_79 (fun q79 => ?_) (fun q79 => ?_)
        · refine Wm.lvsub (lv' := [(0, .ref c), (1, .int n1), (2, .int (nI k))]) ?_ [0, 1, 2] rfl
          exact lq_X10_wordHere_97 F hQ hob hP  hO (48 - k + 1) n1 k _ h1 (by omega) (Nat.lt_succ_self _)
        · refine m_aload_n F rfl e_X10_wordHere_82 ?_
          refine r_getC F e_X10_wordHere_83 fl_X10_107 h1 (f7412) ?_
          refine m_iload_n F rfl e_X10_wordHere_86 ?_
          refine m_iadd F e_X10_wordHere_87 ?_
          refine Wm.topE (w := nI (n7413 + i)) (nI_add n7413 i) ?_
          refine m_aload_n F rfl e_X10_wordHere_88 ?_
          refine r_getC F e_X10_wordHere_89 fl_X10_97 h1 (f7414) ?_
          refine m_icmp_ne F e_X10_wordHere_92 (fun q92 => ?_) (fun q92 => ?_)
          · have c92 : (n7413 + i) ≠ P.a := by have hh := mt (nI_eq (a := (n7413 + i)) (b := P.a) (by omega) (by omega)).mpr q92; omega
            refine Wm.lvsub (lv' := [(0, .ref c), (1, .int n1), (2, .int (nI k))]) ?_ [0, 1, 2] rfl
            exact lq_X10_wordHere_97 F hQ hob hP  hO (48 - k + 1) n1 k _ h1 (by omega) (Nat.lt_succ_self _)
          · have c92 : (n7413 + i) = P.a := (nI_eq (a := (n7413 + i)) (b := P.a) (by omega) (by omega)).mp q92
            refine m_iload_n F rfl e_X10_wordHere_95 ?_
            exact m_iret F hQ e_X10_wordHere_96 (⟨h1, _, rfl⟩)
      · have c38 : (n7413 + i) < P.a := by have hh := mt (nI_leI (a := P.a) (b := (n7413 + i)) (by omega) (by omega)).mpr q38; omega
        refine m_aload_n F rfl e_X10_wordHere_41 ?_
        refine r_get F e_X10_wordHere_42 fl_X10_7 h1 rfl (fun v hv f7416 => ?_)
        obtain rfl : v = .ref (c + 1) := hv
        refine m_aload_n F rfl e_X10_wordHere_45 ?_
        refine r_getC F e_X10_wordHere_46 fl_X10_107 h1 (f7412) ?_
        refine m_iload_n F rfl e_X10_wordHere_49 ?_
        refine m_iadd F e_X10_wordHere_50 ?_
        refine Wm.topE (w := nI (n7413 + i)) (nI_add n7413 i) ?_
        refine r_iald F (len := 700) (j := n7413 + i) e_X10_wordHere_51 h1 (fun _ h => h) (by decide) (nI_clamp (by omega)) (vp_in_nI (by omega) (by decide)) (fun x7417 h7418 f7419 => ?_)
        refine m_ldcS F e_X10_wordHere_52 F.sw.1.2.2 ?_
        refine m_iload_n F rfl e_X10_wordHere_54 ?_
        refine m_iload_n F rfl e_X10_wordHere_55 ?_
        refine m_iadd F e_X10_wordHere_56 ?_
        refine Wm.topE (w := nI (k + i)) (nI_add k i) ?_
        refine m_callO F e_X10_wordHere_57 (q_charAt (x_l X) V _ _ (k + i) (by omega)) cb_J0_charAt_5068e ml_X10_137 im_J0_charAt_5068e se_J0_charAt_5068e F.sw.2.2.2.2.2.2.1 rfl (rest := [.int x7417]) rfl (Nat.le_of_ble_eq_true rfl) ⟨Nat.le_of_ble_eq_true rfl, Nat.le_of_ble_eq_true rfl⟩ ⟨Nat.le_of_ble_eq_true rfl, Nat.le_of_ble_eq_true rfl⟩ (k' := 0) (z' := 0) (N' := N) rfl rfl rfl (fun r σ7420 hp => ?_)
        obtain ⟨rfl, rfl⟩ := hp
        refine m_icmp_ne F e_X10_wordHere_60 (fun q60 => ?_) (fun q60 => ?_)
        · refine m_ldcS F e_X10_wordHere_69 F.sw.1.2.2 ?_
          refine m_iload_n F rfl e_X10_wordHere_71 ?_
          refine m_iload_n F rfl e_X10_wordHere_72 ?_
          refine m_iadd F e_X10_wordHere_73 ?_
          refine Wm.topE (w := nI (k + i)) (nI_add k i) ?_
          refine m_callO F e_X10_wordHere_74 (q_charAt (x_l X) V _ _ (k + i) (by omega)) cb_J0_charAt_5068e ml_X10_137 im_J0_charAt_5068e se_J0_charAt_5068e F.sw.2.2.2.2.2.2.1 rfl (rest := []) rfl (Nat.le_of_ble_eq_true rfl) ⟨Nat.le_of_ble_eq_true rfl, Nat.le_of_ble_eq_true rfl⟩ ⟨Nat.le_of_ble_eq_true rfl, Nat.le_of_ble_eq_true rfl⟩ (k' := 0) (z' := 0) (N' := N) rfl rfl rfl (fun r σ7421 hp => ?_)
          obtain ⟨rfl, rfl⟩ := hp
          refine m_bipush F (v := 32) (by decide) e_X10_wordHere_77 ?_
          refine m_icmp_ne F e_X10_wordHere_79 (fun q79 => ?_) (fun q79 => ?_)
          · refine Wm.lvsub (lv' := [(0, .ref c), (1, .int n1), (2, .int (nI k))]) ?_ [0, 1, 2] rfl
            exact lq_X10_wordHere_97 F hQ hob hP  hO (48 - k + 1) n1 k _ h1 (by omega) (Nat.lt_succ_self _)
          · refine m_aload_n F rfl e_X10_wordHere_82 ?_
            refine r_getC F e_X10_wordHere_83 fl_X10_107 h1 (f7412) ?_
            refine m_iload_n F rfl e_X10_wordHere_86 ?_
            refine m_iadd F e_X10_wordHere_87 ?_
            refine Wm.topE (w := nI (n7413 + i)) (nI_add n7413 i) ?_
            refine m_aload_n F rfl e_X10_wordHere_88 ?_
            refine r_getC F e_X10_wordHere_89 fl_X10_97 h1 (f7414) ?_
            refine m_icmp_ne F e_X10_wordHere_92 (fun q92 => ?_) (fun q92 => ?_)
            · have c92 : (n7413 + i) ≠ P.a := by have hh := mt (nI_eq (a := (n7413 + i)) (b := P.a) (by omega) (by omega)).mpr q92; omega
              refine Wm.lvsub (lv' := [(0, .ref c), (1, .int n1), (2, .int (nI k))]) ?_ [0, 1, 2] rfl
              exact lq_X10_wordHere_97 F hQ hob hP  hO (48 - k + 1) n1 k _ h1 (by omega) (Nat.lt_succ_self _)
            · have c92 : (n7413 + i) = P.a := (nI_eq (a := (n7413 + i)) (b := P.a) (by omega) (by omega)).mp q92
              refine m_iload_n F rfl e_X10_wordHere_95 ?_
              exact m_iret F hQ e_X10_wordHere_96 (⟨h1, _, rfl⟩)
        · refine m_iinc F (v := nI (i + 1)) (lv' := [(3, .int (nI (i + 1))), (0, .ref c), (1, .int n1), (2, .int (nI k))]) e_X10_wordHere_63 rfl (nI_add i 1) (by decide) rfl ?_
          refine m_goto F e_X10_wordHere_66 ?_
          refine Wm.lvsub (lv' := [(0, .ref c), (1, .int n1), (2, .int (nI k)), (3, .int (nI (i + 1)))]) ?_ [1, 2, 3, 0] rfl
          exact ih n1 k (i + 1) _ h1 (by omega) (by omega)
set_option maxRecDepth 20000 in
theorem lq_X10_wordHere_4 {V : VX} {X : MX} {N : Nat} {σ : Mem} {c T Z u h : Nat} {P : NP} {L : Nat → LQ}   (F : Fx V X yX10_wordHere cX10_wordHere 4 (some .int) (rmd 4 0 0)) (hQ : Rt V X 0 0 N (fun r τ => HS V c (⟨T, Z, u, h, P, L⟩ : RG) [0, 1, 2, 3, 4, 5, 6, 7, 8, 9, 10, 11, 12, 13, 14, 15, 16, 17, 18, 19, 20, 21, 22, 23] σ τ ∧ ∃ x : Int32, r = some (.int x))) (hob : OKB L) (hP : OKP P)   : ∀ (fuel : Nat) (n1 : Int32) (k : Nat) (τ : Mem), HS V c (⟨T, Z, u, h, P, L⟩ : RG) [0, 1, 2, 3, 4, 5, 6, 7, 8, 9, 10, 11, 12, 13, 14, 15, 16, 17, 18, 19, 20, 21, 22, 23] σ τ → k ≤ 48 → 48 - k < fuel → Wm V X 4 N τ 0 0 4 [(0, .ref c), (1, .int n1), (2, .int (nI k))] [] := by
  intro fuel
  induction fuel with
  | zero => intros; rename_i hm; exact absurd hm (Nat.not_lt_zero _)
  | succ fuel ih =>
    intro n1 k τ h1 hi hm
    have hPP := hP
    unfold OKP at hPP
    refine m_iload_n F rfl e_X10_wordHere_4 ?_
    refine m_ldcS F e_X10_wordHere_5 F.sw.1.2.2 ?_
    refine m_callO F e_X10_wordHere_7 (q_length (x_l X) V _ _) cb_J0_length_8abf5 ml_X10_132 im_J0_length_8abf5 se_J0_length_8abf5 F.sw.2.2.2.2.2.2.1 rfl (rest := [.int (nI k)]) rfl (Nat.le_of_ble_eq_true rfl) ⟨Nat.le_of_ble_eq_true rfl, Nat.le_of_ble_eq_true rfl⟩ ⟨Nat.le_of_ble_eq_true rfl, Nat.le_of_ble_eq_true rfl⟩ (k' := 0) (z' := 0) (N' := N) rfl rfl rfl (fun r σ7422 hp => ?_)
    obtain ⟨rfl, rfl⟩ := hp
    refine m_icmp_ge F e_X10_wordHere_10 (fun q10 => ?_) (fun q10 => ?_)
    · have c10 : k ≥ 48 := (nI_leI (a := 48) (b := k) (by omega) (by omega)).mp q10
      refine m_iconst F (v := (-1)) (by decide) e_X10_wordHere_123 ?_
      exact m_iret F hQ e_X10_wordHere_124 (⟨h1, _, rfl⟩)
    · have c10 : k < 48 := by have hh := mt (nI_leI (a := 48) (b := k) (by omega) (by omega)).mpr q10; omega
      refine m_iconst F (v := 0) (by decide) e_X10_wordHere_13 ?_
      refine m_istore_n F (lv' := [(3, .int 0), (0, .ref c), (1, .int n1), (2, .int (nI k))]) e_X10_wordHere_14 (by decide) rfl ?_
      refine Wm.lvsub (lv' := [(0, .ref c), (1, .int n1), (2, .int (nI k)), (3, .int 0)]) ?_ [1, 2, 3, 0] rfl
      exact lq_X10_wordHere_15 F hQ hob hP  ih (48 - 0 + 1) n1 k 0 _ h1 (by omega) (Nat.lt_succ_self _)
set_option maxRecDepth 20000 in
theorem q_X10_wordHere (l : Launch) (V : VX) (c T Z u h : Nat) (P : NP) (L : Nat → LQ) (N : Nat) (σ : Mem)  (h0 : HR V c ⟨T, Z, u, h, P, L⟩ σ) (hob : OKB L) (hP : OKP P)  : Ct l V yX10_wordHere cX10_wordHere 4 (some .int) 4 0 0 N σ [.ref c] (fun r τ => HS V c (⟨T, Z, u, h, P, L⟩ : RG) [0, 1, 2, 3, 4, 5, 6, 7, 8, 9, 10, 11, 12, 13, 14, 15, 16, 17, 18, 19, 20, 21, 22, 23] σ τ ∧ ∃ x : Int32, r = some (.int x)) := by
  refine Ct.of (by decide) (Nat.le_of_ble_eq_true rfl) [(0, .ref c)] rfl (fun X hX F hQ => ?_)
  have hPP := hP
  unfold OKP at hPP
  have h1 : HS V c ⟨T, Z, u, h, P, L⟩ [0, 1, 2, 3, 4, 5, 6, 7, 8, 9, 10, 11, 12, 13, 14, 15, 16, 17, 18, 19, 20, 21, 22, 23] σ σ := HS.start h0
  refine m_iconst F (v := 0) (by decide) e_X10_wordHere_0 ?_
  refine m_istore_n F (lv' := [(1, .int 0), (0, .ref c)]) e_X10_wordHere_1 (by decide) rfl ?_
  refine m_iconst F (v := 0) (by decide) e_X10_wordHere_2 ?_
  refine m_istore_n F (lv' := [(2, .int 0), (1, .int 0), (0, .ref c)]) e_X10_wordHere_3 (by decide) rfl ?_
  refine Wm.lvsub (lv' := [(0, .ref c), (1, .int 0), (2, .int 0)]) ?_ [2, 1, 0] rfl
  exact lq_X10_wordHere_4 F hQ hob hP  (48 - 0 + 1) 0 0 _ h1 (by omega) (Nat.lt_succ_self _)
set_option maxRecDepth 20000 in
theorem lq_X10_nameHere_7 {V : VX} {X : MX} {N : Nat} {σ : Mem} {c T Z u h : Nat} {P : NP} {L : Nat → LQ}   (F : Fx V X yX10_nameHere cX10_nameHere 2 none (rmd 0 0 0)) (hQ : Rt V X 0 0 N (fun r τ => HS V c (⟨T, Z, u, h, P, L⟩ : RG) [0, 2, 3, 4, 5, 6, 7, 8, 9, 10, 11, 12, 13, 14, 15, 16, 17, 18, 19, 20, 21, 22, 23] σ τ ∧ r = none)) (hob : OKB L) (hP : OKP P)   : ∀ (fuel : Nat) (i : Nat) (τ : Mem), HS V c (⟨T, Z, u, h, P, L⟩ : RG) [0, 2, 3, 4, 5, 6, 7, 8, 9, 10, 11, 12, 13, 14, 15, 16, 17, 18, 19, 20, 21, 22, 23] σ τ → i ≤ 6 → 6 - i < fuel → Wm V X 2 N τ 0 0 7 [(0, .ref c), (1, .int (nI i))] [] := by
  intro fuel
  induction fuel with
  | zero => intros; rename_i hm; exact absurd hm (Nat.not_lt_zero _)
  | succ fuel ih =>
    intro i τ h1 hi hm
    have hPP := hP
    unfold OKP at hPP
    refine m_iload_n F rfl e_X10_nameHere_7 ?_
    refine m_bipush F (v := 6) (by decide) e_X10_nameHere_8 ?_
    refine m_icmp_ge F e_X10_nameHere_10 (fun q10 => ?_) (fun q10 => ?_)
    · have c10 : i ≥ 6 := (nI_leI (a := 6) (b := i) (by omega) (by omega)).mp q10
      exact m_vret F hQ e_X10_nameHere_63 (⟨h1, rfl⟩)
    · have c10 : i < 6 := by have hh := mt (nI_leI (a := 6) (b := i) (by omega) (by omega)).mpr q10; omega
      refine m_aload_n F rfl e_X10_nameHere_13 ?_
      refine m_aload_n F rfl e_X10_nameHere_14 ?_
      refine r_get F e_X10_nameHere_15 fl_X10_120 h1 rfl (fun v hv f7423 => ?_)
      obtain ⟨x7424, rfl⟩ := hv
      refine m_iconst F (v := 5) (by decide) e_X10_nameHere_18 ?_
      refine m_ishl F e_X10_nameHere_19 ?_
      refine Wm.top (fun x7425 _ => ?_)
      refine m_aload_n F rfl e_X10_nameHere_20 ?_
      refine r_get F e_X10_nameHere_21 fl_X10_107 h1 rfl (fun v hv f7426 => ?_)
      obtain ⟨n7427, hn7427, rfl⟩ := hv
      replace hn7427 : n7427 ≤ 700 := hn7427
      refine m_iload_n F rfl e_X10_nameHere_24 ?_
      refine m_iadd F e_X10_nameHere_25 ?_
      refine Wm.topE (w := nI (n7427 + i)) (nI_add n7427 i) ?_
      refine m_aload_n F rfl e_X10_nameHere_26 ?_
      refine r_get F e_X10_nameHere_27 fl_X10_97 h1 rfl (fun v hv f7428 => ?_)
      obtain rfl : v = .int (nI (P.a)) := hv
      refine m_icmp_ge F e_X10_nameHere_30 (fun q30 => ?_) (fun q30 => ?_)
      · have c30 : (n7427 + i) ≥ P.a := (nI_leI (a := P.a) (b := (n7427 + i)) (by omega) (by omega)).mp q30
        refine m_iconst F (v := 0) (by decide) e_X10_nameHere_52 ?_
        refine m_ior F e_X10_nameHere_53 ?_
        refine Wm.top (fun x7429 _ => ?_)
        refine r_put F (g' := (⟨T, Z, u, h, P, L⟩ : RG)) e_X10_nameHere_54 fp_X10_120 h1 (by decide) ⟨_, rfl⟩ (fun _ _ _ _ q => q) (fun _ _ _ q => q) rfl rfl (by decide) (fun σ7430 h7431 g7432 g7433 f7434 => ?_)
        refine m_iinc F (v := nI (i + 1)) (lv' := [(1, .int (nI (i + 1))), (0, .ref c)]) e_X10_nameHere_57 rfl (nI_add i 1) (by decide) rfl ?_
        refine m_goto F e_X10_nameHere_60 ?_
        refine Wm.lvsub (lv' := [(0, .ref c), (1, .int (nI (i + 1)))]) ?_ [1, 0] rfl
        exact ih (i + 1) _ h7431 (by omega) (by omega)
      · have c30 : (n7427 + i) < P.a := by have hh := mt (nI_leI (a := P.a) (b := (n7427 + i)) (by omega) (by omega)).mpr q30; omega
        refine m_aload_n F rfl e_X10_nameHere_33 ?_
        refine r_get F e_X10_nameHere_34 fl_X10_7 h1 rfl (fun v hv f7435 => ?_)
        obtain rfl : v = .ref (c + 1) := hv
        refine m_aload_n F rfl e_X10_nameHere_37 ?_
        refine r_getC F e_X10_nameHere_38 fl_X10_107 h1 (f7426) ?_
        refine m_iload_n F rfl e_X10_nameHere_41 ?_
        refine m_iadd F e_X10_nameHere_42 ?_
        refine Wm.topE (w := nI (n7427 + i)) (nI_add n7427 i) ?_
        refine r_iald F (len := 700) (j := n7427 + i) e_X10_nameHere_43 h1 (fun _ h => h) (by decide) (nI_clamp (by omega)) (vp_in_nI (by omega) (by decide)) (fun x7436 h7437 f7438 => ?_)
        refine m_bipush F (v := 97) (by decide) e_X10_nameHere_44 ?_
        refine m_isub F e_X10_nameHere_46 ?_
        refine Wm.top (fun x7439 _ => ?_)
        refine m_iconst F (v := 1) (by decide) e_X10_nameHere_47 ?_
        refine m_iadd F e_X10_nameHere_48 ?_
        refine Wm.top (fun x7440 _ => ?_)
        refine m_goto F e_X10_nameHere_49 ?_
        refine m_ior F e_X10_nameHere_53 ?_
        refine Wm.top (fun x7441 _ => ?_)
        refine r_put F (g' := (⟨T, Z, u, h, P, L⟩ : RG)) e_X10_nameHere_54 fp_X10_120 h1 (by decide) ⟨_, rfl⟩ (fun _ _ _ _ q => q) (fun _ _ _ q => q) rfl rfl (by decide) (fun σ7442 h7443 g7444 g7445 f7446 => ?_)
        refine m_iinc F (v := nI (i + 1)) (lv' := [(1, .int (nI (i + 1))), (0, .ref c)]) e_X10_nameHere_57 rfl (nI_add i 1) (by decide) rfl ?_
        refine m_goto F e_X10_nameHere_60 ?_
        refine Wm.lvsub (lv' := [(0, .ref c), (1, .int (nI (i + 1)))]) ?_ [1, 0] rfl
        exact ih (i + 1) _ h7443 (by omega) (by omega)
set_option maxRecDepth 20000 in
theorem q_X10_nameHere (l : Launch) (V : VX) (c T Z u h : Nat) (P : NP) (L : Nat → LQ) (N : Nat) (σ : Mem)  (h0 : HR V c ⟨T, Z, u, h, P, L⟩ σ) (hob : OKB L) (hP : OKP P)  : Ct l V yX10_nameHere cX10_nameHere 2 none 0 0 0 N σ [.ref c] (fun r τ => HS V c (⟨T, Z, u, h, P, L⟩ : RG) [0, 2, 3, 4, 5, 6, 7, 8, 9, 10, 11, 12, 13, 14, 15, 16, 17, 18, 19, 20, 21, 22, 23] σ τ ∧ r = none) := by
  refine Ct.of (by decide) (Nat.le_of_ble_eq_true rfl) [(0, .ref c)] rfl (fun X hX F hQ => ?_)
  have hPP := hP
  unfold OKP at hPP
  have h1 : HS V c ⟨T, Z, u, h, P, L⟩ [0, 2, 3, 4, 5, 6, 7, 8, 9, 10, 11, 12, 13, 14, 15, 16, 17, 18, 19, 20, 21, 22, 23] σ σ := HS.start h0
  refine m_aload_n F rfl e_X10_nameHere_0 ?_
  refine m_iconst F (v := 0) (by decide) e_X10_nameHere_1 ?_
  refine r_put F (g' := (⟨T, Z, u, h, P, L⟩ : RG)) e_X10_nameHere_2 fp_X10_120 h1 (by decide) ⟨_, rfl⟩ (fun _ _ _ _ q => q) (fun _ _ _ q => q) rfl rfl (by decide) (fun σ7447 h7448 g7449 g7450 f7451 => ?_)
  refine m_iconst F (v := 0) (by decide) e_X10_nameHere_5 ?_
  refine m_istore_n F (lv' := [(1, .int 0), (0, .ref c)]) e_X10_nameHere_6 (by decide) rfl ?_
  refine Wm.lvsub (lv' := [(0, .ref c), (1, .int 0)]) ?_ [1, 0] rfl
  exact lq_X10_nameHere_7 F hQ hob hP  (6 - 0 + 1) 0 _ h7448 (by omega) (Nat.lt_succ_self _)
set_option maxRecDepth 20000 in
theorem lq_X10_token_162 {V : VX} {X : MX} {N : Nat} {σ : Mem} {c T Z u h : Nat} {P : NP} {L : Nat → LQ}   (F : Fx V X yX10_token cX10_token 2 none (rmd 5 0 0)) (hQ : Rt V X 0 0 N (fun r τ => ∃ P9 : NP, OKP P9 ∧ RA P P9 ∧ (fld τ c 21 = some (.int 4) ∨ P.a < P9.a) ∧ HS V c (⟨T, Z, u, h, P9, L⟩ : RG) [0, 2, 3, 4, 5, 6, 7, 8, 9, 10, 11, 12, 13, 14, 15, 16, 17, 18, 19, 20, 21, 22, 23] σ τ ∧ r = none)) (hob : OKB L) (hP : OKP P)   : ∀ (fuel : Nat)  (P1 : NP) (τ : Mem), HS V c (⟨T, Z, u, h, P1, L⟩ : RG) [0, 2, 3, 4, 5, 6, 7, 8, 9, 10, 11, 12, 13, 14, 15, 16, 17, 18, 19, 20, 21, 22, 23] σ τ → OKP P1 → RA P P1 → P.a < P1.a → 700 - P1.a < fuel → Wm V X 2 N τ 0 0 162 [(0, .ref c)] [] := by
  intro fuel
  induction fuel with
  | zero => intros; rename_i hm; exact absurd hm (Nat.not_lt_zero _)
  | succ fuel ih =>
    intro  P1 τ h1 hP1 hR1 hi hm
    have hPP := hP
    unfold OKP at hPP
    have hPP1 := hP1
    unfold OKP at hPP1
    unfold RA at hR1
    refine m_aload_n F rfl e_X10_token_162 ?_
    refine r_callV F e_X10_token_163 (q_X10_here (x_l X) V c T Z u h P1 L _ _  h1.1 (hob) hP1 ) cb_X10_here ml_X10_103 im_X10_here se_X10_here h1 rfl rfl (rest := []) rfl (Nat.le_of_ble_eq_true rfl) ⟨Nat.le_of_ble_eq_true rfl, Nat.le_of_ble_eq_true rfl⟩ ⟨Nat.le_of_ble_eq_true rfl, Nat.le_of_ble_eq_true rfl⟩ (fun r σ7452 hp => ?_)
    obtain ⟨h7453, x7455, gex7455, rfl⟩ := hp
    have h7454 := HS.trans h1 h7453 (by decide)
    refine m_callS F e_X10_token_166 (q_X10_isDigit2 (x_l X) V _ _ x7455 ) cb_X10_isDigit ml_X10_126 sm_X10_isDigit rfl (rest := []) rfl (Nat.le_of_ble_eq_true rfl) ⟨Nat.le_of_ble_eq_true rfl, Nat.le_of_ble_eq_true rfl⟩ ⟨Nat.le_of_ble_eq_true rfl, Nat.le_of_ble_eq_true rfl⟩ (k' := 0) (z' := 0) (N' := N) rfl rfl rfl (fun r σ7456 hp => ?_)
    obtain ⟨rfl, c7459⟩ := hp
    rcases c7459 with ⟨g7460, rfl⟩ | ⟨g7460, rfl⟩
    · refine m_if_eq F e_X10_token_169 (fun _ => ?_) (fun q => absurd (by decide) q)
      exact m_vret F hQ e_X10_token_245 (⟨P1, hP1, (by unfold RA; omega), (Or.inr (by omega)), h7454, rfl⟩)
    · refine m_if_eq F e_X10_token_169 (fun q => absurd q (by decide)) (fun _ => ?_)
      have ha7461 := gex7455.lt (fun e => g7460.1 (by rw [e]; decide))
      have ha7462 := gex7455.lt (fun e => g7460.1 (by rw [e]; decide))
      have ha7463 := gex7455.lt (fun e => g7460.1 (by rw [e]; decide))
      refine m_aload_n F rfl e_X10_token_172 ?_
      refine m_aload_n F rfl e_X10_token_173 ?_
      refine r_get F e_X10_token_174 fl_X10_120 h7454 rfl (fun v hv f7464 => ?_)
      obtain ⟨x7465, rfl⟩ := hv
      refine m_ldc F kc_X10_129 e_X10_token_177 ?_
      refine m_icmp_le F e_X10_token_179 (fun q179 => ?_) (fun q179 => ?_)
      · refine m_bipush F (v := 10) (by decide) e_X10_token_189 ?_
        refine m_aload_n F rfl e_X10_token_191 ?_
        refine r_getC F e_X10_token_192 fl_X10_120 h7454 (f7464) ?_
        refine m_imul F e_X10_token_195 ?_
        refine Wm.top (fun x7466 _ => ?_)
        refine m_aload_n F rfl e_X10_token_196 ?_
        refine r_callV F e_X10_token_197 (q_X10_here (x_l X) V c T Z u h P1 L _ _  h7454.1 (hob) hP1 ) cb_X10_here ml_X10_103 im_X10_here se_X10_here h7454 rfl rfl (rest := [.int x7466, .ref c]) rfl (Nat.le_of_ble_eq_true rfl) ⟨Nat.le_of_ble_eq_true rfl, Nat.le_of_ble_eq_true rfl⟩ ⟨Nat.le_of_ble_eq_true rfl, Nat.le_of_ble_eq_true rfl⟩ (fun r σ7467 hp => ?_)
        obtain ⟨h7468, x7470, gex7470, rfl⟩ := hp
        have h7469 := HS.trans h7454 h7468 (by decide)
        have he7471 := gex7455.of (fld_eq (h7468.2 c (by rw [show kC c c = 1 from kC_at (k := 0) (by decide)]; decide))) (elI_eq (h7468.2 (c + 1) (by rw [kC_at (k := 1) (by decide)]; decide)))
        obtain rfl : x7455 = x7470 := HE.uniq he7471 gex7470
        refine m_iadd F e_X10_token_200 ?_
        refine Wm.top (fun x7472 _ => ?_)
        refine m_bipush F (v := 48) (by decide) e_X10_token_201 ?_
        refine m_isub F e_X10_token_203 ?_
        refine Wm.top (fun x7473 _ => ?_)
        refine r_put F (g' := (⟨T, Z, u, h, P1, L⟩ : RG)) e_X10_token_204 fp_X10_120 h7469 (by decide) ⟨_, rfl⟩ (fun _ _ _ _ q => q) (fun _ _ _ q => q) rfl rfl (by decide) (fun σ7474 h7475 g7476 g7477 f7478 => ?_)
        have he7479 := gex7470.of (g7477 18 (by decide)) (elI_eq (g7476 _ (by omega)))
        refine m_aload_n F rfl e_X10_token_207 ?_
        refine m_dup F rfl e_X10_token_208 ?_
        refine r_get F e_X10_token_209 fl_X10_97 h7475 rfl (fun v hv f7480 => ?_)
        obtain rfl : v = .int (nI (P1.a)) := hv
        refine m_iconst F (v := 1) (by decide) e_X10_token_212 ?_
        refine m_iadd F e_X10_token_213 ?_
        refine Wm.topE (w := nI (P1.a + 1)) (nI_add P1.a 1) ?_
        refine r_put F (g' := (⟨T, Z, u, h, (mkP P1.n0 P1.n2 P1.n5 P1.n7 P1.m0 P1.m5 P1.w2 P1.w7 P1.kk (P1.a + 1) P1.b0 P1.b1 P1.b2 P1.b3), L⟩ : RG)) e_X10_token_214 fp_X10_97 h7475 (by decide) rfl ctl_a CR.setA rfl rfl (by decide) (fun σ7481 h7482 g7483 g7484 f7485 => ?_)
        obtain ⟨P7486, eP7486⟩ : ∃ P9, P9 = (mkP P1.n0 P1.n2 P1.n5 P1.n7 P1.m0 P1.m5 P1.w2 P1.w7 P1.kk (P1.a + 1) P1.b0 P1.b1 P1.b2 P1.b3) := ⟨_, rfl⟩
        rw [← eP7486] at h7482
        have fP7486 : P7486.n0 = P1.n0 ∧ P7486.n2 = P1.n2 ∧ P7486.n5 = P1.n5 ∧ P7486.n7 = P1.n7 ∧ P7486.m0 = P1.m0 ∧ P7486.m5 = P1.m5 ∧ P7486.w2 = P1.w2 ∧ P7486.w7 = P1.w7 ∧ P7486.kk = P1.kk ∧ P7486.a = P1.a + 1 ∧ P7486.b0 = P1.b0 ∧ P7486.b1 = P1.b1 ∧ P7486.b2 = P1.b2 ∧ P7486.b3 = P1.b3 := by rw [eP7486]; exact ⟨rfl, rfl, rfl, rfl, rfl, rfl, rfl, rfl, rfl, rfl, rfl, rfl, rfl, rfl⟩
        have he7487 := he7479.of (g7484 18 (by decide)) (elI_eq (g7483 _ (by omega)))
        refine m_goto F e_X10_token_217 ?_
        have oP7488 : OKP P7486 := by unfold OKP; omega
        exact ih  P7486 _ h7482 oP7488 (by unfold RA; omega) (by omega) (by omega)
      · obtain ⟨n7489, hn7489, rfl⟩ := nI_nn (x := x7465) (fun e => q179 (Int32.le_trans (Int32.le_of_lt e) (by decide)))
        have c179 : n7489 > 9999999 := by have hh := mt (nI_leI (a := n7489) (b := 9999999) (by omega) (by omega)).mpr q179; omega
        refine m_aload_n F rfl e_X10_token_182 ?_
        refine r_getC F e_X10_token_183 fl_X10_120 h7454 (f7464) ?_
        refine m_goto F e_X10_token_186 ?_
        refine r_put F (g' := (⟨T, Z, u, h, P1, L⟩ : RG)) e_X10_token_204 fp_X10_120 h7454 (by decide) ⟨_, rfl⟩ (fun _ _ _ _ q => q) (fun _ _ _ q => q) rfl rfl (by decide) (fun σ7490 h7491 g7492 g7493 f7494 => ?_)
        have he7495 := gex7455.of (g7493 18 (by decide)) (elI_eq (g7492 _ (by omega)))
        refine m_aload_n F rfl e_X10_token_207 ?_
        refine m_dup F rfl e_X10_token_208 ?_
        refine r_get F e_X10_token_209 fl_X10_97 h7491 rfl (fun v hv f7496 => ?_)
        obtain rfl : v = .int (nI (P1.a)) := hv
        refine m_iconst F (v := 1) (by decide) e_X10_token_212 ?_
        refine m_iadd F e_X10_token_213 ?_
        refine Wm.topE (w := nI (P1.a + 1)) (nI_add P1.a 1) ?_
        refine r_put F (g' := (⟨T, Z, u, h, (mkP P1.n0 P1.n2 P1.n5 P1.n7 P1.m0 P1.m5 P1.w2 P1.w7 P1.kk (P1.a + 1) P1.b0 P1.b1 P1.b2 P1.b3), L⟩ : RG)) e_X10_token_214 fp_X10_97 h7491 (by decide) rfl ctl_a CR.setA rfl rfl (by decide) (fun σ7497 h7498 g7499 g7500 f7501 => ?_)
        obtain ⟨P7502, eP7502⟩ : ∃ P9, P9 = (mkP P1.n0 P1.n2 P1.n5 P1.n7 P1.m0 P1.m5 P1.w2 P1.w7 P1.kk (P1.a + 1) P1.b0 P1.b1 P1.b2 P1.b3) := ⟨_, rfl⟩
        rw [← eP7502] at h7498
        have fP7502 : P7502.n0 = P1.n0 ∧ P7502.n2 = P1.n2 ∧ P7502.n5 = P1.n5 ∧ P7502.n7 = P1.n7 ∧ P7502.m0 = P1.m0 ∧ P7502.m5 = P1.m5 ∧ P7502.w2 = P1.w2 ∧ P7502.w7 = P1.w7 ∧ P7502.kk = P1.kk ∧ P7502.a = P1.a + 1 ∧ P7502.b0 = P1.b0 ∧ P7502.b1 = P1.b1 ∧ P7502.b2 = P1.b2 ∧ P7502.b3 = P1.b3 := by rw [eP7502]; exact ⟨rfl, rfl, rfl, rfl, rfl, rfl, rfl, rfl, rfl, rfl, rfl, rfl, rfl, rfl⟩
        have he7503 := he7495.of (g7500 18 (by decide)) (elI_eq (g7499 _ (by omega)))
        refine m_goto F e_X10_token_217 ?_
        have oP7504 : OKP P7502 := by unfold OKP; omega
        exact ih  P7502 _ h7498 oP7504 (by unfold RA; omega) (by omega) (by omega)
set_option maxRecDepth 20000 in
theorem lq_X10_token_64 {V : VX} {X : MX} {N : Nat} {σ : Mem} {c T Z u h : Nat} {P : NP} {L : Nat → LQ}   (F : Fx V X yX10_token cX10_token 2 none (rmd 5 0 0)) (hQ : Rt V X 0 0 N (fun r τ => ∃ P9 : NP, OKP P9 ∧ RA P P9 ∧ (fld τ c 21 = some (.int 4) ∨ P.a < P9.a) ∧ HS V c (⟨T, Z, u, h, P9, L⟩ : RG) [0, 2, 3, 4, 5, 6, 7, 8, 9, 10, 11, 12, 13, 14, 15, 16, 17, 18, 19, 20, 21, 22, 23] σ τ ∧ r = none)) (hob : OKB L) (hP : OKP P)   : ∀ (fuel : Nat)  (P1 : NP) (τ : Mem), HS V c (⟨T, Z, u, h, P1, L⟩ : RG) [0, 2, 3, 4, 5, 6, 7, 8, 9, 10, 11, 12, 13, 14, 15, 16, 17, 18, 19, 20, 21, 22, 23] σ τ → OKP P1 → RA P P1 → P.a < P1.a → 700 - P1.a < fuel → Wm V X 2 N τ 0 0 64 [(0, .ref c)] [] := by
  intro fuel
  induction fuel with
  | zero => intros; rename_i hm; exact absurd hm (Nat.not_lt_zero _)
  | succ fuel ih =>
    intro  P1 τ h1 hP1 hR1 hi hm
    have hPP := hP
    unfold OKP at hPP
    have hPP1 := hP1
    unfold OKP at hPP1
    unfold RA at hR1
    refine m_aload_n F rfl e_X10_token_64 ?_
    refine r_callV F e_X10_token_65 (q_X10_here (x_l X) V c T Z u h P1 L _ _  h1.1 (hob) hP1 ) cb_X10_here ml_X10_103 im_X10_here se_X10_here h1 rfl rfl (rest := []) rfl (Nat.le_of_ble_eq_true rfl) ⟨Nat.le_of_ble_eq_true rfl, Nat.le_of_ble_eq_true rfl⟩ ⟨Nat.le_of_ble_eq_true rfl, Nat.le_of_ble_eq_true rfl⟩ (fun r σ7505 hp => ?_)
    obtain ⟨h7506, x7508, gex7508, rfl⟩ := hp
    have h7507 := HS.trans h1 h7506 (by decide)
    refine m_callS F e_X10_token_68 (q_X10_isSmall2 (x_l X) V _ _ x7508 ) cb_X10_isSmall ml_X10_113 sm_X10_isSmall rfl (rest := []) rfl (Nat.le_of_ble_eq_true rfl) ⟨Nat.le_of_ble_eq_true rfl, Nat.le_of_ble_eq_true rfl⟩ ⟨Nat.le_of_ble_eq_true rfl, Nat.le_of_ble_eq_true rfl⟩ (k' := 0) (z' := 0) (N' := N) rfl rfl rfl (fun r σ7509 hp => ?_)
    obtain ⟨rfl, c7512⟩ := hp
    rcases c7512 with ⟨g7513, rfl⟩ | ⟨g7513, rfl⟩
    · refine m_if_eq F e_X10_token_71 (fun _ => ?_) (fun q => absurd (by decide) q)
      refine m_aload_n F rfl e_X10_token_87 ?_
      refine m_aload_n F rfl e_X10_token_88 ?_
      refine r_callV F e_X10_token_89 (q_X10_wordHere (x_l X) V c T Z u h P1 L _ _  h7507.1 (hob) hP1 ) cb_X10_wordHere ml_X10_117 im_X10_wordHere se_X10_wordHere h7507 rfl rfl (rest := [.ref c]) rfl (Nat.le_of_ble_eq_true rfl) ⟨Nat.le_of_ble_eq_true rfl, Nat.le_of_ble_eq_true rfl⟩ ⟨Nat.le_of_ble_eq_true rfl, Nat.le_of_ble_eq_true rfl⟩ (fun r σ7514 hp => ?_)
      obtain ⟨h7515, x7517, rfl⟩ := hp
      have h7516 := HS.trans h7507 h7515 (by decide)
      have he7518 := gex7508.of (fld_eq (h7515.2 c (by rw [show kC c c = 1 from kC_at (k := 0) (by decide)]; decide))) (elI_eq (h7515.2 (c + 1) (by rw [kC_at (k := 1) (by decide)]; decide)))
      refine r_put F (g' := (⟨T, Z, u, h, P1, L⟩ : RG)) e_X10_token_92 fp_X10_120 h7516 (by decide) ⟨_, rfl⟩ (fun _ _ _ _ q => q) (fun _ _ _ q => q) rfl rfl (by decide) (fun σ7519 h7520 g7521 g7522 f7523 => ?_)
      have he7524 := he7518.of (g7522 18 (by decide)) (elI_eq (g7521 _ (by omega)))
      refine m_aload_n F rfl e_X10_token_95 ?_
      refine m_aload_n F rfl e_X10_token_96 ?_
      refine r_getC F e_X10_token_97 fl_X10_120 h7520 (f7523) ?_
      refine m_iconst F (v := (-1)) (by decide) e_X10_token_100 ?_
      refine m_icmp_eq F e_X10_token_101 (fun q101 => ?_) (fun q101 => ?_)
      · subst q101
        refine m_aload_n F rfl e_X10_token_108 ?_
        refine r_get F e_X10_token_109 fl_X10_97 h7520 rfl (fun v hv f7525 => ?_)
        obtain rfl : v = .int (nI (P1.a)) := hv
        refine m_aload_n F rfl e_X10_token_112 ?_
        refine r_get F e_X10_token_113 fl_X10_107 h7520 rfl (fun v hv f7526 => ?_)
        obtain ⟨n7527, hn7527, rfl⟩ := hv
        replace hn7527 : n7527 ≤ 700 := hn7527
        refine m_isub F e_X10_token_116 ?_
        refine Wm.top (fun x7528 _ => ?_)
        refine m_bipush F (v := 6) (by decide) e_X10_token_117 ?_
        refine m_icmp_le F e_X10_token_119 (fun q119 => ?_) (fun q119 => ?_)
        · refine m_iconst F (v := 1) (by decide) e_X10_token_126 ?_
          refine r_put F (g' := (⟨T, Z, u, h, P1, L⟩ : RG)) e_X10_token_127 fp_X10_110 h7520 (by decide) ⟨_, rfl⟩ (fun _ _ _ _ q => q) (fun _ _ _ q => q) rfl rfl (by decide) (fun σ7529 h7530 g7531 g7532 f7533 => ?_)
          have he7534 := he7524.of (g7532 18 (by decide)) (elI_eq (g7531 _ (by omega)))
          refine m_aload_n F rfl e_X10_token_130 ?_
          refine r_getC F e_X10_token_131 fl_X10_110 h7530 (f7533) ?_
          refine m_iconst F (v := 1) (by decide) e_X10_token_134 ?_
          refine m_icmp_ne F e_X10_token_135 (fun q => absurd (by decide) q) (fun _ => ?_)
          refine m_aload_n F rfl e_X10_token_138 ?_
          refine r_callV F e_X10_token_139 (q_X10_nameHere (x_l X) V c T Z u h P1 L _ _  h7530.1 (hob) hP1 ) cb_X10_nameHere ml_X10_123 im_X10_nameHere se_X10_nameHere h7530 rfl rfl (rest := []) rfl (Nat.le_of_ble_eq_true rfl) ⟨Nat.le_of_ble_eq_true rfl, Nat.le_of_ble_eq_true rfl⟩ ⟨Nat.le_of_ble_eq_true rfl, Nat.le_of_ble_eq_true rfl⟩ (fun r σ7535 hp => ?_)
          obtain ⟨h7536, rfl⟩ := hp
          have h7537 := HS.trans h7530 h7536 (by decide)
          refine m_goto F e_X10_token_142 ?_
          exact m_vret F hQ e_X10_token_245 (⟨P1, hP1, (by unfold RA; omega), (Or.inr (by omega)), h7537, rfl⟩)
        · obtain ⟨n7538, hn7538, rfl⟩ := nI_nn (x := x7528) (fun e => q119 (Int32.le_trans (Int32.le_of_lt e) (by decide)))
          have c119 : n7538 > 6 := by have hh := mt (nI_leI (a := n7538) (b := 6) (by omega) (by omega)).mpr q119; omega
          refine m_iconst F (v := 5) (by decide) e_X10_token_122 ?_
          refine m_goto F e_X10_token_123 ?_
          refine r_put F (g' := (⟨T, Z, u, h, P1, L⟩ : RG)) e_X10_token_127 fp_X10_110 h7520 (by decide) ⟨_, rfl⟩ (fun _ _ _ _ q => q) (fun _ _ _ q => q) rfl rfl (by decide) (fun σ7539 h7540 g7541 g7542 f7543 => ?_)
          have he7544 := he7524.of (g7542 18 (by decide)) (elI_eq (g7541 _ (by omega)))
          refine m_aload_n F rfl e_X10_token_130 ?_
          refine r_getC F e_X10_token_131 fl_X10_110 h7540 (f7543) ?_
          refine m_iconst F (v := 1) (by decide) e_X10_token_134 ?_
          refine m_icmp_ne F e_X10_token_135 (fun _ => ?_) (fun q => absurd q (by decide))
          exact m_vret F hQ e_X10_token_245 (⟨P1, hP1, (by unfold RA; omega), (Or.inr (by omega)), h7540, rfl⟩)
      · refine m_iconst F (v := 0) (by decide) e_X10_token_104 ?_
        refine m_goto F e_X10_token_105 ?_
        refine r_put F (g' := (⟨T, Z, u, h, P1, L⟩ : RG)) e_X10_token_127 fp_X10_110 h7520 (by decide) ⟨_, rfl⟩ (fun _ _ _ _ q => q) (fun _ _ _ q => q) rfl rfl (by decide) (fun σ7545 h7546 g7547 g7548 f7549 => ?_)
        have he7550 := he7524.of (g7548 18 (by decide)) (elI_eq (g7547 _ (by omega)))
        refine m_aload_n F rfl e_X10_token_130 ?_
        refine r_getC F e_X10_token_131 fl_X10_110 h7546 (f7549) ?_
        refine m_iconst F (v := 1) (by decide) e_X10_token_134 ?_
        refine m_icmp_ne F e_X10_token_135 (fun _ => ?_) (fun q => absurd q (by decide))
        exact m_vret F hQ e_X10_token_245 (⟨P1, hP1, (by unfold RA; omega), (Or.inr (by omega)), h7546, rfl⟩)
    · refine m_if_eq F e_X10_token_71 (fun q => absurd q (by decide)) (fun _ => ?_)
      have ha7551 := gex7508.lt (fun e => g7513.1 (by rw [e]; decide))
      have ha7552 := gex7508.lt (fun e => g7513.1 (by rw [e]; decide))
      have ha7553 := gex7508.lt (fun e => g7513.1 (by rw [e]; decide))
      refine m_aload_n F rfl e_X10_token_74 ?_
      refine m_dup F rfl e_X10_token_75 ?_
      refine r_get F e_X10_token_76 fl_X10_97 h7507 rfl (fun v hv f7554 => ?_)
      obtain rfl : v = .int (nI (P1.a)) := hv
      refine m_iconst F (v := 1) (by decide) e_X10_token_79 ?_
      refine m_iadd F e_X10_token_80 ?_
      refine Wm.topE (w := nI (P1.a + 1)) (nI_add P1.a 1) ?_
      refine r_put F (g' := (⟨T, Z, u, h, (mkP P1.n0 P1.n2 P1.n5 P1.n7 P1.m0 P1.m5 P1.w2 P1.w7 P1.kk (P1.a + 1) P1.b0 P1.b1 P1.b2 P1.b3), L⟩ : RG)) e_X10_token_81 fp_X10_97 h7507 (by decide) rfl ctl_a CR.setA rfl rfl (by decide) (fun σ7555 h7556 g7557 g7558 f7559 => ?_)
      obtain ⟨P7560, eP7560⟩ : ∃ P9, P9 = (mkP P1.n0 P1.n2 P1.n5 P1.n7 P1.m0 P1.m5 P1.w2 P1.w7 P1.kk (P1.a + 1) P1.b0 P1.b1 P1.b2 P1.b3) := ⟨_, rfl⟩
      rw [← eP7560] at h7556
      have fP7560 : P7560.n0 = P1.n0 ∧ P7560.n2 = P1.n2 ∧ P7560.n5 = P1.n5 ∧ P7560.n7 = P1.n7 ∧ P7560.m0 = P1.m0 ∧ P7560.m5 = P1.m5 ∧ P7560.w2 = P1.w2 ∧ P7560.w7 = P1.w7 ∧ P7560.kk = P1.kk ∧ P7560.a = P1.a + 1 ∧ P7560.b0 = P1.b0 ∧ P7560.b1 = P1.b1 ∧ P7560.b2 = P1.b2 ∧ P7560.b3 = P1.b3 := by rw [eP7560]; exact ⟨rfl, rfl, rfl, rfl, rfl, rfl, rfl, rfl, rfl, rfl, rfl, rfl, rfl, rfl⟩
      have he7561 := gex7508.of (g7558 18 (by decide)) (elI_eq (g7557 _ (by omega)))
      refine m_goto F e_X10_token_84 ?_
      have oP7562 : OKP P7560 := by unfold OKP; omega
      exact ih  P7560 _ h7556 oP7562 (by unfold RA; omega) (by omega) (by omega)
set_option maxRecDepth 20000 in
theorem lq_X10_token_0 {V : VX} {X : MX} {N : Nat} {σ : Mem} {c T Z u h : Nat} {P : NP} {L : Nat → LQ}   (F : Fx V X yX10_token cX10_token 2 none (rmd 5 0 0)) (hQ : Rt V X 0 0 N (fun r τ => ∃ P9 : NP, OKP P9 ∧ RA P P9 ∧ (fld τ c 21 = some (.int 4) ∨ P.a < P9.a) ∧ HS V c (⟨T, Z, u, h, P9, L⟩ : RG) [0, 2, 3, 4, 5, 6, 7, 8, 9, 10, 11, 12, 13, 14, 15, 16, 17, 18, 19, 20, 21, 22, 23] σ τ ∧ r = none)) (hob : OKB L) (hP : OKP P)   : ∀ (fuel : Nat)  (P1 : NP) (τ : Mem), HS V c (⟨T, Z, u, h, P1, L⟩ : RG) [0, 2, 3, 4, 5, 6, 7, 8, 9, 10, 11, 12, 13, 14, 15, 16, 17, 18, 19, 20, 21, 22, 23] σ τ → OKP P1 → RA P P1 → True → 700 - P1.a < fuel → Wm V X 2 N τ 0 0 0 [(0, .ref c)] [] := by
  intro fuel
  induction fuel with
  | zero => intros; rename_i hm; exact absurd hm (Nat.not_lt_zero _)
  | succ fuel ih =>
    intro  P1 τ h1 hP1 hR1 hi hm
    have hPP := hP
    unfold OKP at hPP
    have hPP1 := hP1
    unfold OKP at hPP1
    unfold RA at hR1
    refine m_aload_n F rfl e_X10_token_0 ?_
    refine r_callV F e_X10_token_1 (q_X10_here (x_l X) V c T Z u h P1 L _ _  h1.1 (hob) hP1 ) cb_X10_here ml_X10_103 im_X10_here se_X10_here h1 rfl rfl (rest := []) rfl (Nat.le_of_ble_eq_true rfl) ⟨Nat.le_of_ble_eq_true rfl, Nat.le_of_ble_eq_true rfl⟩ ⟨Nat.le_of_ble_eq_true rfl, Nat.le_of_ble_eq_true rfl⟩ (fun r σ7563 hp => ?_)
    obtain ⟨h7564, x7566, gex7566, rfl⟩ := hp
    have h7565 := HS.trans h1 h7564 (by decide)
    refine m_bipush F (v := 10) (by decide) e_X10_token_4 ?_
    refine m_icmp_eq F e_X10_token_6 (fun q6 => ?_) (fun q6 => ?_)
    · subst q6
      have ha7567 := gex7566.lt (by decide)
      refine m_aload_n F rfl e_X10_token_18 ?_
      refine m_dup F rfl e_X10_token_19 ?_
      refine r_get F e_X10_token_20 fl_X10_97 h7565 rfl (fun v hv f7568 => ?_)
      obtain rfl : v = .int (nI (P1.a)) := hv
      refine m_iconst F (v := 1) (by decide) e_X10_token_23 ?_
      refine m_iadd F e_X10_token_24 ?_
      refine Wm.topE (w := nI (P1.a + 1)) (nI_add P1.a 1) ?_
      refine r_put F (g' := (⟨T, Z, u, h, (mkP P1.n0 P1.n2 P1.n5 P1.n7 P1.m0 P1.m5 P1.w2 P1.w7 P1.kk (P1.a + 1) P1.b0 P1.b1 P1.b2 P1.b3), L⟩ : RG)) e_X10_token_25 fp_X10_97 h7565 (by decide) rfl ctl_a CR.setA rfl rfl (by decide) (fun σ7569 h7570 g7571 g7572 f7573 => ?_)
      obtain ⟨P7574, eP7574⟩ : ∃ P9, P9 = (mkP P1.n0 P1.n2 P1.n5 P1.n7 P1.m0 P1.m5 P1.w2 P1.w7 P1.kk (P1.a + 1) P1.b0 P1.b1 P1.b2 P1.b3) := ⟨_, rfl⟩
      rw [← eP7574] at h7570
      have fP7574 : P7574.n0 = P1.n0 ∧ P7574.n2 = P1.n2 ∧ P7574.n5 = P1.n5 ∧ P7574.n7 = P1.n7 ∧ P7574.m0 = P1.m0 ∧ P7574.m5 = P1.m5 ∧ P7574.w2 = P1.w2 ∧ P7574.w7 = P1.w7 ∧ P7574.kk = P1.kk ∧ P7574.a = P1.a + 1 ∧ P7574.b0 = P1.b0 ∧ P7574.b1 = P1.b1 ∧ P7574.b2 = P1.b2 ∧ P7574.b3 = P1.b3 := by rw [eP7574]; exact ⟨rfl, rfl, rfl, rfl, rfl, rfl, rfl, rfl, rfl, rfl, rfl, rfl, rfl, rfl⟩
      have he7575 := gex7566.of (g7572 18 (by decide)) (elI_eq (g7571 _ (by omega)))
      refine m_goto F e_X10_token_28 ?_
      have oP7576 : OKP P7574 := by unfold OKP; omega
      exact ih  P7574 _ h7570 oP7576 (by unfold RA; omega) trivial (by omega)
    · refine m_aload_n F rfl e_X10_token_9 ?_
      refine r_callV F e_X10_token_10 (q_X10_here (x_l X) V c T Z u h P1 L _ _  h7565.1 (hob) hP1 ) cb_X10_here ml_X10_103 im_X10_here se_X10_here h7565 rfl rfl (rest := []) rfl (Nat.le_of_ble_eq_true rfl) ⟨Nat.le_of_ble_eq_true rfl, Nat.le_of_ble_eq_true rfl⟩ ⟨Nat.le_of_ble_eq_true rfl, Nat.le_of_ble_eq_true rfl⟩ (fun r σ7577 hp => ?_)
      obtain ⟨h7578, x7580, gex7580, rfl⟩ := hp
      have h7579 := HS.trans h7565 h7578 (by decide)
      have he7581 := gex7566.of (fld_eq (h7578.2 c (by rw [show kC c c = 1 from kC_at (k := 0) (by decide)]; decide))) (elI_eq (h7578.2 (c + 1) (by rw [kC_at (k := 1) (by decide)]; decide)))
      obtain rfl : x7566 = x7580 := HE.uniq he7581 gex7580
      refine m_bipush F (v := 32) (by decide) e_X10_token_13 ?_
      refine m_icmp_ne F e_X10_token_15 (fun q15 => ?_) (fun q15 => ?_)
      · refine m_aload_n F rfl e_X10_token_31 ?_
        refine m_aload_n F rfl e_X10_token_32 ?_
        refine r_get F e_X10_token_33 fl_X10_97 h7579 rfl (fun v hv f7582 => ?_)
        obtain rfl : v = .int (nI (P1.a)) := hv
        refine r_put F (g' := (⟨T, Z, u, h, P1, L⟩ : RG)) e_X10_token_36 fp_X10_107 h7579 (by decide) ⟨P1.a, (show P1.a ≤ 700 by omega), rfl⟩ (fun _ _ _ _ q => q) (fun _ _ _ q => q) rfl rfl (by decide) (fun σ7583 h7584 g7585 g7586 f7587 => ?_)
        have he7588 := gex7580.of (g7586 18 (by decide)) (elI_eq (g7585 _ (by omega)))
        refine m_aload_n F rfl e_X10_token_39 ?_
        refine r_callV F e_X10_token_40 (q_X10_here (x_l X) V c T Z u h P1 L _ _  h7584.1 (hob) hP1 ) cb_X10_here ml_X10_103 im_X10_here se_X10_here h7584 rfl rfl (rest := []) rfl (Nat.le_of_ble_eq_true rfl) ⟨Nat.le_of_ble_eq_true rfl, Nat.le_of_ble_eq_true rfl⟩ ⟨Nat.le_of_ble_eq_true rfl, Nat.le_of_ble_eq_true rfl⟩ (fun r σ7589 hp => ?_)
        obtain ⟨h7590, x7592, gex7592, rfl⟩ := hp
        have h7591 := HS.trans h7584 h7590 (by decide)
        have he7593 := he7588.of (fld_eq (h7590.2 c (by rw [show kC c c = 1 from kC_at (k := 0) (by decide)]; decide))) (elI_eq (h7590.2 (c + 1) (by rw [kC_at (k := 1) (by decide)]; decide)))
        obtain rfl : x7566 = x7592 := HE.uniq he7593 gex7592
        refine m_istore_n F (lv' := [(1, .int x7566), (0, .ref c)]) e_X10_token_43 (by decide) rfl ?_
        refine m_iload_n F rfl e_X10_token_44 ?_
        refine m_iconst F (v := (-1)) (by decide) e_X10_token_45 ?_
        refine m_icmp_ne F e_X10_token_46 (fun q46 => ?_) (fun q46 => ?_)
        · have ha7594 := gex7592.lt q46
          refine m_iload_n F rfl e_X10_token_57 ?_
          refine m_callS F e_X10_token_58 (q_X10_isSmall2 (x_l X) V _ _ x7566 ) cb_X10_isSmall ml_X10_113 sm_X10_isSmall rfl (rest := []) rfl (Nat.le_of_ble_eq_true rfl) ⟨Nat.le_of_ble_eq_true rfl, Nat.le_of_ble_eq_true rfl⟩ ⟨Nat.le_of_ble_eq_true rfl, Nat.le_of_ble_eq_true rfl⟩ (k' := 0) (z' := 0) (N' := N) rfl rfl rfl (fun r σ7595 hp => ?_)
          obtain ⟨rfl, c7598⟩ := hp
          rcases c7598 with ⟨g7599, rfl⟩ | ⟨g7599, rfl⟩
          · refine m_if_eq F e_X10_token_61 (fun _ => ?_) (fun q => absurd (by decide) q)
            refine m_iload_n F rfl e_X10_token_145 ?_
            refine m_callS F e_X10_token_146 (q_X10_isDigit2 (x_l X) V _ _ x7566 ) cb_X10_isDigit ml_X10_126 sm_X10_isDigit rfl (rest := []) rfl (Nat.le_of_ble_eq_true rfl) ⟨Nat.le_of_ble_eq_true rfl, Nat.le_of_ble_eq_true rfl⟩ ⟨Nat.le_of_ble_eq_true rfl, Nat.le_of_ble_eq_true rfl⟩ (k' := 0) (z' := 0) (N' := N) rfl rfl rfl (fun r σ7600 hp => ?_)
            obtain ⟨rfl, c7603⟩ := hp
            rcases c7603 with ⟨g7604, rfl⟩ | ⟨g7604, rfl⟩
            · refine m_if_eq F e_X10_token_149 (fun _ => ?_) (fun q => absurd (by decide) q)
              refine m_aload_n F rfl e_X10_token_220 ?_
              refine m_iload_n F rfl e_X10_token_221 ?_
              refine m_bipush F (v := 59) (by decide) e_X10_token_222 ?_
              refine m_icmp_ne F e_X10_token_224 (fun q224 => ?_) (fun q224 => ?_)
              · refine m_iconst F (v := 5) (by decide) e_X10_token_231 ?_
                refine r_put F (g' := (⟨T, Z, u, h, P1, L⟩ : RG)) e_X10_token_232 fp_X10_110 h7591 (by decide) ⟨_, rfl⟩ (fun _ _ _ _ q => q) (fun _ _ _ q => q) rfl rfl (by decide) (fun σ7605 h7606 g7607 g7608 f7609 => ?_)
                have he7610 := gex7592.of (g7608 18 (by decide)) (elI_eq (g7607 _ (by omega)))
                refine m_aload_n F rfl e_X10_token_235 ?_
                refine m_dup F rfl e_X10_token_236 ?_
                refine r_getC F e_X10_token_237 fl_X10_97 h7606 ((g7608 19 (by decide)).trans ((fld_eq (h7590.2 c (by rw [show kC c c = 1 from kC_at (k := 0) (by decide)]; decide))).trans ((g7586 19 (by decide)).trans f7582))) ?_
                refine m_iconst F (v := 1) (by decide) e_X10_token_240 ?_
                refine m_iadd F e_X10_token_241 ?_
                refine Wm.topE (w := nI (P1.a + 1)) (nI_add P1.a 1) ?_
                refine r_put F (g' := (⟨T, Z, u, h, (mkP P1.n0 P1.n2 P1.n5 P1.n7 P1.m0 P1.m5 P1.w2 P1.w7 P1.kk (P1.a + 1) P1.b0 P1.b1 P1.b2 P1.b3), L⟩ : RG)) e_X10_token_242 fp_X10_97 h7606 (by decide) rfl ctl_a CR.setA rfl rfl (by decide) (fun σ7611 h7612 g7613 g7614 f7615 => ?_)
                obtain ⟨P7616, eP7616⟩ : ∃ P9, P9 = (mkP P1.n0 P1.n2 P1.n5 P1.n7 P1.m0 P1.m5 P1.w2 P1.w7 P1.kk (P1.a + 1) P1.b0 P1.b1 P1.b2 P1.b3) := ⟨_, rfl⟩
                rw [← eP7616] at h7612
                have fP7616 : P7616.n0 = P1.n0 ∧ P7616.n2 = P1.n2 ∧ P7616.n5 = P1.n5 ∧ P7616.n7 = P1.n7 ∧ P7616.m0 = P1.m0 ∧ P7616.m5 = P1.m5 ∧ P7616.w2 = P1.w2 ∧ P7616.w7 = P1.w7 ∧ P7616.kk = P1.kk ∧ P7616.a = P1.a + 1 ∧ P7616.b0 = P1.b0 ∧ P7616.b1 = P1.b1 ∧ P7616.b2 = P1.b2 ∧ P7616.b3 = P1.b3 := by rw [eP7616]; exact ⟨rfl, rfl, rfl, rfl, rfl, rfl, rfl, rfl, rfl, rfl, rfl, rfl, rfl, rfl⟩
                have he7617 := he7610.of (g7614 18 (by decide)) (elI_eq (g7613 _ (by omega)))
                have oP7618 : OKP P7616 := by unfold OKP; omega
                exact m_vret F hQ e_X10_token_245 (⟨P7616, oP7618, (by unfold RA; omega), (Or.inr (by omega)), h7612, rfl⟩)
              · subst q224
                refine m_iconst F (v := 3) (by decide) e_X10_token_227 ?_
                refine m_goto F e_X10_token_228 ?_
                refine r_put F (g' := (⟨T, Z, u, h, P1, L⟩ : RG)) e_X10_token_232 fp_X10_110 h7591 (by decide) ⟨_, rfl⟩ (fun _ _ _ _ q => q) (fun _ _ _ q => q) rfl rfl (by decide) (fun σ7619 h7620 g7621 g7622 f7623 => ?_)
                have he7624 := gex7592.of (g7622 18 (by decide)) (elI_eq (g7621 _ (by omega)))
                refine m_aload_n F rfl e_X10_token_235 ?_
                refine m_dup F rfl e_X10_token_236 ?_
                refine r_getC F e_X10_token_237 fl_X10_97 h7620 ((g7622 19 (by decide)).trans ((fld_eq (h7590.2 c (by rw [show kC c c = 1 from kC_at (k := 0) (by decide)]; decide))).trans ((g7586 19 (by decide)).trans f7582))) ?_
                refine m_iconst F (v := 1) (by decide) e_X10_token_240 ?_
                refine m_iadd F e_X10_token_241 ?_
                refine Wm.topE (w := nI (P1.a + 1)) (nI_add P1.a 1) ?_
                refine r_put F (g' := (⟨T, Z, u, h, (mkP P1.n0 P1.n2 P1.n5 P1.n7 P1.m0 P1.m5 P1.w2 P1.w7 P1.kk (P1.a + 1) P1.b0 P1.b1 P1.b2 P1.b3), L⟩ : RG)) e_X10_token_242 fp_X10_97 h7620 (by decide) rfl ctl_a CR.setA rfl rfl (by decide) (fun σ7625 h7626 g7627 g7628 f7629 => ?_)
                obtain ⟨P7630, eP7630⟩ : ∃ P9, P9 = (mkP P1.n0 P1.n2 P1.n5 P1.n7 P1.m0 P1.m5 P1.w2 P1.w7 P1.kk (P1.a + 1) P1.b0 P1.b1 P1.b2 P1.b3) := ⟨_, rfl⟩
                rw [← eP7630] at h7626
                have fP7630 : P7630.n0 = P1.n0 ∧ P7630.n2 = P1.n2 ∧ P7630.n5 = P1.n5 ∧ P7630.n7 = P1.n7 ∧ P7630.m0 = P1.m0 ∧ P7630.m5 = P1.m5 ∧ P7630.w2 = P1.w2 ∧ P7630.w7 = P1.w7 ∧ P7630.kk = P1.kk ∧ P7630.a = P1.a + 1 ∧ P7630.b0 = P1.b0 ∧ P7630.b1 = P1.b1 ∧ P7630.b2 = P1.b2 ∧ P7630.b3 = P1.b3 := by rw [eP7630]; exact ⟨rfl, rfl, rfl, rfl, rfl, rfl, rfl, rfl, rfl, rfl, rfl, rfl, rfl, rfl⟩
                have he7631 := he7624.of (g7628 18 (by decide)) (elI_eq (g7627 _ (by omega)))
                have oP7632 : OKP P7630 := by unfold OKP; omega
                exact m_vret F hQ e_X10_token_245 (⟨P7630, oP7632, (by unfold RA; omega), (Or.inr (by omega)), h7626, rfl⟩)
            · refine m_if_eq F e_X10_token_149 (fun q => absurd q (by decide)) (fun _ => ?_)
              refine m_aload_n F rfl e_X10_token_152 ?_
              refine m_iconst F (v := 2) (by decide) e_X10_token_153 ?_
              refine r_put F (g' := (⟨T, Z, u, h, P1, L⟩ : RG)) e_X10_token_154 fp_X10_110 h7591 (by decide) ⟨_, rfl⟩ (fun _ _ _ _ q => q) (fun _ _ _ q => q) rfl rfl (by decide) (fun σ7633 h7634 g7635 g7636 f7637 => ?_)
              have he7638 := gex7592.of (g7636 18 (by decide)) (elI_eq (g7635 _ (by omega)))
              refine m_aload_n F rfl e_X10_token_157 ?_
              refine m_iconst F (v := 0) (by decide) e_X10_token_158 ?_
              refine r_put F (g' := (⟨T, Z, u, h, P1, L⟩ : RG)) e_X10_token_159 fp_X10_120 h7634 (by decide) ⟨_, rfl⟩ (fun _ _ _ _ q => q) (fun _ _ _ q => q) rfl rfl (by decide) (fun σ7639 h7640 g7641 g7642 f7643 => ?_)
              have he7644 := he7638.of (g7642 18 (by decide)) (elI_eq (g7641 _ (by omega)))
              refine m_aload_n F rfl e_X10_token_162 ?_
              refine r_callV F e_X10_token_163 (q_X10_here (x_l X) V c T Z u h P1 L _ _  h7640.1 (hob) hP1 ) cb_X10_here ml_X10_103 im_X10_here se_X10_here h7640 rfl rfl (rest := []) rfl (Nat.le_of_ble_eq_true rfl) ⟨Nat.le_of_ble_eq_true rfl, Nat.le_of_ble_eq_true rfl⟩ ⟨Nat.le_of_ble_eq_true rfl, Nat.le_of_ble_eq_true rfl⟩ (fun r σ7645 hp => ?_)
              obtain ⟨h7646, x7648, gex7648, rfl⟩ := hp
              have h7647 := HS.trans h7640 h7646 (by decide)
              have he7649 := he7644.of (fld_eq (h7646.2 c (by rw [show kC c c = 1 from kC_at (k := 0) (by decide)]; decide))) (elI_eq (h7646.2 (c + 1) (by rw [kC_at (k := 1) (by decide)]; decide)))
              obtain rfl : x7566 = x7648 := HE.uniq he7649 gex7648
              refine m_callS F e_X10_token_166 (q_X10_isDigit2 (x_l X) V _ _ x7566 ) cb_X10_isDigit ml_X10_126 sm_X10_isDigit rfl (rest := []) rfl (Nat.le_of_ble_eq_true rfl) ⟨Nat.le_of_ble_eq_true rfl, Nat.le_of_ble_eq_true rfl⟩ ⟨Nat.le_of_ble_eq_true rfl, Nat.le_of_ble_eq_true rfl⟩ (k' := 0) (z' := 0) (N' := N) rfl rfl rfl (fun r σ7650 hp => ?_)
              obtain ⟨rfl, c7653⟩ := hp
              rcases c7653 with ⟨g7654, rfl⟩ | ⟨g7654, rfl⟩
              · exact absurd g7604 g7654
              · refine m_if_eq F e_X10_token_169 (fun q => absurd q (by decide)) (fun _ => ?_)
                have ha7655 := gex7648.lt (fun e => g7654.1 (by rw [e]; decide))
                have ha7656 := gex7648.lt (fun e => g7654.1 (by rw [e]; decide))
                have ha7657 := gex7648.lt (fun e => g7654.1 (by rw [e]; decide))
                refine m_aload_n F rfl e_X10_token_172 ?_
                refine m_aload_n F rfl e_X10_token_173 ?_
                refine r_getC F e_X10_token_174 fl_X10_120 h7647 ((fld_eq (h7646.2 c (by rw [show kC c c = 1 from kC_at (k := 0) (by decide)]; decide))).trans f7643) ?_
                refine m_ldc F kc_X10_129 e_X10_token_177 ?_
                refine m_icmp_le F e_X10_token_179 (fun _ => ?_) (fun q => absurd (by decide) q)
                refine m_bipush F (v := 10) (by decide) e_X10_token_189 ?_
                refine m_aload_n F rfl e_X10_token_191 ?_
                refine r_getC F e_X10_token_192 fl_X10_120 h7647 ((fld_eq (h7646.2 c (by rw [show kC c c = 1 from kC_at (k := 0) (by decide)]; decide))).trans f7643) ?_
                refine m_imul F e_X10_token_195 ?_
                refine Wm.topE (w := 0) (by decide) ?_
                refine m_aload_n F rfl e_X10_token_196 ?_
                refine r_callV F e_X10_token_197 (q_X10_here (x_l X) V c T Z u h P1 L _ _  h7647.1 (hob) hP1 ) cb_X10_here ml_X10_103 im_X10_here se_X10_here h7647 rfl rfl (rest := [.int 0, .ref c]) rfl (Nat.le_of_ble_eq_true rfl) ⟨Nat.le_of_ble_eq_true rfl, Nat.le_of_ble_eq_true rfl⟩ ⟨Nat.le_of_ble_eq_true rfl, Nat.le_of_ble_eq_true rfl⟩ (fun r σ7658 hp => ?_)
                obtain ⟨h7659, x7661, gex7661, rfl⟩ := hp
                have h7660 := HS.trans h7647 h7659 (by decide)
                have he7662 := gex7648.of (fld_eq (h7659.2 c (by rw [show kC c c = 1 from kC_at (k := 0) (by decide)]; decide))) (elI_eq (h7659.2 (c + 1) (by rw [kC_at (k := 1) (by decide)]; decide)))
                obtain rfl : x7566 = x7661 := HE.uniq he7662 gex7661
                refine m_iadd F e_X10_token_200 ?_
                refine Wm.top (fun x7663 _ => ?_)
                refine m_bipush F (v := 48) (by decide) e_X10_token_201 ?_
                refine m_isub F e_X10_token_203 ?_
                refine Wm.top (fun x7664 _ => ?_)
                refine r_put F (g' := (⟨T, Z, u, h, P1, L⟩ : RG)) e_X10_token_204 fp_X10_120 h7660 (by decide) ⟨_, rfl⟩ (fun _ _ _ _ q => q) (fun _ _ _ q => q) rfl rfl (by decide) (fun σ7665 h7666 g7667 g7668 f7669 => ?_)
                have he7670 := gex7661.of (g7668 18 (by decide)) (elI_eq (g7667 _ (by omega)))
                refine m_aload_n F rfl e_X10_token_207 ?_
                refine m_dup F rfl e_X10_token_208 ?_
                refine r_getC F e_X10_token_209 fl_X10_97 h7666 ((g7668 19 (by decide)).trans ((fld_eq (h7659.2 c (by rw [show kC c c = 1 from kC_at (k := 0) (by decide)]; decide))).trans ((fld_eq (h7646.2 c (by rw [show kC c c = 1 from kC_at (k := 0) (by decide)]; decide))).trans ((g7642 19 (by decide)).trans ((g7636 19 (by decide)).trans ((fld_eq (h7590.2 c (by rw [show kC c c = 1 from kC_at (k := 0) (by decide)]; decide))).trans ((g7586 19 (by decide)).trans f7582))))))) ?_
                refine m_iconst F (v := 1) (by decide) e_X10_token_212 ?_
                refine m_iadd F e_X10_token_213 ?_
                refine Wm.topE (w := nI (P1.a + 1)) (nI_add P1.a 1) ?_
                refine r_put F (g' := (⟨T, Z, u, h, (mkP P1.n0 P1.n2 P1.n5 P1.n7 P1.m0 P1.m5 P1.w2 P1.w7 P1.kk (P1.a + 1) P1.b0 P1.b1 P1.b2 P1.b3), L⟩ : RG)) e_X10_token_214 fp_X10_97 h7666 (by decide) rfl ctl_a CR.setA rfl rfl (by decide) (fun σ7671 h7672 g7673 g7674 f7675 => ?_)
                obtain ⟨P7676, eP7676⟩ : ∃ P9, P9 = (mkP P1.n0 P1.n2 P1.n5 P1.n7 P1.m0 P1.m5 P1.w2 P1.w7 P1.kk (P1.a + 1) P1.b0 P1.b1 P1.b2 P1.b3) := ⟨_, rfl⟩
                rw [← eP7676] at h7672
                have fP7676 : P7676.n0 = P1.n0 ∧ P7676.n2 = P1.n2 ∧ P7676.n5 = P1.n5 ∧ P7676.n7 = P1.n7 ∧ P7676.m0 = P1.m0 ∧ P7676.m5 = P1.m5 ∧ P7676.w2 = P1.w2 ∧ P7676.w7 = P1.w7 ∧ P7676.kk = P1.kk ∧ P7676.a = P1.a + 1 ∧ P7676.b0 = P1.b0 ∧ P7676.b1 = P1.b1 ∧ P7676.b2 = P1.b2 ∧ P7676.b3 = P1.b3 := by rw [eP7676]; exact ⟨rfl, rfl, rfl, rfl, rfl, rfl, rfl, rfl, rfl, rfl, rfl, rfl, rfl, rfl⟩
                have he7677 := he7670.of (g7674 18 (by decide)) (elI_eq (g7673 _ (by omega)))
                refine m_goto F e_X10_token_217 ?_
                refine Wm.lvsub (lv' := [(0, .ref c)]) ?_ [1] rfl
                have oP7678 : OKP P7676 := by unfold OKP; omega
                exact lq_X10_token_162 F hQ hob hP  (700 - P7676.a + 1)  P7676 _ h7672 oP7678 (by unfold RA; omega) (by omega) (Nat.lt_succ_self _)
          · refine m_if_eq F e_X10_token_61 (fun q => absurd q (by decide)) (fun _ => ?_)
            refine m_aload_n F rfl e_X10_token_64 ?_
            refine r_callV F e_X10_token_65 (q_X10_here (x_l X) V c T Z u h P1 L _ _  h7591.1 (hob) hP1 ) cb_X10_here ml_X10_103 im_X10_here se_X10_here h7591 rfl rfl (rest := []) rfl (Nat.le_of_ble_eq_true rfl) ⟨Nat.le_of_ble_eq_true rfl, Nat.le_of_ble_eq_true rfl⟩ ⟨Nat.le_of_ble_eq_true rfl, Nat.le_of_ble_eq_true rfl⟩ (fun r σ7679 hp => ?_)
            obtain ⟨h7680, x7682, gex7682, rfl⟩ := hp
            have h7681 := HS.trans h7591 h7680 (by decide)
            have he7683 := gex7592.of (fld_eq (h7680.2 c (by rw [show kC c c = 1 from kC_at (k := 0) (by decide)]; decide))) (elI_eq (h7680.2 (c + 1) (by rw [kC_at (k := 1) (by decide)]; decide)))
            obtain rfl : x7566 = x7682 := HE.uniq he7683 gex7682
            refine m_callS F e_X10_token_68 (q_X10_isSmall2 (x_l X) V _ _ x7566 ) cb_X10_isSmall ml_X10_113 sm_X10_isSmall rfl (rest := []) rfl (Nat.le_of_ble_eq_true rfl) ⟨Nat.le_of_ble_eq_true rfl, Nat.le_of_ble_eq_true rfl⟩ ⟨Nat.le_of_ble_eq_true rfl, Nat.le_of_ble_eq_true rfl⟩ (k' := 0) (z' := 0) (N' := N) rfl rfl rfl (fun r σ7684 hp => ?_)
            obtain ⟨rfl, c7687⟩ := hp
            rcases c7687 with ⟨g7688, rfl⟩ | ⟨g7688, rfl⟩
            · exact absurd g7599 g7688
            · refine m_if_eq F e_X10_token_71 (fun q => absurd q (by decide)) (fun _ => ?_)
              have ha7689 := gex7682.lt (fun e => g7688.1 (by rw [e]; decide))
              have ha7690 := gex7682.lt (fun e => g7688.1 (by rw [e]; decide))
              have ha7691 := gex7682.lt (fun e => g7688.1 (by rw [e]; decide))
              refine m_aload_n F rfl e_X10_token_74 ?_
              refine m_dup F rfl e_X10_token_75 ?_
              refine r_getC F e_X10_token_76 fl_X10_97 h7681 ((fld_eq (h7680.2 c (by rw [show kC c c = 1 from kC_at (k := 0) (by decide)]; decide))).trans ((fld_eq (h7590.2 c (by rw [show kC c c = 1 from kC_at (k := 0) (by decide)]; decide))).trans ((g7586 19 (by decide)).trans f7582))) ?_
              refine m_iconst F (v := 1) (by decide) e_X10_token_79 ?_
              refine m_iadd F e_X10_token_80 ?_
              refine Wm.topE (w := nI (P1.a + 1)) (nI_add P1.a 1) ?_
              refine r_put F (g' := (⟨T, Z, u, h, (mkP P1.n0 P1.n2 P1.n5 P1.n7 P1.m0 P1.m5 P1.w2 P1.w7 P1.kk (P1.a + 1) P1.b0 P1.b1 P1.b2 P1.b3), L⟩ : RG)) e_X10_token_81 fp_X10_97 h7681 (by decide) rfl ctl_a CR.setA rfl rfl (by decide) (fun σ7692 h7693 g7694 g7695 f7696 => ?_)
              obtain ⟨P7697, eP7697⟩ : ∃ P9, P9 = (mkP P1.n0 P1.n2 P1.n5 P1.n7 P1.m0 P1.m5 P1.w2 P1.w7 P1.kk (P1.a + 1) P1.b0 P1.b1 P1.b2 P1.b3) := ⟨_, rfl⟩
              rw [← eP7697] at h7693
              have fP7697 : P7697.n0 = P1.n0 ∧ P7697.n2 = P1.n2 ∧ P7697.n5 = P1.n5 ∧ P7697.n7 = P1.n7 ∧ P7697.m0 = P1.m0 ∧ P7697.m5 = P1.m5 ∧ P7697.w2 = P1.w2 ∧ P7697.w7 = P1.w7 ∧ P7697.kk = P1.kk ∧ P7697.a = P1.a + 1 ∧ P7697.b0 = P1.b0 ∧ P7697.b1 = P1.b1 ∧ P7697.b2 = P1.b2 ∧ P7697.b3 = P1.b3 := by rw [eP7697]; exact ⟨rfl, rfl, rfl, rfl, rfl, rfl, rfl, rfl, rfl, rfl, rfl, rfl, rfl, rfl⟩
              have he7698 := gex7682.of (g7695 18 (by decide)) (elI_eq (g7694 _ (by omega)))
              refine m_goto F e_X10_token_84 ?_
              refine Wm.lvsub (lv' := [(0, .ref c)]) ?_ [1] rfl
              have oP7699 : OKP P7697 := by unfold OKP; omega
              exact lq_X10_token_64 F hQ hob hP  (700 - P7697.a + 1)  P7697 _ h7693 oP7699 (by unfold RA; omega) (by omega) (Nat.lt_succ_self _)
        · subst q46
          refine m_aload_n F rfl e_X10_token_49 ?_
          refine m_iconst F (v := 4) (by decide) e_X10_token_50 ?_
          refine r_put F (g' := (⟨T, Z, u, h, P1, L⟩ : RG)) e_X10_token_51 fp_X10_110 h7591 (by decide) ⟨_, rfl⟩ (fun _ _ _ _ q => q) (fun _ _ _ q => q) rfl rfl (by decide) (fun σ7700 h7701 g7702 g7703 f7704 => ?_)
          have he7705 := gex7592.of (g7703 18 (by decide)) (elI_eq (g7702 _ (by omega)))
          refine m_goto F e_X10_token_54 ?_
          exact m_vret F hQ e_X10_token_245 (⟨P1, hP1, (by unfold RA; omega), (Or.inl (f7704)), h7701, rfl⟩)
      · subst q15
        have ha7706 := gex7580.lt (by decide)
        refine m_aload_n F rfl e_X10_token_18 ?_
        refine m_dup F rfl e_X10_token_19 ?_
        refine r_get F e_X10_token_20 fl_X10_97 h7579 rfl (fun v hv f7707 => ?_)
        obtain rfl : v = .int (nI (P1.a)) := hv
        refine m_iconst F (v := 1) (by decide) e_X10_token_23 ?_
        refine m_iadd F e_X10_token_24 ?_
        refine Wm.topE (w := nI (P1.a + 1)) (nI_add P1.a 1) ?_
        refine r_put F (g' := (⟨T, Z, u, h, (mkP P1.n0 P1.n2 P1.n5 P1.n7 P1.m0 P1.m5 P1.w2 P1.w7 P1.kk (P1.a + 1) P1.b0 P1.b1 P1.b2 P1.b3), L⟩ : RG)) e_X10_token_25 fp_X10_97 h7579 (by decide) rfl ctl_a CR.setA rfl rfl (by decide) (fun σ7708 h7709 g7710 g7711 f7712 => ?_)
        obtain ⟨P7713, eP7713⟩ : ∃ P9, P9 = (mkP P1.n0 P1.n2 P1.n5 P1.n7 P1.m0 P1.m5 P1.w2 P1.w7 P1.kk (P1.a + 1) P1.b0 P1.b1 P1.b2 P1.b3) := ⟨_, rfl⟩
        rw [← eP7713] at h7709
        have fP7713 : P7713.n0 = P1.n0 ∧ P7713.n2 = P1.n2 ∧ P7713.n5 = P1.n5 ∧ P7713.n7 = P1.n7 ∧ P7713.m0 = P1.m0 ∧ P7713.m5 = P1.m5 ∧ P7713.w2 = P1.w2 ∧ P7713.w7 = P1.w7 ∧ P7713.kk = P1.kk ∧ P7713.a = P1.a + 1 ∧ P7713.b0 = P1.b0 ∧ P7713.b1 = P1.b1 ∧ P7713.b2 = P1.b2 ∧ P7713.b3 = P1.b3 := by rw [eP7713]; exact ⟨rfl, rfl, rfl, rfl, rfl, rfl, rfl, rfl, rfl, rfl, rfl, rfl, rfl, rfl⟩
        have he7714 := gex7580.of (g7711 18 (by decide)) (elI_eq (g7710 _ (by omega)))
        refine m_goto F e_X10_token_28 ?_
        have oP7715 : OKP P7713 := by unfold OKP; omega
        exact ih  P7713 _ h7709 oP7715 (by unfold RA; omega) trivial (by omega)
set_option maxRecDepth 20000 in
theorem q_X10_token (l : Launch) (V : VX) (c T Z u h : Nat) (P : NP) (L : Nat → LQ) (N : Nat) (σ : Mem)  (h0 : HR V c ⟨T, Z, u, h, P, L⟩ σ) (hob : OKB L) (hP : OKP P)  : Ct l V yX10_token cX10_token 2 none 5 0 0 N σ [.ref c] (fun r τ => ∃ P9 : NP, OKP P9 ∧ RA P P9 ∧ (fld τ c 21 = some (.int 4) ∨ P.a < P9.a) ∧ HS V c (⟨T, Z, u, h, P9, L⟩ : RG) [0, 2, 3, 4, 5, 6, 7, 8, 9, 10, 11, 12, 13, 14, 15, 16, 17, 18, 19, 20, 21, 22, 23] σ τ ∧ r = none) := by
  refine Ct.of (by decide) (Nat.le_of_ble_eq_true rfl) [(0, .ref c)] rfl (fun X hX F hQ => ?_)
  have hPP := hP
  unfold OKP at hPP
  have h1 : HS V c ⟨T, Z, u, h, P, L⟩ [0, 2, 3, 4, 5, 6, 7, 8, 9, 10, 11, 12, 13, 14, 15, 16, 17, 18, 19, 20, 21, 22, 23] σ σ := HS.start h0
  exact lq_X10_token_0 F hQ hob hP  (700 - P.a + 1)  P _ h1 hP (by unfold RA; omega) trivial (Nat.lt_succ_self _)
set_option maxRecDepth 20000 in
theorem q_X10_wrong (l : Launch) (V : VX) (c T Z u h : Nat) (P : NP) (L : Nat → LQ) (N : Nat) (σ : Mem) (x901 : Int32) (h0 : HR V c ⟨T, Z, u, h, P, L⟩ σ) (hob : OKB L) (hP : OKP P) (hp0 : x901 ≠ 0) : Ct l V yX10_wrong cX10_wrong 2 none 0 0 0 N σ [.ref c, .int x901] (fun r τ => HS V c (⟨T, 0, u, h, P, L⟩ : RG) [0, 2, 3, 4, 5, 6, 7, 8, 9, 10, 11, 12, 13, 14, 15, 16, 17, 18, 19, 20, 21, 22, 23] σ τ ∧ r = none) := by
  refine Ct.of (by decide) (Nat.le_of_ble_eq_true rfl) [(0, .ref c), (1, .int x901)] rfl (fun X hX F hQ => ?_)
  have hPP := hP
  unfold OKP at hPP
  have h1 : HS V c ⟨T, Z, u, h, P, L⟩ [0, 2, 3, 4, 5, 6, 7, 8, 9, 10, 11, 12, 13, 14, 15, 16, 17, 18, 19, 20, 21, 22, 23] σ σ := HS.start h0
  refine m_aload_n F rfl e_X10_wrong_0 ?_
  refine r_get F e_X10_wrong_1 fl_X10_141 h1 rfl (fun v hv f7716 => ?_)
  obtain ⟨x7717, hx7717, rfl⟩ := hv
  replace hx7717 : Z = 0 → x7717 ≠ 0 := hx7717
  refine m_if_eq F e_X10_wrong_4 (fun q4 => ?_) (fun q4 => ?_)
  · subst q4
    refine m_aload_n F rfl e_X10_wrong_8 ?_
    refine m_iload_n F rfl e_X10_wrong_9 ?_
    refine r_put F (g' := (⟨T, 0, u, h, P, L⟩ : RG)) e_X10_wrong_10 fp_X10_141 h1 (by decide) ⟨_, (fun _ => hp0), rfl⟩ ctl_Z CR.ctl rfl rfl (by decide) (fun σ7718 h7719 g7720 g7721 f7722 => ?_)
    refine m_aload_n F rfl e_X10_wrong_13 ?_
    refine m_aload_n F rfl e_X10_wrong_14 ?_
    refine r_get F e_X10_wrong_15 fl_X10_107 h7719 rfl (fun v hv f7723 => ?_)
    obtain ⟨n7724, hn7724, rfl⟩ := hv
    replace hn7724 : n7724 ≤ 700 := hn7724
    refine r_put F (g' := (⟨T, 0, u, h, P, L⟩ : RG)) e_X10_wrong_18 fp_X10_144 h7719 (by decide) ⟨_, rfl⟩ (fun _ _ _ _ q => q) (fun _ _ _ q => q) rfl rfl (by decide) (fun σ7725 h7726 g7727 g7728 f7729 => ?_)
    exact m_vret F hQ e_X10_wrong_21 (⟨h7726, rfl⟩)
  · have h7730 := HS.z0 h1 (f7716) q4
    exact m_vret F hQ e_X10_wrong_7 (⟨h7730, rfl⟩)
set_option maxRecDepth 20000 in
theorem q_X10_goOn (l : Launch) (V : VX) (c T Z u h : Nat) (P : NP) (L : Nat → LQ) (N : Nat) (σ : Mem)  (h0 : HR V c ⟨T, Z, u, h, P, L⟩ σ) (hob : OKB L) (hP : OKP P)  : Ct l V yX10_goOn cX10_goOn 1 none 6 0 0 N σ [.ref c] (fun r τ => ∃ P9 : NP, OKP P9 ∧ RA P P9 ∧ PG c P.a P9.a τ ∧ HS V c (⟨T, Z, u, h, P9, L⟩ : RG) [0, 2, 3, 4, 5, 6, 7, 8, 9, 10, 11, 12, 13, 14, 15, 16, 17, 18, 19, 20, 21, 22, 23] σ τ ∧ r = none) := by
  refine Ct.of (by decide) (Nat.le_of_ble_eq_true rfl) [(0, .ref c)] rfl (fun X hX F hQ => ?_)
  have hPP := hP
  unfold OKP at hPP
  have h1 : HS V c ⟨T, Z, u, h, P, L⟩ [0, 2, 3, 4, 5, 6, 7, 8, 9, 10, 11, 12, 13, 14, 15, 16, 17, 18, 19, 20, 21, 22, 23] σ σ := HS.start h0
  refine m_aload_n F rfl e_X10_goOn_0 ?_
  refine r_get F e_X10_goOn_1 fl_X10_141 h1 rfl (fun v hv f7731 => ?_)
  obtain ⟨x7732, hx7732, rfl⟩ := hv
  replace hx7732 : Z = 0 → x7732 ≠ 0 := hx7732
  refine m_if_ne F e_X10_goOn_4 (fun q4 => ?_) (fun q4 => ?_)
  · have h7733 := HS.z0 h1 (f7731) q4
    have h7734 : HS V c _ [0, 2, 3, 4, 5, 6, 7, 8, 9, 10, 11, 12, 13, 14, 15, 16, 17, 18, 19, 20, 21, 22, 23] _ _ := ⟨HR.mono (Z' := Z) (by intro e; first | rfl | assumption | omega) h7733.1, h7733.2⟩
    exact m_vret F hQ e_X10_goOn_11 (⟨P, hP, (by unfold RA; omega), (PG.a1 h7733.1 (f7731) q4), h7734, rfl⟩)
  · subst q4
    refine m_aload_n F rfl e_X10_goOn_7 ?_
    refine r_callV F e_X10_goOn_8 (q_X10_token (x_l X) V c T Z u h P L _ _  h1.1 (hob) hP ) cb_X10_token ml_X10_147 im_X10_token se_X10_token h1 rfl rfl (rest := []) rfl (Nat.le_of_ble_eq_true rfl) ⟨Nat.le_of_ble_eq_true rfl, Nat.le_of_ble_eq_true rfl⟩ ⟨Nat.le_of_ble_eq_true rfl, Nat.le_of_ble_eq_true rfl⟩ (fun r σ7735 hp => ?_)
    obtain ⟨P7738, oP7738, rP7738, pr7739, h7736, rfl⟩ := hp
    have h7737 := HS.trans h1 h7736 (by decide)
    have xP7738 := oP7738
    unfold OKP at xP7738
    unfold RA at rP7738
    exact m_vret F hQ e_X10_goOn_11 (⟨P7738, oP7738, (by unfold RA; omega), (PG.a2 h7737.1 pr7739), h7737, rfl⟩)
set_option maxRecDepth 20000 in
theorem q_X10_numeral (l : Launch) (V : VX) (c T Z u h : Nat) (P : NP) (L : Nat → LQ) (N : Nat) (σ : Mem) (n901 : Nat) (n902 : Nat) (h0 : HR V c ⟨T, Z, u, h, P, L⟩ σ) (hob : OKB L) (hP : OKP P) (hn901 : n901 ≤ 10000000) (hn902 : n902 ≤ 10000000) : Ct l V yX10_numeral cX10_numeral 4 (some .int) 7 0 0 N σ [.ref c, .int (nI n901), .int (nI n902)] (fun r τ => ∃ P9 : NP, OKP P9 ∧ RA P P9 ∧ HS V c (⟨T, Z, u, h, P9, L⟩ : RG) [0, 2, 3, 4, 5, 6, 7, 8, 9, 10, 11, 12, 13, 14, 15, 16, 17, 18, 19, 20, 21, 22, 23] σ τ ∧ ((∃ n : Nat, n901 ≤ n ∧ n ≤ n902 ∧ r = some (.int (nI n))) ∨ (HR V c ⟨T, 0, u, h, P9, L⟩ τ ∧ r = some (.int (nI n901))))) := by
  refine Ct.of (by decide) (Nat.le_of_ble_eq_true rfl) [(0, .ref c), (1, .int (nI n901)), (2, .int (nI n902))] rfl (fun X hX F hQ => ?_)
  have hPP := hP
  unfold OKP at hPP
  have h1 : HS V c ⟨T, Z, u, h, P, L⟩ [0, 2, 3, 4, 5, 6, 7, 8, 9, 10, 11, 12, 13, 14, 15, 16, 17, 18, 19, 20, 21, 22, 23] σ σ := HS.start h0
  refine m_aload_n F rfl e_X10_numeral_0 ?_
  refine r_get F e_X10_numeral_1 fl_X10_141 h1 rfl (fun v hv f7740 => ?_)
  obtain ⟨x7741, hx7741, rfl⟩ := hv
  replace hx7741 : Z = 0 → x7741 ≠ 0 := hx7741
  refine m_if_eq F e_X10_numeral_4 (fun q4 => ?_) (fun q4 => ?_)
  · subst q4
    refine m_aload_n F rfl e_X10_numeral_9 ?_
    refine r_get F e_X10_numeral_10 fl_X10_110 h1 rfl (fun v hv f7742 => ?_)
    obtain ⟨x7743, rfl⟩ := hv
    refine m_iconst F (v := 2) (by decide) e_X10_numeral_13 ?_
    refine m_icmp_eq F e_X10_numeral_14 (fun q14 => ?_) (fun q14 => ?_)
    · subst q14
      refine m_aload_n F rfl e_X10_numeral_25 ?_
      refine r_get F e_X10_numeral_26 fl_X10_120 h1 rfl (fun v hv f7744 => ?_)
      obtain ⟨x7745, rfl⟩ := hv
      refine m_iload_n F rfl e_X10_numeral_29 ?_
      refine m_icmp_lt F e_X10_numeral_30 (fun q30 => ?_) (fun q30 => ?_)
      · refine m_aload_n F rfl e_X10_numeral_41 ?_
        refine m_iconst F (v := 2) (by decide) e_X10_numeral_42 ?_
        refine r_callV F e_X10_numeral_43 (q_X10_wrong (x_l X) V c T Z u h P L _ _ 2 h1.1 (hob) hP (by first | omega | assumption | decide)) cb_X10_wrong ml_X10_150 im_X10_wrong se_X10_wrong h1 rfl rfl (rest := []) rfl (Nat.le_of_ble_eq_true rfl) ⟨Nat.le_of_ble_eq_true rfl, Nat.le_of_ble_eq_true rfl⟩ ⟨Nat.le_of_ble_eq_true rfl, Nat.le_of_ble_eq_true rfl⟩ (fun r σ7746 hp => ?_)
        obtain ⟨h7747, rfl⟩ := hp
        have h7748 := HS.trans h1 h7747 (by decide)
        refine m_aload_n F rfl e_X10_numeral_46 ?_
        refine r_get F e_X10_numeral_47 fl_X10_141 h7748 rfl (fun v hv f7749 => ?_)
        obtain ⟨x7750, hx7750, rfl⟩ := hv
        replace hx7750 : 0 = 0 → x7750 ≠ 0 := hx7750
        refine m_if_ne F e_X10_numeral_50 (fun q50 => ?_) (fun q50 => ?_)
        · have h7751 := HS.z0 h7748 (f7749) q50
          refine m_iload_n F rfl e_X10_numeral_60 ?_
          refine m_istore_n F (lv' := [(3, .int (nI n901)), (0, .ref c), (1, .int (nI n901)), (2, .int (nI n902))]) e_X10_numeral_61 (by decide) rfl ?_
          refine m_aload_n F rfl e_X10_numeral_62 ?_
          refine r_callV F e_X10_numeral_63 (q_X10_goOn (x_l X) V c T 0 u h P L _ _  h7751.1 (hob) hP ) cb_X10_goOn ml_X10_154 im_X10_goOn se_X10_goOn h7751 rfl rfl (rest := []) rfl (Nat.le_of_ble_eq_true rfl) ⟨Nat.le_of_ble_eq_true rfl, Nat.le_of_ble_eq_true rfl⟩ ⟨Nat.le_of_ble_eq_true rfl, Nat.le_of_ble_eq_true rfl⟩ (fun r σ7752 hp => ?_)
          obtain ⟨P7755, oP7755, rP7755, pr7756, h7753, rfl⟩ := hp
          have h7754 := HS.trans h7751 h7753 (by decide)
          have xP7755 := oP7755
          unfold OKP at xP7755
          unfold RA at rP7755
          refine m_iload_n F rfl e_X10_numeral_66 ?_
          have h7757 : HS V c _ [0, 2, 3, 4, 5, 6, 7, 8, 9, 10, 11, 12, 13, 14, 15, 16, 17, 18, 19, 20, 21, 22, 23] _ _ := ⟨HR.mono (Z' := Z) (by intro e; first | rfl | assumption | omega) h7754.1, h7754.2⟩
          exact m_iret F hQ e_X10_numeral_67 (⟨P7755, oP7755, (by unfold RA; omega), h7757, Or.inr ⟨h7754.1, rfl⟩⟩)
        · first | exact absurd q50 (hx7750 rfl) | contradiction
      · obtain ⟨n7758, hn7758, rfl⟩ := nI_nn (x := x7745) (fun e => q30 (Int32.lt_of_lt_of_le e (nI_0le (by omega))))
        have c30 : n7758 ≥ n901 := by have hh := mt (nI_ltI (a := n7758) (b := n901) (by omega) (by omega)).mpr q30; omega
        refine m_aload_n F rfl e_X10_numeral_33 ?_
        refine r_getC F e_X10_numeral_34 fl_X10_120 h1 (f7744) ?_
        refine m_iload_n F rfl e_X10_numeral_37 ?_
        refine m_icmp_le F e_X10_numeral_38 (fun q38 => ?_) (fun q38 => ?_)
        · have c38 : n7758 ≤ n902 := (nI_leI (a := n7758) (b := n902) (by omega) (by omega)).mp q38
          refine m_aload_n F rfl e_X10_numeral_46 ?_
          refine r_getC F e_X10_numeral_47 fl_X10_141 h1 (f7740) ?_
          refine m_if_ne F e_X10_numeral_50 (fun q => absurd (by decide) q) (fun _ => ?_)
          refine m_aload_n F rfl e_X10_numeral_53 ?_
          refine r_getC F e_X10_numeral_54 fl_X10_120 h1 (f7744) ?_
          refine m_goto F e_X10_numeral_57 ?_
          refine m_istore_n F (lv' := [(3, .int (nI n7758)), (0, .ref c), (1, .int (nI n901)), (2, .int (nI n902))]) e_X10_numeral_61 (by decide) rfl ?_
          refine m_aload_n F rfl e_X10_numeral_62 ?_
          refine r_callV F e_X10_numeral_63 (q_X10_goOn (x_l X) V c T Z u h P L _ _  h1.1 (hob) hP ) cb_X10_goOn ml_X10_154 im_X10_goOn se_X10_goOn h1 rfl rfl (rest := []) rfl (Nat.le_of_ble_eq_true rfl) ⟨Nat.le_of_ble_eq_true rfl, Nat.le_of_ble_eq_true rfl⟩ ⟨Nat.le_of_ble_eq_true rfl, Nat.le_of_ble_eq_true rfl⟩ (fun r σ7759 hp => ?_)
          obtain ⟨P7762, oP7762, rP7762, pr7763, h7760, rfl⟩ := hp
          have h7761 := HS.trans h1 h7760 (by decide)
          have xP7762 := oP7762
          unfold OKP at xP7762
          unfold RA at rP7762
          refine m_iload_n F rfl e_X10_numeral_66 ?_
          exact m_iret F hQ e_X10_numeral_67 (⟨P7762, oP7762, (by unfold RA; omega), h7761, Or.inl ⟨n7758, by omega, by omega, rfl⟩⟩)
        · have c38 : n7758 > n902 := by have hh := mt (nI_leI (a := n7758) (b := n902) (by omega) (by omega)).mpr q38; omega
          refine m_aload_n F rfl e_X10_numeral_41 ?_
          refine m_iconst F (v := 2) (by decide) e_X10_numeral_42 ?_
          refine r_callV F e_X10_numeral_43 (q_X10_wrong (x_l X) V c T Z u h P L _ _ 2 h1.1 (hob) hP (by first | omega | assumption | decide)) cb_X10_wrong ml_X10_150 im_X10_wrong se_X10_wrong h1 rfl rfl (rest := []) rfl (Nat.le_of_ble_eq_true rfl) ⟨Nat.le_of_ble_eq_true rfl, Nat.le_of_ble_eq_true rfl⟩ ⟨Nat.le_of_ble_eq_true rfl, Nat.le_of_ble_eq_true rfl⟩ (fun r σ7764 hp => ?_)
          obtain ⟨h7765, rfl⟩ := hp
          have h7766 := HS.trans h1 h7765 (by decide)
          refine m_aload_n F rfl e_X10_numeral_46 ?_
          refine r_get F e_X10_numeral_47 fl_X10_141 h7766 rfl (fun v hv f7767 => ?_)
          obtain ⟨x7768, hx7768, rfl⟩ := hv
          replace hx7768 : 0 = 0 → x7768 ≠ 0 := hx7768
          refine m_if_ne F e_X10_numeral_50 (fun q50 => ?_) (fun q50 => ?_)
          · have h7769 := HS.z0 h7766 (f7767) q50
            refine m_iload_n F rfl e_X10_numeral_60 ?_
            refine m_istore_n F (lv' := [(3, .int (nI n901)), (0, .ref c), (1, .int (nI n901)), (2, .int (nI n902))]) e_X10_numeral_61 (by decide) rfl ?_
            refine m_aload_n F rfl e_X10_numeral_62 ?_
            refine r_callV F e_X10_numeral_63 (q_X10_goOn (x_l X) V c T 0 u h P L _ _  h7769.1 (hob) hP ) cb_X10_goOn ml_X10_154 im_X10_goOn se_X10_goOn h7769 rfl rfl (rest := []) rfl (Nat.le_of_ble_eq_true rfl) ⟨Nat.le_of_ble_eq_true rfl, Nat.le_of_ble_eq_true rfl⟩ ⟨Nat.le_of_ble_eq_true rfl, Nat.le_of_ble_eq_true rfl⟩ (fun r σ7770 hp => ?_)
            obtain ⟨P7773, oP7773, rP7773, pr7774, h7771, rfl⟩ := hp
            have h7772 := HS.trans h7769 h7771 (by decide)
            have xP7773 := oP7773
            unfold OKP at xP7773
            unfold RA at rP7773
            refine m_iload_n F rfl e_X10_numeral_66 ?_
            have h7775 : HS V c _ [0, 2, 3, 4, 5, 6, 7, 8, 9, 10, 11, 12, 13, 14, 15, 16, 17, 18, 19, 20, 21, 22, 23] _ _ := ⟨HR.mono (Z' := Z) (by intro e; first | rfl | assumption | omega) h7772.1, h7772.2⟩
            exact m_iret F hQ e_X10_numeral_67 (⟨P7773, oP7773, (by unfold RA; omega), h7775, Or.inr ⟨h7772.1, rfl⟩⟩)
          · first | exact absurd q50 (hx7768 rfl) | contradiction
    · refine m_aload_n F rfl e_X10_numeral_17 ?_
      refine m_iconst F (v := 1) (by decide) e_X10_numeral_18 ?_
      refine r_callV F e_X10_numeral_19 (q_X10_wrong (x_l X) V c T Z u h P L _ _ 1 h1.1 (hob) hP (by first | omega | assumption | decide)) cb_X10_wrong ml_X10_150 im_X10_wrong se_X10_wrong h1 rfl rfl (rest := []) rfl (Nat.le_of_ble_eq_true rfl) ⟨Nat.le_of_ble_eq_true rfl, Nat.le_of_ble_eq_true rfl⟩ ⟨Nat.le_of_ble_eq_true rfl, Nat.le_of_ble_eq_true rfl⟩ (fun r σ7776 hp => ?_)
      obtain ⟨h7777, rfl⟩ := hp
      have h7778 := HS.trans h1 h7777 (by decide)
      refine m_goto F e_X10_numeral_22 ?_
      refine m_aload_n F rfl e_X10_numeral_46 ?_
      refine r_get F e_X10_numeral_47 fl_X10_141 h7778 rfl (fun v hv f7779 => ?_)
      obtain ⟨x7780, hx7780, rfl⟩ := hv
      replace hx7780 : 0 = 0 → x7780 ≠ 0 := hx7780
      refine m_if_ne F e_X10_numeral_50 (fun q50 => ?_) (fun q50 => ?_)
      · have h7781 := HS.z0 h7778 (f7779) q50
        refine m_iload_n F rfl e_X10_numeral_60 ?_
        refine m_istore_n F (lv' := [(3, .int (nI n901)), (0, .ref c), (1, .int (nI n901)), (2, .int (nI n902))]) e_X10_numeral_61 (by decide) rfl ?_
        refine m_aload_n F rfl e_X10_numeral_62 ?_
        refine r_callV F e_X10_numeral_63 (q_X10_goOn (x_l X) V c T 0 u h P L _ _  h7781.1 (hob) hP ) cb_X10_goOn ml_X10_154 im_X10_goOn se_X10_goOn h7781 rfl rfl (rest := []) rfl (Nat.le_of_ble_eq_true rfl) ⟨Nat.le_of_ble_eq_true rfl, Nat.le_of_ble_eq_true rfl⟩ ⟨Nat.le_of_ble_eq_true rfl, Nat.le_of_ble_eq_true rfl⟩ (fun r σ7782 hp => ?_)
        obtain ⟨P7785, oP7785, rP7785, pr7786, h7783, rfl⟩ := hp
        have h7784 := HS.trans h7781 h7783 (by decide)
        have xP7785 := oP7785
        unfold OKP at xP7785
        unfold RA at rP7785
        refine m_iload_n F rfl e_X10_numeral_66 ?_
        have h7787 : HS V c _ [0, 2, 3, 4, 5, 6, 7, 8, 9, 10, 11, 12, 13, 14, 15, 16, 17, 18, 19, 20, 21, 22, 23] _ _ := ⟨HR.mono (Z' := Z) (by intro e; first | rfl | assumption | omega) h7784.1, h7784.2⟩
        exact m_iret F hQ e_X10_numeral_67 (⟨P7785, oP7785, (by unfold RA; omega), h7787, Or.inr ⟨h7784.1, rfl⟩⟩)
      · first | exact absurd q50 (hx7780 rfl) | contradiction
  · have h7788 := HS.z0 h1 (f7740) q4
    refine m_iload_n F rfl e_X10_numeral_7 ?_
    have h7789 : HS V c _ [0, 2, 3, 4, 5, 6, 7, 8, 9, 10, 11, 12, 13, 14, 15, 16, 17, 18, 19, 20, 21, 22, 23] _ _ := ⟨HR.mono (Z' := Z) (by intro e; first | rfl | assumption | omega) h7788.1, h7788.2⟩
    exact m_iret F hQ e_X10_numeral_8 (⟨P, hP, (by unfold RA; omega), h7789, Or.inr ⟨h7788.1, rfl⟩⟩)
set_option maxRecDepth 20000 in
theorem q_X10_reading0 (l : Launch) (V : VX) (c T Z u h : Nat) (P : NP) (L : Nat → LQ) (N : Nat) (σ : Mem)  (h0 : HR V c ⟨T, Z, u, h, P, L⟩ σ) (hob : OKB L) (hP : OKP P)  : Ct l V yX10_reading cX10_reading 2 (some .int) 0 0 0 N σ [.ref c, .int 0] (fun r τ => HS V c (⟨T, Z, u, h, P, L⟩ : RG) [0, 1, 2, 3, 4, 5, 6, 7, 8, 9, 10, 11, 12, 13, 14, 15, 16, 17, 18, 19, 20, 21, 22, 23] σ τ ∧ r = some (.int (nI P.n5))) := by
  refine Ct.of (by decide) (Nat.le_of_ble_eq_true rfl) [(0, .ref c), (1, .int 0)] rfl (fun X hX F hQ => ?_)
  have hPP := hP
  unfold OKP at hPP
  have h1 : HS V c ⟨T, Z, u, h, P, L⟩ [0, 1, 2, 3, 4, 5, 6, 7, 8, 9, 10, 11, 12, 13, 14, 15, 16, 17, 18, 19, 20, 21, 22, 23] σ σ := HS.start h0
  refine m_aload_n F rfl e_X10_reading_0 ?_
  refine r_get F e_X10_reading_1 fl_X10_13 h1 rfl (fun v hv f7790 => ?_)
  obtain rfl : v = .ref (c + 2) := hv
  refine m_iconst F (v := 5) (by decide) e_X10_reading_4 ?_
  refine m_iload_n F rfl e_X10_reading_5 ?_
  refine m_iadd F e_X10_reading_6 ?_
  refine Wm.topE (w := 5) (by decide) ?_
  refine r_iald F (len := 10) (j := 5) e_X10_reading_7 h1 (fun _ h => h) (by decide) (by decide) (by unfold vp_in; decide) (fun x7791 h7792 f7793 => ?_)
  obtain rfl : x7791 = nI P.n5 := h7792.2.2.1 rfl
  exact m_iret F hQ e_X10_reading_8 (⟨h1, rfl⟩)
set_option maxRecDepth 20000 in
theorem q_X10_reading2 (l : Launch) (V : VX) (c T Z u h : Nat) (P : NP) (L : Nat → LQ) (N : Nat) (σ : Mem)  (h0 : HR V c ⟨T, Z, u, h, P, L⟩ σ) (hob : OKB L) (hP : OKP P)  : Ct l V yX10_reading cX10_reading 2 (some .int) 0 0 0 N σ [.ref c, .int 2] (fun r τ => HS V c (⟨T, Z, u, h, P, L⟩ : RG) [0, 1, 2, 3, 4, 5, 6, 7, 8, 9, 10, 11, 12, 13, 14, 15, 16, 17, 18, 19, 20, 21, 22, 23] σ τ ∧ r = some (.int (nI P.n7))) := by
  refine Ct.of (by decide) (Nat.le_of_ble_eq_true rfl) [(0, .ref c), (1, .int 2)] rfl (fun X hX F hQ => ?_)
  have hPP := hP
  unfold OKP at hPP
  have h1 : HS V c ⟨T, Z, u, h, P, L⟩ [0, 1, 2, 3, 4, 5, 6, 7, 8, 9, 10, 11, 12, 13, 14, 15, 16, 17, 18, 19, 20, 21, 22, 23] σ σ := HS.start h0
  refine m_aload_n F rfl e_X10_reading_0 ?_
  refine r_get F e_X10_reading_1 fl_X10_13 h1 rfl (fun v hv f7794 => ?_)
  obtain rfl : v = .ref (c + 2) := hv
  refine m_iconst F (v := 5) (by decide) e_X10_reading_4 ?_
  refine m_iload_n F rfl e_X10_reading_5 ?_
  refine m_iadd F e_X10_reading_6 ?_
  refine Wm.topE (w := 7) (by decide) ?_
  refine r_iald F (len := 10) (j := 7) e_X10_reading_7 h1 (fun _ h => h) (by decide) (by decide) (by unfold vp_in; decide) (fun x7795 h7796 f7797 => ?_)
  obtain rfl : x7795 = nI P.n7 := h7796.2.2.2.1 rfl
  exact m_iret F hQ e_X10_reading_8 (⟨h1, rfl⟩)
set_option maxRecDepth 20000 in
theorem q_X10_reading3 (l : Launch) (V : VX) (c T Z u h : Nat) (P : NP) (L : Nat → LQ) (N : Nat) (σ : Mem)  (h0 : HR V c ⟨T, Z, u, h, P, L⟩ σ) (hob : OKB L) (hP : OKP P)  : Ct l V yX10_reading cX10_reading 2 (some .int) 0 0 0 N σ [.ref c, .int 3] (fun r τ => HS V c (⟨T, Z, u, h, P, L⟩ : RG) [0, 1, 2, 3, 4, 5, 6, 7, 8, 9, 10, 11, 12, 13, 14, 15, 16, 17, 18, 19, 20, 21, 22, 23] σ τ ∧ ∃ n : Nat, n ≤ 4 ∧ elI τ (c + 2) 8 = some (nI n) ∧ r = some (.int (nI n))) := by
  refine Ct.of (by decide) (Nat.le_of_ble_eq_true rfl) [(0, .ref c), (1, .int 3)] rfl (fun X hX F hQ => ?_)
  have hPP := hP
  unfold OKP at hPP
  have h1 : HS V c ⟨T, Z, u, h, P, L⟩ [0, 1, 2, 3, 4, 5, 6, 7, 8, 9, 10, 11, 12, 13, 14, 15, 16, 17, 18, 19, 20, 21, 22, 23] σ σ := HS.start h0
  refine m_aload_n F rfl e_X10_reading_0 ?_
  refine r_get F e_X10_reading_1 fl_X10_13 h1 rfl (fun v hv f7798 => ?_)
  obtain rfl : v = .ref (c + 2) := hv
  refine m_iconst F (v := 5) (by decide) e_X10_reading_4 ?_
  refine m_iload_n F rfl e_X10_reading_5 ?_
  refine m_iadd F e_X10_reading_6 ?_
  refine Wm.topE (w := 8) (by decide) ?_
  refine r_iald F (len := 10) (j := 8) e_X10_reading_7 h1 (fun _ h => h) (by decide) (by decide) (by unfold vp_in; decide) (fun x7799 h7800 f7801 => ?_)
  obtain ⟨n7802, hn7802, rfl⟩ := h7800.2.2.2.2.2 rfl
  exact m_iret F hQ e_X10_reading_8 (⟨h1, n7802, by omega, f7801, rfl⟩)
set_option maxRecDepth 20000 in
theorem q_X10_reading1 (l : Launch) (V : VX) (c T Z u h : Nat) (P : NP) (L : Nat → LQ) (N : Nat) (σ : Mem)  (h0 : HR V c ⟨T, Z, u, h, P, L⟩ σ) (hob : OKB L) (hP : OKP P)  : Ct l V yX10_reading cX10_reading 2 (some .int) 0 0 0 N σ [.ref c, .int 1] (fun r τ => HS V c (⟨T, Z, u, h, P, L⟩ : RG) [0, 1, 2, 3, 4, 5, 6, 7, 8, 9, 10, 11, 12, 13, 14, 15, 16, 17, 18, 19, 20, 21, 22, 23] σ τ ∧ ∃ x : Int32, r = some (.int x)) := by
  refine Ct.of (by decide) (Nat.le_of_ble_eq_true rfl) [(0, .ref c), (1, .int 1)] rfl (fun X hX F hQ => ?_)
  have hPP := hP
  unfold OKP at hPP
  have h1 : HS V c ⟨T, Z, u, h, P, L⟩ [0, 1, 2, 3, 4, 5, 6, 7, 8, 9, 10, 11, 12, 13, 14, 15, 16, 17, 18, 19, 20, 21, 22, 23] σ σ := HS.start h0
  refine m_aload_n F rfl e_X10_reading_0 ?_
  refine r_get F e_X10_reading_1 fl_X10_13 h1 rfl (fun v hv f7803 => ?_)
  obtain rfl : v = .ref (c + 2) := hv
  refine m_iconst F (v := 5) (by decide) e_X10_reading_4 ?_
  refine m_iload_n F rfl e_X10_reading_5 ?_
  refine m_iadd F e_X10_reading_6 ?_
  refine Wm.topE (w := 6) (by decide) ?_
  refine r_iald F (len := 10) (j := 6) e_X10_reading_7 h1 (fun _ h => h) (by decide) (by decide) (by unfold vp_in; decide) (fun x7804 h7805 f7806 => ?_)
  exact m_iret F hQ e_X10_reading_8 (⟨h1, _, rfl⟩)
set_option maxRecDepth 20000 in
theorem q_X10_reading4 (l : Launch) (V : VX) (c T Z u h : Nat) (P : NP) (L : Nat → LQ) (N : Nat) (σ : Mem)  (h0 : HR V c ⟨T, Z, u, h, P, L⟩ σ) (hob : OKB L) (hP : OKP P)  : Ct l V yX10_reading cX10_reading 2 (some .int) 0 0 0 N σ [.ref c, .int 4] (fun r τ => HS V c (⟨T, Z, u, h, P, L⟩ : RG) [0, 1, 2, 3, 4, 5, 6, 7, 8, 9, 10, 11, 12, 13, 14, 15, 16, 17, 18, 19, 20, 21, 22, 23] σ τ ∧ ∃ x : Int32, r = some (.int x)) := by
  refine Ct.of (by decide) (Nat.le_of_ble_eq_true rfl) [(0, .ref c), (1, .int 4)] rfl (fun X hX F hQ => ?_)
  have hPP := hP
  unfold OKP at hPP
  have h1 : HS V c ⟨T, Z, u, h, P, L⟩ [0, 1, 2, 3, 4, 5, 6, 7, 8, 9, 10, 11, 12, 13, 14, 15, 16, 17, 18, 19, 20, 21, 22, 23] σ σ := HS.start h0
  refine m_aload_n F rfl e_X10_reading_0 ?_
  refine r_get F e_X10_reading_1 fl_X10_13 h1 rfl (fun v hv f7807 => ?_)
  obtain rfl : v = .ref (c + 2) := hv
  refine m_iconst F (v := 5) (by decide) e_X10_reading_4 ?_
  refine m_iload_n F rfl e_X10_reading_5 ?_
  refine m_iadd F e_X10_reading_6 ?_
  refine Wm.topE (w := 9) (by decide) ?_
  refine r_iald F (len := 10) (j := 9) e_X10_reading_7 h1 (fun _ h => h) (by decide) (by decide) (by unfold vp_in; decide) (fun x7808 h7809 f7810 => ?_)
  exact m_iret F hQ e_X10_reading_8 (⟨h1, _, rfl⟩)
set_option maxRecDepth 20000 in
theorem q_X10_reads0 (l : Launch) (V : VX) (c T Z u h : Nat) (P : NP) (L : Nat → LQ) (N : Nat) (σ : Mem) (n902 : Nat) (h0 : HR V c ⟨T, Z, u, h, P, L⟩ σ) (hob : OKB L) (hP : OKP P) (hn902 : n902 ≤ 4) (hp0 : n902 ≤ P.m5) : Ct l V yX10_reads cX10_reads 3 none 0 0 0 N σ [.ref c, .int 0, .int (nI n902)] (fun r τ => HS V c (⟨T, Z, u, h, (mkP P.n0 P.n2 n902 P.n7 P.m0 P.m5 P.w2 P.w7 P.kk P.a P.b0 P.b1 P.b2 P.b3), L⟩ : RG) [0, 1, 2, 4, 5, 6, 7, 8, 9, 10, 11, 12, 13, 14, 15, 16, 17, 18, 19, 20, 21, 22, 23] σ τ ∧ r = none) := by
  refine Ct.of (by decide) (Nat.le_of_ble_eq_true rfl) [(0, .ref c), (1, .int 0), (2, .int (nI n902))] rfl (fun X hX F hQ => ?_)
  have hPP := hP
  unfold OKP at hPP
  have h1 : HS V c ⟨T, Z, u, h, P, L⟩ [0, 1, 2, 4, 5, 6, 7, 8, 9, 10, 11, 12, 13, 14, 15, 16, 17, 18, 19, 20, 21, 22, 23] σ σ := HS.start h0
  refine m_aload_n F rfl e_X10_reads_0 ?_
  refine r_get F e_X10_reads_1 fl_X10_13 h1 rfl (fun v hv f7811 => ?_)
  obtain rfl : v = .ref (c + 2) := hv
  refine m_iconst F (v := 5) (by decide) e_X10_reads_4 ?_
  refine m_iload_n F rfl e_X10_reads_5 ?_
  refine m_iadd F e_X10_reads_6 ?_
  refine Wm.topE (w := 5) (by decide) ?_
  refine m_iload_n F rfl e_X10_reads_7 ?_
  refine r_iast F (g' := (⟨T, Z, u, h, (mkP P.n0 P.n2 n902 P.n7 P.m0 P.m5 P.w2 P.w7 P.kk P.a P.b0 P.b1 P.b2 P.b3), L⟩ : RG)) (len := 10) (j := 5) e_X10_reads_8 h1 (fun _ h => h) (fun f h => ⟨f, rfl, h⟩) (by decide) (by decide) (by decide) (by unfold vp_in; decide) (by refine ⟨?_, ?_, ?_, ?_, ?_, ?_⟩ <;> intro e <;> first | exact absurd e (by decide) | rfl | exact ⟨_, by omega, rfl⟩) (fun i hi y hy => ⟨hy.1, hy.2.1, fun e => absurd e hi, hy.2.2.2.1, hy.2.2.2.2.1, hy.2.2.2.2.2⟩) (CR.chg (by intro k hk i x h; unfold EI at h ⊢; split at h <;> first | exact h | exact absurd rfl hk | trivial) rfl rfl) (fun σ7812 h7813 g7814 f7815 g7816 => ?_)
  exact m_vret F hQ e_X10_reads_9 (⟨h7813, rfl⟩)
set_option maxRecDepth 20000 in
theorem q_X10_reads2 (l : Launch) (V : VX) (c T Z u h : Nat) (P : NP) (L : Nat → LQ) (N : Nat) (σ : Mem) (n902 : Nat) (h0 : HR V c ⟨T, Z, u, h, P, L⟩ σ) (hob : OKB L) (hP : OKP P) (hn902 : n902 ≤ 8) (hp0 : n902 ≤ P.w7) : Ct l V yX10_reads cX10_reads 3 none 0 0 0 N σ [.ref c, .int 2, .int (nI n902)] (fun r τ => HS V c (⟨T, Z, u, h, (mkP P.n0 P.n2 P.n5 n902 P.m0 P.m5 P.w2 P.w7 P.kk P.a P.b0 P.b1 P.b2 P.b3), L⟩ : RG) [0, 1, 2, 4, 5, 6, 7, 8, 9, 10, 11, 12, 13, 14, 15, 16, 17, 18, 19, 20, 21, 22, 23] σ τ ∧ r = none) := by
  refine Ct.of (by decide) (Nat.le_of_ble_eq_true rfl) [(0, .ref c), (1, .int 2), (2, .int (nI n902))] rfl (fun X hX F hQ => ?_)
  have hPP := hP
  unfold OKP at hPP
  have h1 : HS V c ⟨T, Z, u, h, P, L⟩ [0, 1, 2, 4, 5, 6, 7, 8, 9, 10, 11, 12, 13, 14, 15, 16, 17, 18, 19, 20, 21, 22, 23] σ σ := HS.start h0
  refine m_aload_n F rfl e_X10_reads_0 ?_
  refine r_get F e_X10_reads_1 fl_X10_13 h1 rfl (fun v hv f7817 => ?_)
  obtain rfl : v = .ref (c + 2) := hv
  refine m_iconst F (v := 5) (by decide) e_X10_reads_4 ?_
  refine m_iload_n F rfl e_X10_reads_5 ?_
  refine m_iadd F e_X10_reads_6 ?_
  refine Wm.topE (w := 7) (by decide) ?_
  refine m_iload_n F rfl e_X10_reads_7 ?_
  refine r_iast F (g' := (⟨T, Z, u, h, (mkP P.n0 P.n2 P.n5 n902 P.m0 P.m5 P.w2 P.w7 P.kk P.a P.b0 P.b1 P.b2 P.b3), L⟩ : RG)) (len := 10) (j := 7) e_X10_reads_8 h1 (fun _ h => h) (fun f h => ⟨f, rfl, h⟩) (by decide) (by decide) (by decide) (by unfold vp_in; decide) (by refine ⟨?_, ?_, ?_, ?_, ?_, ?_⟩ <;> intro e <;> first | exact absurd e (by decide) | rfl | exact ⟨_, by omega, rfl⟩) (fun i hi y hy => ⟨hy.1, hy.2.1, hy.2.2.1, fun e => absurd e hi, hy.2.2.2.2.1, hy.2.2.2.2.2⟩) (CR.chg (by intro k hk i x h; unfold EI at h ⊢; split at h <;> first | exact h | exact absurd rfl hk | trivial) rfl rfl) (fun σ7818 h7819 g7820 f7821 g7822 => ?_)
  exact m_vret F hQ e_X10_reads_9 (⟨h7819, rfl⟩)
set_option maxRecDepth 20000 in
theorem q_X10_reads3 (l : Launch) (V : VX) (c T Z u h : Nat) (P : NP) (L : Nat → LQ) (N : Nat) (σ : Mem) (n902 : Nat) (h0 : HR V c ⟨T, Z, u, h, P, L⟩ σ) (hob : OKB L) (hP : OKP P) (hn902 : n902 ≤ 4) : Ct l V yX10_reads cX10_reads 3 none 0 0 0 N σ [.ref c, .int 3, .int (nI n902)] (fun r τ => HS V c (⟨T, Z, u, h, P, L⟩ : RG) [0, 1, 2, 4, 5, 6, 7, 8, 9, 10, 11, 12, 13, 14, 15, 16, 17, 18, 19, 20, 21, 22, 23] σ τ ∧ r = none) := by
  refine Ct.of (by decide) (Nat.le_of_ble_eq_true rfl) [(0, .ref c), (1, .int 3), (2, .int (nI n902))] rfl (fun X hX F hQ => ?_)
  have hPP := hP
  unfold OKP at hPP
  have h1 : HS V c ⟨T, Z, u, h, P, L⟩ [0, 1, 2, 4, 5, 6, 7, 8, 9, 10, 11, 12, 13, 14, 15, 16, 17, 18, 19, 20, 21, 22, 23] σ σ := HS.start h0
  refine m_aload_n F rfl e_X10_reads_0 ?_
  refine r_get F e_X10_reads_1 fl_X10_13 h1 rfl (fun v hv f7823 => ?_)
  obtain rfl : v = .ref (c + 2) := hv
  refine m_iconst F (v := 5) (by decide) e_X10_reads_4 ?_
  refine m_iload_n F rfl e_X10_reads_5 ?_
  refine m_iadd F e_X10_reads_6 ?_
  refine Wm.topE (w := 8) (by decide) ?_
  refine m_iload_n F rfl e_X10_reads_7 ?_
  refine r_iast F (g' := (⟨T, Z, u, h, P, L⟩ : RG)) (len := 10) (j := 8) e_X10_reads_8 h1 (fun _ h => h) (fun f h => ⟨f, rfl, h⟩) (by decide) (by decide) (by decide) (by unfold vp_in; decide) (by refine ⟨?_, ?_, ?_, ?_, ?_, ?_⟩ <;> intro e <;> first | exact absurd e (by decide) | rfl | exact ⟨_, by omega, rfl⟩) (fun _ _ _ h => h) (fun _ _ _ h => h) (fun σ7824 h7825 g7826 f7827 g7828 => ?_)
  exact m_vret F hQ e_X10_reads_9 (⟨h7825, rfl⟩)
set_option maxRecDepth 20000 in
theorem q_X10_reads1 (l : Launch) (V : VX) (c T Z u h : Nat) (P : NP) (L : Nat → LQ) (N : Nat) (σ : Mem) (x902 : Int32) (h0 : HR V c ⟨T, Z, u, h, P, L⟩ σ) (hob : OKB L) (hP : OKP P)  : Ct l V yX10_reads cX10_reads 3 none 0 0 0 N σ [.ref c, .int 1, .int x902] (fun r τ => HS V c (⟨T, Z, u, h, P, L⟩ : RG) [0, 1, 2, 4, 5, 6, 7, 8, 9, 10, 11, 12, 13, 14, 15, 16, 17, 18, 19, 20, 21, 22, 23] σ τ ∧ r = none) := by
  refine Ct.of (by decide) (Nat.le_of_ble_eq_true rfl) [(0, .ref c), (1, .int 1), (2, .int x902)] rfl (fun X hX F hQ => ?_)
  have hPP := hP
  unfold OKP at hPP
  have h1 : HS V c ⟨T, Z, u, h, P, L⟩ [0, 1, 2, 4, 5, 6, 7, 8, 9, 10, 11, 12, 13, 14, 15, 16, 17, 18, 19, 20, 21, 22, 23] σ σ := HS.start h0
  refine m_aload_n F rfl e_X10_reads_0 ?_
  refine r_get F e_X10_reads_1 fl_X10_13 h1 rfl (fun v hv f7829 => ?_)
  obtain rfl : v = .ref (c + 2) := hv
  refine m_iconst F (v := 5) (by decide) e_X10_reads_4 ?_
  refine m_iload_n F rfl e_X10_reads_5 ?_
  refine m_iadd F e_X10_reads_6 ?_
  refine Wm.topE (w := 6) (by decide) ?_
  refine m_iload_n F rfl e_X10_reads_7 ?_
  refine r_iast F (g' := (⟨T, Z, u, h, P, L⟩ : RG)) (len := 10) (j := 6) e_X10_reads_8 h1 (fun _ h => h) (fun f h => ⟨f, rfl, h⟩) (by decide) (by decide) (by decide) (by unfold vp_in; decide) (by refine ⟨?_, ?_, ?_, ?_, ?_, ?_⟩ <;> intro e <;> first | exact absurd e (by decide) | rfl | exact ⟨_, by omega, rfl⟩) (fun _ _ _ h => h) (fun _ _ _ h => h) (fun σ7830 h7831 g7832 f7833 g7834 => ?_)
  exact m_vret F hQ e_X10_reads_9 (⟨h7831, rfl⟩)
set_option maxRecDepth 20000 in
theorem q_X10_reads4 (l : Launch) (V : VX) (c T Z u h : Nat) (P : NP) (L : Nat → LQ) (N : Nat) (σ : Mem) (x902 : Int32) (h0 : HR V c ⟨T, Z, u, h, P, L⟩ σ) (hob : OKB L) (hP : OKP P)  : Ct l V yX10_reads cX10_reads 3 none 0 0 0 N σ [.ref c, .int 4, .int x902] (fun r τ => HS V c (⟨T, Z, u, h, P, L⟩ : RG) [0, 1, 2, 4, 5, 6, 7, 8, 9, 10, 11, 12, 13, 14, 15, 16, 17, 18, 19, 20, 21, 22, 23] σ τ ∧ r = none) := by
  refine Ct.of (by decide) (Nat.le_of_ble_eq_true rfl) [(0, .ref c), (1, .int 4), (2, .int x902)] rfl (fun X hX F hQ => ?_)
  have hPP := hP
  unfold OKP at hPP
  have h1 : HS V c ⟨T, Z, u, h, P, L⟩ [0, 1, 2, 4, 5, 6, 7, 8, 9, 10, 11, 12, 13, 14, 15, 16, 17, 18, 19, 20, 21, 22, 23] σ σ := HS.start h0
  refine m_aload_n F rfl e_X10_reads_0 ?_
  refine r_get F e_X10_reads_1 fl_X10_13 h1 rfl (fun v hv f7835 => ?_)
  obtain rfl : v = .ref (c + 2) := hv
  refine m_iconst F (v := 5) (by decide) e_X10_reads_4 ?_
  refine m_iload_n F rfl e_X10_reads_5 ?_
  refine m_iadd F e_X10_reads_6 ?_
  refine Wm.topE (w := 9) (by decide) ?_
  refine m_iload_n F rfl e_X10_reads_7 ?_
  refine r_iast F (g' := (⟨T, Z, u, h, P, L⟩ : RG)) (len := 10) (j := 9) e_X10_reads_8 h1 (fun _ h => h) (fun f h => ⟨f, rfl, h⟩) (by decide) (by decide) (by decide) (by unfold vp_in; decide) (by refine ⟨?_, ?_, ?_, ?_, ?_, ?_⟩ <;> intro e <;> first | exact absurd e (by decide) | rfl | exact ⟨_, by omega, rfl⟩) (fun _ _ _ h => h) (fun _ _ _ h => h) (fun σ7836 h7837 g7838 f7839 g7840 => ?_)
  exact m_vret F hQ e_X10_reads_9 (⟨h7837, rfl⟩)
set_option maxRecDepth 20000 in
theorem q_X10_atHand (l : Launch) (V : VX) (c T Z u h : Nat) (P : NP) (L : Nat → LQ) (N : Nat) (σ : Mem)  (h0 : HR V c ⟨T, Z, u, h, P, L⟩ σ) (hob : OKB L) (hP : OKP P)  : Ct l V yX10_atHand cX10_atHand 2 (some .int) 7 0 0 N σ [.ref c] (fun r τ => ∃ P9 : NP, OKP P9 ∧ RA P P9 ∧ HS V c (⟨T, Z, u, h, P9, L⟩ : RG) [0, 2, 3, 4, 5, 6, 7, 8, 9, 10, 11, 12, 13, 14, 15, 16, 17, 18, 19, 20, 21, 22, 23] σ τ ∧ ∃ n : Nat, 4 ≤ n ∧ n ≤ 7 ∧ r = some (.int (nI n))) := by
  refine Ct.of (by decide) (Nat.le_of_ble_eq_true rfl) [(0, .ref c)] rfl (fun X hX F hQ => ?_)
  have hPP := hP
  unfold OKP at hPP
  have h1 : HS V c ⟨T, Z, u, h, P, L⟩ [0, 2, 3, 4, 5, 6, 7, 8, 9, 10, 11, 12, 13, 14, 15, 16, 17, 18, 19, 20, 21, 22, 23] σ σ := HS.start h0
  refine m_aload_n F rfl e_X10_atHand_0 ?_
  refine r_callV F e_X10_atHand_1 (q_X10_goOn (x_l X) V c T Z u h P L _ _  h1.1 (hob) hP ) cb_X10_goOn ml_X10_154 im_X10_goOn se_X10_goOn h1 rfl rfl (rest := []) rfl (Nat.le_of_ble_eq_true rfl) ⟨Nat.le_of_ble_eq_true rfl, Nat.le_of_ble_eq_true rfl⟩ ⟨Nat.le_of_ble_eq_true rfl, Nat.le_of_ble_eq_true rfl⟩ (fun r σ7841 hp => ?_)
  obtain ⟨P7844, oP7844, rP7844, pr7845, h7842, rfl⟩ := hp
  have h7843 := HS.trans h1 h7842 (by decide)
  have xP7844 := oP7844
  unfold OKP at xP7844
  unfold RA at rP7844
  refine m_aload_n F rfl e_X10_atHand_4 ?_
  refine r_get F e_X10_atHand_5 fl_X10_141 h7843 rfl (fun v hv f7846 => ?_)
  obtain ⟨x7847, hx7847, rfl⟩ := hv
  replace hx7847 : Z = 0 → x7847 ≠ 0 := hx7847
  refine m_if_eq F e_X10_atHand_8 (fun q8 => ?_) (fun q8 => ?_)
  · subst q8
    refine m_aload_n F rfl e_X10_atHand_13 ?_
    refine r_get F e_X10_atHand_14 fl_X10_110 h7843 rfl (fun v hv f7848 => ?_)
    obtain ⟨x7849, rfl⟩ := hv
    refine m_iconst F (v := 1) (by decide) e_X10_atHand_17 ?_
    refine m_icmp_eq F e_X10_atHand_18 (fun q18 => ?_) (fun q18 => ?_)
    · subst q18
      refine m_aload_n F rfl e_X10_atHand_26 ?_
      refine r_getC F e_X10_atHand_27 fl_X10_141 h7843 (f7846) ?_
      refine m_if_ne F e_X10_atHand_30 (fun q => absurd (by decide) q) (fun _ => ?_)
      refine m_aload_n F rfl e_X10_atHand_33 ?_
      refine m_iconst F (v := 4) (by decide) e_X10_atHand_34 ?_
      refine m_aload_n F rfl e_X10_atHand_35 ?_
      refine m_iconst F (v := 0) (by decide) e_X10_atHand_36 ?_
      refine r_callV F e_X10_atHand_37 (q_X10_reading0 (x_l X) V c T Z u h P7844 L _ _  h7843.1 (hob) oP7844 ) cb_X10_reading ml_X10_157 im_X10_reading se_X10_reading h7843 rfl rfl (rest := [.int 4, .ref c]) rfl (Nat.le_of_ble_eq_true rfl) ⟨Nat.le_of_ble_eq_true rfl, Nat.le_of_ble_eq_true rfl⟩ ⟨Nat.le_of_ble_eq_true rfl, Nat.le_of_ble_eq_true rfl⟩ (fun r σ7850 hp => ?_)
      obtain ⟨h7851, rfl⟩ := hp
      have h7852 := HS.trans h7843 h7851 (by decide)
      refine m_aload_n F rfl e_X10_atHand_40 ?_
      refine r_get F e_X10_atHand_41 fl_X10_120 h7852 rfl (fun v hv f7853 => ?_)
      obtain ⟨x7854, rfl⟩ := hv
      refine r_callV F e_X10_atHand_44 (q_X10_namedAt (x_l X) V c T Z u h P7844 L _ _ 4 P7844.n5 x7854 h7852.1 (hob) oP7844 (by omega) (by omega)) cb_X10_namedAt ml_X10_161 im_X10_namedAt se_X10_namedAt h7852 rfl rfl (rest := []) rfl (Nat.le_of_ble_eq_true rfl) ⟨Nat.le_of_ble_eq_true rfl, Nat.le_of_ble_eq_true rfl⟩ ⟨Nat.le_of_ble_eq_true rfl, Nat.le_of_ble_eq_true rfl⟩ (fun r σ7855 hp => ?_)
      obtain ⟨h7856, c7858⟩ := hp
      have h7857 := HS.trans h7852 h7856 (by decide)
      rcases c7858 with rfl | ⟨n7859, hn7859, rfl⟩
      · refine m_goto F e_X10_atHand_47 ?_
        refine m_istore_n F (lv' := [(1, .int (-1)), (0, .ref c)]) e_X10_atHand_51 (by decide) rfl ?_
        refine m_iload_n F rfl e_X10_atHand_52 ?_
        refine m_iconst F (v := (-1)) (by decide) e_X10_atHand_53 ?_
        refine m_icmp_ne F e_X10_atHand_54 (fun q => absurd (by decide) q) (fun _ => ?_)
        refine m_aload_n F rfl e_X10_atHand_57 ?_
        refine m_iconst F (v := 4) (by decide) e_X10_atHand_58 ?_
        refine r_callV F e_X10_atHand_59 (q_X10_wrong (x_l X) V c T Z u h P7844 L _ _ 4 h7857.1 (hob) oP7844 (by first | omega | assumption | decide)) cb_X10_wrong ml_X10_150 im_X10_wrong se_X10_wrong h7857 rfl rfl (rest := []) rfl (Nat.le_of_ble_eq_true rfl) ⟨Nat.le_of_ble_eq_true rfl, Nat.le_of_ble_eq_true rfl⟩ ⟨Nat.le_of_ble_eq_true rfl, Nat.le_of_ble_eq_true rfl⟩ (fun r σ7860 hp => ?_)
        obtain ⟨h7861, rfl⟩ := hp
        have h7862 := HS.trans h7857 h7861 (by decide)
        refine m_aload_n F rfl e_X10_atHand_62 ?_
        refine r_get F e_X10_atHand_63 fl_X10_141 h7862 rfl (fun v hv f7863 => ?_)
        obtain ⟨x7864, hx7864, rfl⟩ := hv
        replace hx7864 : 0 = 0 → x7864 ≠ 0 := hx7864
        refine m_if_ne F e_X10_atHand_66 (fun q66 => ?_) (fun q66 => ?_)
        · have h7865 := HS.z0 h7862 (f7863) q66
          refine m_iconst F (v := 4) (by decide) e_X10_atHand_75 ?_
          have h7866 : HS V c _ [0, 2, 3, 4, 5, 6, 7, 8, 9, 10, 11, 12, 13, 14, 15, 16, 17, 18, 19, 20, 21, 22, 23] _ _ := ⟨HR.mono (Z' := Z) (by intro e; first | rfl | assumption | omega) h7865.1, h7865.2⟩
          exact m_iret F hQ e_X10_atHand_76 (⟨P7844, oP7844, (by unfold RA; omega), h7866, 4, by omega, by omega, rfl⟩)
        · first | exact absurd q66 (hx7864 rfl) | contradiction
      · refine m_goto F e_X10_atHand_47 ?_
        refine m_istore_n F (lv' := [(1, .int (nI n7859)), (0, .ref c)]) e_X10_atHand_51 (by decide) rfl ?_
        refine m_iload_n F rfl e_X10_atHand_52 ?_
        refine m_iconst F (v := (-1)) (by decide) e_X10_atHand_53 ?_
        refine m_icmp_ne F e_X10_atHand_54 (fun q54 => ?_) (fun q54 => ?_)
        · refine m_aload_n F rfl e_X10_atHand_62 ?_
          refine r_getC F e_X10_atHand_63 fl_X10_141 h7857 ((fld_eq (h7856.2 c (by rw [show kC c c = 1 from kC_at (k := 0) (by decide)]; decide))).trans ((fld_eq (h7851.2 c (by rw [show kC c c = 1 from kC_at (k := 0) (by decide)]; decide))).trans f7846)) ?_
          refine m_if_ne F e_X10_atHand_66 (fun q => absurd (by decide) q) (fun _ => ?_)
          refine m_iconst F (v := 4) (by decide) e_X10_atHand_69 ?_
          refine m_iload_n F rfl e_X10_atHand_70 ?_
          refine m_iadd F e_X10_atHand_71 ?_
          refine Wm.topE (w := nI (4 + n7859)) (nI_add 4 n7859) ?_
          refine m_goto F e_X10_atHand_72 ?_
          exact m_iret F hQ e_X10_atHand_76 (⟨P7844, oP7844, (by unfold RA; omega), h7857, 4 + n7859, by omega, by omega, rfl⟩)
        · refine m_aload_n F rfl e_X10_atHand_57 ?_
          refine m_iconst F (v := 4) (by decide) e_X10_atHand_58 ?_
          refine r_callV F e_X10_atHand_59 (q_X10_wrong (x_l X) V c T Z u h P7844 L _ _ 4 h7857.1 (hob) oP7844 (by first | omega | assumption | decide)) cb_X10_wrong ml_X10_150 im_X10_wrong se_X10_wrong h7857 rfl rfl (rest := []) rfl (Nat.le_of_ble_eq_true rfl) ⟨Nat.le_of_ble_eq_true rfl, Nat.le_of_ble_eq_true rfl⟩ ⟨Nat.le_of_ble_eq_true rfl, Nat.le_of_ble_eq_true rfl⟩ (fun r σ7867 hp => ?_)
          obtain ⟨h7868, rfl⟩ := hp
          have h7869 := HS.trans h7857 h7868 (by decide)
          refine m_aload_n F rfl e_X10_atHand_62 ?_
          refine r_get F e_X10_atHand_63 fl_X10_141 h7869 rfl (fun v hv f7870 => ?_)
          obtain ⟨x7871, hx7871, rfl⟩ := hv
          replace hx7871 : 0 = 0 → x7871 ≠ 0 := hx7871
          refine m_if_ne F e_X10_atHand_66 (fun q66 => ?_) (fun q66 => ?_)
          · have h7872 := HS.z0 h7869 (f7870) q66
            refine m_iconst F (v := 4) (by decide) e_X10_atHand_75 ?_
            have h7873 : HS V c _ [0, 2, 3, 4, 5, 6, 7, 8, 9, 10, 11, 12, 13, 14, 15, 16, 17, 18, 19, 20, 21, 22, 23] _ _ := ⟨HR.mono (Z' := Z) (by intro e; first | rfl | assumption | omega) h7872.1, h7872.2⟩
            exact m_iret F hQ e_X10_atHand_76 (⟨P7844, oP7844, (by unfold RA; omega), h7873, 4, by omega, by omega, rfl⟩)
          · first | exact absurd q66 (hx7871 rfl) | contradiction
    · refine m_aload_n F rfl e_X10_atHand_21 ?_
      refine m_iconst F (v := 1) (by decide) e_X10_atHand_22 ?_
      refine r_callV F e_X10_atHand_23 (q_X10_wrong (x_l X) V c T Z u h P7844 L _ _ 1 h7843.1 (hob) oP7844 (by first | omega | assumption | decide)) cb_X10_wrong ml_X10_150 im_X10_wrong se_X10_wrong h7843 rfl rfl (rest := []) rfl (Nat.le_of_ble_eq_true rfl) ⟨Nat.le_of_ble_eq_true rfl, Nat.le_of_ble_eq_true rfl⟩ ⟨Nat.le_of_ble_eq_true rfl, Nat.le_of_ble_eq_true rfl⟩ (fun r σ7874 hp => ?_)
      obtain ⟨h7875, rfl⟩ := hp
      have h7876 := HS.trans h7843 h7875 (by decide)
      refine m_aload_n F rfl e_X10_atHand_26 ?_
      refine r_get F e_X10_atHand_27 fl_X10_141 h7876 rfl (fun v hv f7877 => ?_)
      obtain ⟨x7878, hx7878, rfl⟩ := hv
      replace hx7878 : 0 = 0 → x7878 ≠ 0 := hx7878
      refine m_if_ne F e_X10_atHand_30 (fun q30 => ?_) (fun q30 => ?_)
      · have h7879 := HS.z0 h7876 (f7877) q30
        refine m_iconst F (v := 0) (by decide) e_X10_atHand_50 ?_
        refine m_istore_n F (lv' := [(1, .int 0), (0, .ref c)]) e_X10_atHand_51 (by decide) rfl ?_
        refine m_iload_n F rfl e_X10_atHand_52 ?_
        refine m_iconst F (v := (-1)) (by decide) e_X10_atHand_53 ?_
        refine m_icmp_ne F e_X10_atHand_54 (fun _ => ?_) (fun q => absurd q (by decide))
        refine m_aload_n F rfl e_X10_atHand_62 ?_
        refine r_getC F e_X10_atHand_63 fl_X10_141 h7879 (f7877) ?_
        refine m_if_ne F e_X10_atHand_66 (fun q66 => ?_) (fun q66 => ?_)
        · have h7880 := HS.z0 h7879 (f7877) q66
          refine m_iconst F (v := 4) (by decide) e_X10_atHand_75 ?_
          have h7881 : HS V c _ [0, 2, 3, 4, 5, 6, 7, 8, 9, 10, 11, 12, 13, 14, 15, 16, 17, 18, 19, 20, 21, 22, 23] _ _ := ⟨HR.mono (Z' := Z) (by intro e; first | rfl | assumption | omega) h7880.1, h7880.2⟩
          exact m_iret F hQ e_X10_atHand_76 (⟨P7844, oP7844, (by unfold RA; omega), h7881, 4, by omega, by omega, rfl⟩)
        · first | exact absurd q66 (hx7878 rfl) | contradiction
      · first | exact absurd q30 (hx7878 rfl) | contradiction
  · have h7882 := HS.z0 h7843 (f7846) q8
    refine m_iconst F (v := 4) (by decide) e_X10_atHand_11 ?_
    have h7883 : HS V c _ [0, 2, 3, 4, 5, 6, 7, 8, 9, 10, 11, 12, 13, 14, 15, 16, 17, 18, 19, 20, 21, 22, 23] _ _ := ⟨HR.mono (Z' := Z) (by intro e; first | rfl | assumption | omega) h7882.1, h7882.2⟩
    exact m_iret F hQ e_X10_atHand_12 (⟨P7844, oP7844, (by unfold RA; omega), h7883, 4, by omega, by omega, rfl⟩)
set_option maxRecDepth 20000 in
theorem lq_X10_readLease_157 {V : VX} {X : MX} {N : Nat} {σ : Mem} {c T Z u h : Nat} {P : NP} {L : Nat → LQ}   (F : Fx V X yX10_readLease cX10_readLease 3 none (rmd 8 0 0)) (hQ : Rt V X 0 0 N (fun r τ => ∃ P9 : NP, OKP P9 ∧ RP P P9 ∧ HS V c (⟨T, Z, u, h, P9, L⟩ : RG) [0, 2, 12, 13, 14, 15, 16, 17, 18, 19, 20, 21, 22, 23] σ τ ∧ r = none)) (hob : OKB L) (hP : OKP P)   : ∀ (fuel : Nat) (a : Nat) (i : Nat) (P1 : NP) (τ : Mem), HS V c (⟨T, Z, u, h, P1, L⟩ : RG) [0, 2, 12, 13, 14, 15, 16, 17, 18, 19, 20, 21, 22, 23] σ τ → OKP P1 → RP P P1 → a = 4 + P1.n5 ∧ i ≤ 48 ∧ P1.n5 ≤ 3 ∧ P1.n5 + 1 ≤ P1.m5 → 48 - i < fuel → Wm V X 3 N τ 0 0 157 [(0, .ref c), (1, .int (nI a)), (2, .int (nI i))] [] := by
  intro fuel
  induction fuel with
  | zero => intros; rename_i hm; exact absurd hm (Nat.not_lt_zero _)
  | succ fuel ih =>
    intro a i P1 τ h1 hP1 hR1 hi hm
    have hPP := hP
    unfold OKP at hPP
    have hPP1 := hP1
    unfold OKP at hPP1
    unfold RP at hR1
    refine m_iload_n F rfl e_X10_readLease_157 ?_
    refine m_bipush F (v := 48) (by decide) e_X10_readLease_158 ?_
    refine m_icmp_ge F e_X10_readLease_160 (fun q160 => ?_) (fun q160 => ?_)
    · have c160 : i ≥ 48 := (nI_leI (a := 48) (b := i) (by omega) (by omega)).mp q160
      refine m_aload_n F rfl e_X10_readLease_181 ?_
      refine m_iconst F (v := 0) (by decide) e_X10_readLease_182 ?_
      refine m_aload_n F rfl e_X10_readLease_183 ?_
      refine m_iconst F (v := 0) (by decide) e_X10_readLease_184 ?_
      refine r_callV F e_X10_readLease_185 (q_X10_reading0 (x_l X) V c T Z u h P1 L _ _  h1.1 (hob) hP1 ) cb_X10_reading ml_X10_157 im_X10_reading se_X10_reading h1 rfl rfl (rest := [.int 0, .ref c]) rfl (Nat.le_of_ble_eq_true rfl) ⟨Nat.le_of_ble_eq_true rfl, Nat.le_of_ble_eq_true rfl⟩ ⟨Nat.le_of_ble_eq_true rfl, Nat.le_of_ble_eq_true rfl⟩ (fun r σ7884 hp => ?_)
      obtain ⟨h7885, rfl⟩ := hp
      have h7886 := HS.trans h1 h7885 (by decide)
      refine m_iconst F (v := 1) (by decide) e_X10_readLease_188 ?_
      refine m_iadd F e_X10_readLease_189 ?_
      refine Wm.topE (w := nI (P1.n5 + 1)) (nI_add P1.n5 1) ?_
      refine r_callV F e_X10_readLease_190 (q_X10_reads0 (x_l X) V c T Z u h P1 L _ _ (P1.n5 + 1) h7886.1 (hob) hP1 (by omega) (by first | omega | assumption | decide)) cb_X10_reads ml_X10_170 im_X10_reads se_X10_reads h7886 rfl rfl (rest := []) rfl (Nat.le_of_ble_eq_true rfl) ⟨Nat.le_of_ble_eq_true rfl, Nat.le_of_ble_eq_true rfl⟩ ⟨Nat.le_of_ble_eq_true rfl, Nat.le_of_ble_eq_true rfl⟩ (fun r σ7887 hp => ?_)
      obtain ⟨h7888, rfl⟩ := hp
      have h7889 := HS.trans h7886 h7888 (by decide)
      obtain ⟨P7890, eP7890⟩ : ∃ P9, P9 = (mkP P1.n0 P1.n2 (P1.n5 + 1) P1.n7 P1.m0 P1.m5 P1.w2 P1.w7 P1.kk P1.a P1.b0 P1.b1 P1.b2 P1.b3) := ⟨_, rfl⟩
      rw [← eP7890] at h7889
      have fP7890 : P7890.n0 = P1.n0 ∧ P7890.n2 = P1.n2 ∧ P7890.n5 = P1.n5 + 1 ∧ P7890.n7 = P1.n7 ∧ P7890.m0 = P1.m0 ∧ P7890.m5 = P1.m5 ∧ P7890.w2 = P1.w2 ∧ P7890.w7 = P1.w7 ∧ P7890.kk = P1.kk ∧ P7890.a = P1.a ∧ P7890.b0 = P1.b0 ∧ P7890.b1 = P1.b1 ∧ P7890.b2 = P1.b2 ∧ P7890.b3 = P1.b3 := by rw [eP7890]; exact ⟨rfl, rfl, rfl, rfl, rfl, rfl, rfl, rfl, rfl, rfl, rfl, rfl, rfl, rfl⟩
      have oP7891 : OKP P7890 := by unfold OKP; omega
      exact m_vret F hQ e_X10_readLease_193 (⟨P7890, oP7891, (by unfold RP; omega), h7889, rfl⟩)
    · have c160 : i < 48 := by have hh := mt (nI_leI (a := 48) (b := i) (by omega) (by omega)).mpr q160; omega
      refine m_aload_n F rfl e_X10_readLease_163 ?_
      refine r_get F e_X10_readLease_164 fl_X10_37 h1 rfl (fun v hv f7892 => ?_)
      obtain rfl : v = .ref (c + 10) := hv
      refine m_bipush F (v := 48) (by decide) e_X10_readLease_167 ?_
      refine m_iload_n F rfl e_X10_readLease_169 ?_
      refine m_imul F e_X10_readLease_170 ?_
      refine Wm.topE (w := nI (48 * a)) (pk_mul 48 a) ?_
      refine m_iload_n F rfl e_X10_readLease_171 ?_
      refine m_iadd F e_X10_readLease_172 ?_
      refine Wm.topE (w := nI ((48 * a) + i)) (nI_add (48 * a) i) ?_
      refine m_iconst F (v := 0) (by decide) e_X10_readLease_173 ?_
      refine r_iast F (g' := (⟨T, Z, u, h, P1, L⟩ : RG)) (len := 384) (j := (48 * a) + i) e_X10_readLease_174 h1 (fun _ h => h) (fun f h => ⟨f, rfl, h⟩) (by decide) (by decide) (nI_clamp (by omega)) (vp_in_nI (by omega) (by decide)) trivial (fun _ _ _ h => h) (fun _ _ _ h => h) (fun σ7893 h7894 g7895 f7896 g7897 => ?_)
      refine m_iinc F (v := nI (i + 1)) (lv' := [(2, .int (nI (i + 1))), (0, .ref c), (1, .int (nI a))]) e_X10_readLease_175 rfl (nI_add i 1) (by decide) rfl ?_
      refine m_goto F e_X10_readLease_178 ?_
      refine Wm.lvsub (lv' := [(0, .ref c), (1, .int (nI a)), (2, .int (nI (i + 1)))]) ?_ [1, 2, 0] rfl
      exact ih a (i + 1) P1 _ h7894 hP1 (by unfold RP; omega) (by omega) (by omega)
set_option maxRecDepth 20000 in
theorem q_X10_readLease (l : Launch) (V : VX) (c T Z u h : Nat) (P : NP) (L : Nat → LQ) (N : Nat) (σ : Mem)  (h0 : HR V c ⟨T, Z, u, h, P, L⟩ σ) (hob : OKB L) (hP : OKP P)  : Ct l V yX10_readLease cX10_readLease 3 none 8 0 0 N σ [.ref c] (fun r τ => ∃ P9 : NP, OKP P9 ∧ RP P P9 ∧ HS V c (⟨T, Z, u, h, P9, L⟩ : RG) [0, 2, 12, 13, 14, 15, 16, 17, 18, 19, 20, 21, 22, 23] σ τ ∧ r = none) := by
  refine Ct.of (by decide) (Nat.le_of_ble_eq_true rfl) [(0, .ref c)] rfl (fun X hX F hQ => ?_)
  have hPP := hP
  unfold OKP at hPP
  have h1 : HS V c ⟨T, Z, u, h, P, L⟩ [0, 2, 12, 13, 14, 15, 16, 17, 18, 19, 20, 21, 22, 23] σ σ := HS.start h0
  refine m_aload_n F rfl e_X10_readLease_0 ?_
  refine m_iconst F (v := 0) (by decide) e_X10_readLease_1 ?_
  refine r_callV F e_X10_readLease_2 (q_X10_reading0 (x_l X) V c T Z u h P L _ _  h1.1 (hob) hP ) cb_X10_reading ml_X10_157 im_X10_reading se_X10_reading h1 rfl rfl (rest := []) rfl (Nat.le_of_ble_eq_true rfl) ⟨Nat.le_of_ble_eq_true rfl, Nat.le_of_ble_eq_true rfl⟩ ⟨Nat.le_of_ble_eq_true rfl, Nat.le_of_ble_eq_true rfl⟩ (fun r σ7898 hp => ?_)
  obtain ⟨h7899, rfl⟩ := hp
  have h7900 := HS.trans h1 h7899 (by decide)
  refine m_iconst F (v := 4) (by decide) e_X10_readLease_5 ?_
  refine m_icmp_ne F e_X10_readLease_6 (fun q6 => ?_) (fun q6 => ?_)
  · have c6 : P.n5 ≠ 4 := by have hh := mt (nI_eq (a := P.n5) (b := 4) (by omega) (by omega)).mpr q6; omega
    refine m_aload_n F rfl e_X10_readLease_14 ?_
    refine r_callV F e_X10_readLease_15 (q_X10_goOn (x_l X) V c T Z u h P L _ _  h7900.1 (hob) hP ) cb_X10_goOn ml_X10_154 im_X10_goOn se_X10_goOn h7900 rfl rfl (rest := []) rfl (Nat.le_of_ble_eq_true rfl) ⟨Nat.le_of_ble_eq_true rfl, Nat.le_of_ble_eq_true rfl⟩ ⟨Nat.le_of_ble_eq_true rfl, Nat.le_of_ble_eq_true rfl⟩ (fun r σ7901 hp => ?_)
    obtain ⟨P7904, oP7904, rP7904, pr7905, h7902, rfl⟩ := hp
    have h7903 := HS.trans h7900 h7902 (by decide)
    have xP7904 := oP7904
    unfold OKP at xP7904
    unfold RA at rP7904
    refine m_aload_n F rfl e_X10_readLease_18 ?_
    refine r_get F e_X10_readLease_19 fl_X10_141 h7903 rfl (fun v hv f7906 => ?_)
    obtain ⟨x7907, hx7907, rfl⟩ := hv
    replace hx7907 : Z = 0 → x7907 ≠ 0 := hx7907
    refine m_if_eq F e_X10_readLease_22 (fun q22 => ?_) (fun q22 => ?_)
    · subst q22
      refine m_aload_n F rfl e_X10_readLease_26 ?_
      refine r_get F e_X10_readLease_27 fl_X10_110 h7903 rfl (fun v hv f7908 => ?_)
      obtain ⟨x7909, rfl⟩ := hv
      refine m_iconst F (v := 1) (by decide) e_X10_readLease_30 ?_
      refine m_icmp_eq F e_X10_readLease_31 (fun q31 => ?_) (fun q31 => ?_)
      · subst q31
        refine m_aload_n F rfl e_X10_readLease_42 ?_
        refine m_iconst F (v := 4) (by decide) e_X10_readLease_43 ?_
        refine m_aload_n F rfl e_X10_readLease_44 ?_
        refine m_iconst F (v := 0) (by decide) e_X10_readLease_45 ?_
        refine r_callV F e_X10_readLease_46 (q_X10_reading0 (x_l X) V c T Z u h P7904 L _ _  h7903.1 (hob) oP7904 ) cb_X10_reading ml_X10_157 im_X10_reading se_X10_reading h7903 rfl rfl (rest := [.int 4, .ref c]) rfl (Nat.le_of_ble_eq_true rfl) ⟨Nat.le_of_ble_eq_true rfl, Nat.le_of_ble_eq_true rfl⟩ ⟨Nat.le_of_ble_eq_true rfl, Nat.le_of_ble_eq_true rfl⟩ (fun r σ7910 hp => ?_)
        obtain ⟨h7911, rfl⟩ := hp
        have h7912 := HS.trans h7903 h7911 (by decide)
        refine m_aload_n F rfl e_X10_readLease_49 ?_
        refine r_get F e_X10_readLease_50 fl_X10_120 h7912 rfl (fun v hv f7913 => ?_)
        obtain ⟨x7914, rfl⟩ := hv
        refine r_callV F e_X10_readLease_53 (q_X10_namedAt (x_l X) V c T Z u h P7904 L _ _ 4 P7904.n5 x7914 h7912.1 (hob) oP7904 (by omega) (by omega)) cb_X10_namedAt ml_X10_161 im_X10_namedAt se_X10_namedAt h7912 rfl rfl (rest := []) rfl (Nat.le_of_ble_eq_true rfl) ⟨Nat.le_of_ble_eq_true rfl, Nat.le_of_ble_eq_true rfl⟩ ⟨Nat.le_of_ble_eq_true rfl, Nat.le_of_ble_eq_true rfl⟩ (fun r σ7915 hp => ?_)
        obtain ⟨h7916, c7918⟩ := hp
        have h7917 := HS.trans h7912 h7916 (by decide)
        rcases c7918 with rfl | ⟨n7919, hn7919, rfl⟩
        · refine m_iconst F (v := (-1)) (by decide) e_X10_readLease_56 ?_
          refine m_icmp_eq F e_X10_readLease_57 (fun _ => ?_) (fun q => absurd (by decide) q)
          refine m_aload_n F rfl e_X10_readLease_65 ?_
          refine r_getC F e_X10_readLease_66 fl_X10_141 h7917 ((fld_eq (h7916.2 c (by rw [show kC c c = 1 from kC_at (k := 0) (by decide)]; decide))).trans ((fld_eq (h7911.2 c (by rw [show kC c c = 1 from kC_at (k := 0) (by decide)]; decide))).trans f7906)) ?_
          refine m_if_eq F e_X10_readLease_69 (fun _ => ?_) (fun q => absurd (by decide) q)
          refine m_iconst F (v := 4) (by decide) e_X10_readLease_73 ?_
          refine m_aload_n F rfl e_X10_readLease_74 ?_
          refine m_iconst F (v := 0) (by decide) e_X10_readLease_75 ?_
          refine r_callV F e_X10_readLease_76 (q_X10_reading0 (x_l X) V c T Z u h P7904 L _ _  h7917.1 (hob) oP7904 ) cb_X10_reading ml_X10_157 im_X10_reading se_X10_reading h7917 rfl rfl (rest := [.int 4]) rfl (Nat.le_of_ble_eq_true rfl) ⟨Nat.le_of_ble_eq_true rfl, Nat.le_of_ble_eq_true rfl⟩ ⟨Nat.le_of_ble_eq_true rfl, Nat.le_of_ble_eq_true rfl⟩ (fun r σ7920 hp => ?_)
          obtain ⟨h7921, rfl⟩ := hp
          have h7922 := HS.trans h7917 h7921 (by decide)
          refine m_iadd F e_X10_readLease_79 ?_
          refine Wm.topE (w := nI (4 + P7904.n5)) (nI_add 4 P7904.n5) ?_
          refine m_istore_n F (lv' := [(1, .int (nI (4 + P7904.n5))), (0, .ref c)]) e_X10_readLease_80 (by decide) rfl ?_
          refine m_aload_n F rfl e_X10_readLease_81 ?_
          refine r_get F e_X10_readLease_82 fl_X10_16 h7922 rfl (fun v hv f7923 => ?_)
          obtain rfl : v = .ref (c + 3) := hv
          refine m_iload_n F rfl e_X10_readLease_85 ?_
          refine m_aload_n F rfl e_X10_readLease_86 ?_
          refine r_getC F e_X10_readLease_87 fl_X10_120 h7922 ((fld_eq (h7921.2 c (by rw [show kC c c = 1 from kC_at (k := 0) (by decide)]; decide))).trans ((fld_eq (h7916.2 c (by rw [show kC c c = 1 from kC_at (k := 0) (by decide)]; decide))).trans f7913)) ?_
          refine r_iast F (g' := (⟨T, Z, u, h, P7904, L⟩ : RG)) (len := 8) (j := 4 + P7904.n5) e_X10_readLease_90 h7922 (fun _ h => h) (fun f h => ⟨f, rfl, h⟩) (by decide) (by decide) (nI_clamp (by omega)) (vp_in_nI (by omega) (by decide)) (fun h4 => absurd (show 4 + P7904.n5 < 4 from h4) (by omega)) (fun _ _ _ h => h) (fun _ _ _ h => h) (fun σ7924 h7925 g7926 f7927 g7928 => ?_)
          refine m_aload_n F rfl e_X10_readLease_91 ?_
          refine r_callV F e_X10_readLease_92 (q_X10_token (x_l X) V c T Z u h P7904 L _ _  h7925.1 (hob) oP7904 ) cb_X10_token ml_X10_147 im_X10_token se_X10_token h7925 rfl rfl (rest := []) rfl (Nat.le_of_ble_eq_true rfl) ⟨Nat.le_of_ble_eq_true rfl, Nat.le_of_ble_eq_true rfl⟩ ⟨Nat.le_of_ble_eq_true rfl, Nat.le_of_ble_eq_true rfl⟩ (fun r σ7929 hp => ?_)
          obtain ⟨P7932, oP7932, rP7932, pr7933, h7930, rfl⟩ := hp
          have h7931 := HS.trans h7925 h7930 (by decide)
          have xP7932 := oP7932
          unfold OKP at xP7932
          unfold RA at rP7932
          refine m_aload_n F rfl e_X10_readLease_95 ?_
          refine r_get F e_X10_readLease_96 fl_X10_19 h7931 rfl (fun v hv f7934 => ?_)
          obtain rfl : v = .ref (c + 4) := hv
          refine m_iload_n F rfl e_X10_readLease_99 ?_
          refine m_aload_n F rfl e_X10_readLease_100 ?_
          refine m_iconst F (v := 0) (by decide) e_X10_readLease_101 ?_
          refine m_bipush F (v := 20) (by decide) e_X10_readLease_102 ?_
          refine r_callV F e_X10_readLease_104 (q_X10_numeral (x_l X) V c T Z u h P7932 L _ _ 0 20 h7931.1 (hob) oP7932 (by omega) (by omega)) cb_X10_numeral ml_X10_165 im_X10_numeral se_X10_numeral h7931 rfl rfl (rest := [.int (nI (4 + P7904.n5)), .ref (c + 4)]) rfl (Nat.le_of_ble_eq_true rfl) ⟨Nat.le_of_ble_eq_true rfl, Nat.le_of_ble_eq_true rfl⟩ ⟨Nat.le_of_ble_eq_true rfl, Nat.le_of_ble_eq_true rfl⟩ (fun r σ7935 hp => ?_)
          obtain ⟨P7939, oP7939, rP7939, h7936, c7938⟩ := hp
          have h7937 := HS.trans h7931 h7936 (by decide)
          have xP7939 := oP7939
          unfold OKP at xP7939
          unfold RA at rP7939
          rcases c7938 with ⟨n7940, gn7940, hn7940, rfl⟩ | ⟨h7941, rfl⟩
          · refine r_iast F (g' := (⟨T, Z, u, h, P7939, L⟩ : RG)) (len := 8) (j := 4 + P7904.n5) e_X10_readLease_107 h7937 (fun _ h => h) (fun f h => ⟨f, rfl, h⟩) (by decide) (by decide) (nI_clamp (by omega)) (vp_in_nI (by omega) (by decide)) trivial (fun _ _ _ h => h) (fun _ _ _ h => h) (fun σ7942 h7943 g7944 f7945 g7946 => ?_)
            refine m_aload_n F rfl e_X10_readLease_108 ?_
            refine r_get F e_X10_readLease_109 fl_X10_22 h7943 rfl (fun v hv f7947 => ?_)
            obtain rfl : v = .ref (c + 5) := hv
            refine m_iload_n F rfl e_X10_readLease_112 ?_
            refine m_aload_n F rfl e_X10_readLease_113 ?_
            refine m_iconst F (v := 1) (by decide) e_X10_readLease_114 ?_
            refine m_bipush F (v := 48) (by decide) e_X10_readLease_115 ?_
            refine r_callV F e_X10_readLease_117 (q_X10_numeral (x_l X) V c T Z u h P7939 L _ _ 1 48 h7943.1 (hob) oP7939 (by omega) (by omega)) cb_X10_numeral ml_X10_165 im_X10_numeral se_X10_numeral h7943 rfl rfl (rest := [.int (nI (4 + P7904.n5)), .ref (c + 5)]) rfl (Nat.le_of_ble_eq_true rfl) ⟨Nat.le_of_ble_eq_true rfl, Nat.le_of_ble_eq_true rfl⟩ ⟨Nat.le_of_ble_eq_true rfl, Nat.le_of_ble_eq_true rfl⟩ (fun r σ7948 hp => ?_)
            obtain ⟨P7952, oP7952, rP7952, h7949, c7951⟩ := hp
            have h7950 := HS.trans h7943 h7949 (by decide)
            have xP7952 := oP7952
            unfold OKP at xP7952
            unfold RA at rP7952
            rcases c7951 with ⟨n7953, gn7953, hn7953, rfl⟩ | ⟨h7954, rfl⟩
            · refine r_iast F (g' := (⟨T, Z, u, h, (mkP P7952.n0 P7952.n2 P7952.n5 P7952.n7 P7952.m0 (P7952.n5 + 1) P7952.w2 P7952.w7 P7952.kk P7952.a P7952.b0 P7952.b1 P7952.b2 P7952.b3), L⟩ : RG)) (len := 8) (j := 4 + P7904.n5) e_X10_readLease_120 h7950 (fun _ h => h) (fun f h => ⟨f, rfl, h⟩) (by decide) (by decide) (nI_clamp (by omega)) (vp_in_nI (by omega) (by decide)) ⟨n7953, by omega, rfl, fun h7 _ => absurd h7 (by omega), fun _ _ => by omega⟩ (fun i hi y hy => by obtain ⟨n9, a9, b9, c9, d9⟩ := hy; exact ⟨n9, a9, b9, c9, fun h7 h8 => d9 h7 (show i < 4 + P7952.m5 by have h6 : i < 4 + (P7952.n5 + 1) := h8; omega)⟩) (CR.chg (by intro k hk i x h; unfold EI at h ⊢; split at h <;> first | exact h | exact absurd rfl hk | trivial) rfl rfl) (fun σ7955 h7956 g7957 f7958 g7959 => ?_)
              obtain ⟨P7960, eP7960⟩ : ∃ P9, P9 = (mkP P7952.n0 P7952.n2 P7952.n5 P7952.n7 P7952.m0 (P7952.n5 + 1) P7952.w2 P7952.w7 P7952.kk P7952.a P7952.b0 P7952.b1 P7952.b2 P7952.b3) := ⟨_, rfl⟩
              rw [← eP7960] at h7956
              have fP7960 : P7960.n0 = P7952.n0 ∧ P7960.n2 = P7952.n2 ∧ P7960.n5 = P7952.n5 ∧ P7960.n7 = P7952.n7 ∧ P7960.m0 = P7952.m0 ∧ P7960.m5 = P7952.n5 + 1 ∧ P7960.w2 = P7952.w2 ∧ P7960.w7 = P7952.w7 ∧ P7960.kk = P7952.kk ∧ P7960.a = P7952.a ∧ P7960.b0 = P7952.b0 ∧ P7960.b1 = P7952.b1 ∧ P7960.b2 = P7952.b2 ∧ P7960.b3 = P7952.b3 := by rw [eP7960]; exact ⟨rfl, rfl, rfl, rfl, rfl, rfl, rfl, rfl, rfl, rfl, rfl, rfl, rfl, rfl⟩
              refine m_aload_n F rfl e_X10_readLease_121 ?_
              refine r_get F e_X10_readLease_122 fl_X10_25 h7956 rfl (fun v hv f7961 => ?_)
              obtain rfl : v = .ref (c + 6) := hv
              refine m_iload_n F rfl e_X10_readLease_125 ?_
              refine m_aload_n F rfl e_X10_readLease_126 ?_
              refine m_iconst F (v := 0) (by decide) e_X10_readLease_127 ?_
              refine m_ldc F kc_X10_169 e_X10_readLease_128 ?_
              have oP7965 : OKP P7960 := by unfold OKP; omega
              refine r_callV F e_X10_readLease_130 (q_X10_numeral (x_l X) V c T Z u h P7960 L _ _ 0 200000 h7956.1 (hob) oP7965 (by omega) (by omega)) cb_X10_numeral ml_X10_165 im_X10_numeral se_X10_numeral h7956 rfl rfl (rest := [.int (nI (4 + P7904.n5)), .ref (c + 6)]) rfl (Nat.le_of_ble_eq_true rfl) ⟨Nat.le_of_ble_eq_true rfl, Nat.le_of_ble_eq_true rfl⟩ ⟨Nat.le_of_ble_eq_true rfl, Nat.le_of_ble_eq_true rfl⟩ (fun r σ7962 hp => ?_)
              obtain ⟨P7967, oP7967, rP7967, h7963, c7966⟩ := hp
              have h7964 := HS.trans h7956 h7963 (by decide)
              have xP7967 := oP7967
              unfold OKP at xP7967
              unfold RA at rP7967
              rcases c7966 with ⟨n7968, gn7968, hn7968, rfl⟩ | ⟨h7969, rfl⟩
              · refine r_iast F (g' := (⟨T, Z, u, h, P7967, L⟩ : RG)) (len := 8) (j := 4 + P7904.n5) e_X10_readLease_133 h7964 (fun _ h => h) (fun f h => ⟨f, rfl, h⟩) (by decide) (by decide) (nI_clamp (by omega)) (vp_in_nI (by omega) (by decide)) ⟨n7968, by omega, rfl⟩ (fun _ _ _ h => h) (fun _ _ _ h => h) (fun σ7970 h7971 g7972 f7973 g7974 => ?_)
                refine m_aload_n F rfl e_X10_readLease_134 ?_
                refine r_get F e_X10_readLease_135 fl_X10_28 h7971 rfl (fun v hv f7975 => ?_)
                obtain rfl : v = .ref (c + 7) := hv
                refine m_iload_n F rfl e_X10_readLease_138 ?_
                refine m_iconst F (v := 0) (by decide) e_X10_readLease_139 ?_
                refine r_iast F (g' := (⟨T, Z, u, h, P7967, L⟩ : RG)) (len := 8) (j := 4 + P7904.n5) e_X10_readLease_140 h7971 (fun _ h => h) (fun f h => ⟨f, rfl, h⟩) (by decide) (by decide) (nI_clamp (by omega)) (vp_in_nI (by omega) (by decide)) trivial (fun _ _ _ h => h) (fun _ _ _ h => h) (fun σ7976 h7977 g7978 f7979 g7980 => ?_)
                refine m_aload_n F rfl e_X10_readLease_141 ?_
                refine r_get F e_X10_readLease_142 fl_X10_31 h7977 rfl (fun v hv f7981 => ?_)
                obtain rfl : v = .ref (c + 8) := hv
                refine m_iload_n F rfl e_X10_readLease_145 ?_
                refine m_iconst F (v := 0) (by decide) e_X10_readLease_146 ?_
                refine r_iast F (g' := (⟨T, Z, u, h, P7967, L⟩ : RG)) (len := 8) (j := 4 + P7904.n5) e_X10_readLease_147 h7977 (fun _ h => h) (fun f h => ⟨f, rfl, h⟩) (by decide) (by decide) (nI_clamp (by omega)) (vp_in_nI (by omega) (by decide)) trivial (fun _ _ _ h => h) (fun _ _ _ h => h) (fun σ7982 h7983 g7984 f7985 g7986 => ?_)
                refine m_aload_n F rfl e_X10_readLease_148 ?_
                refine r_get F e_X10_readLease_149 fl_X10_34 h7983 rfl (fun v hv f7987 => ?_)
                obtain rfl : v = .ref (c + 9) := hv
                refine m_iload_n F rfl e_X10_readLease_152 ?_
                refine m_iconst F (v := 0) (by decide) e_X10_readLease_153 ?_
                refine r_iast F (g' := (⟨T, Z, u, h, P7967, L⟩ : RG)) (len := 8) (j := 4 + P7904.n5) e_X10_readLease_154 h7983 (fun _ h => h) (fun f h => ⟨f, rfl, h⟩) (by decide) (by decide) (nI_clamp (by omega)) (vp_in_nI (by omega) (by decide)) trivial (fun _ _ _ h => h) (fun _ _ _ h => h) (fun σ7988 h7989 g7990 f7991 g7992 => ?_)
                refine m_iconst F (v := 0) (by decide) e_X10_readLease_155 ?_
                refine m_istore_n F (lv' := [(2, .int 0), (1, .int (nI (4 + P7904.n5))), (0, .ref c)]) e_X10_readLease_156 (by decide) rfl ?_
                refine Wm.lvsub (lv' := [(0, .ref c), (1, .int (nI (4 + P7904.n5))), (2, .int 0)]) ?_ [2, 1, 0] rfl
                exact lq_X10_readLease_157 F hQ hob hP  (48 - 0 + 1) (4 + P7904.n5) 0 P7967 _ h7989 oP7967 (by unfold RP; omega) (by omega) (Nat.lt_succ_self _)
              · have h7993 : HS V c (⟨T, 0, u, h, P7967, L⟩ : RG) [0, 2, 12, 13, 14, 15, 16, 17, 18, 19, 20, 21, 22, 23] _ _ := ⟨h7969, h7964.2⟩
                refine r_iast F (g' := (⟨T, 0, u, h, P7967, L⟩ : RG)) (len := 8) (j := 4 + P7904.n5) e_X10_readLease_133 h7993 (fun _ h => h) (fun f h => ⟨f, rfl, h⟩) (by decide) (by decide) (nI_clamp (by omega)) (vp_in_nI (by omega) (by decide)) ⟨0, by omega, rfl⟩ (fun _ _ _ h => h) (fun _ _ _ h => h) (fun σ7994 h7995 g7996 f7997 g7998 => ?_)
                refine m_aload_n F rfl e_X10_readLease_134 ?_
                refine r_get F e_X10_readLease_135 fl_X10_28 h7995 rfl (fun v hv f7999 => ?_)
                obtain rfl : v = .ref (c + 7) := hv
                refine m_iload_n F rfl e_X10_readLease_138 ?_
                refine m_iconst F (v := 0) (by decide) e_X10_readLease_139 ?_
                refine r_iast F (g' := (⟨T, 0, u, h, P7967, L⟩ : RG)) (len := 8) (j := 4 + P7904.n5) e_X10_readLease_140 h7995 (fun _ h => h) (fun f h => ⟨f, rfl, h⟩) (by decide) (by decide) (nI_clamp (by omega)) (vp_in_nI (by omega) (by decide)) trivial (fun _ _ _ h => h) (fun _ _ _ h => h) (fun σ8000 h8001 g8002 f8003 g8004 => ?_)
                refine m_aload_n F rfl e_X10_readLease_141 ?_
                refine r_get F e_X10_readLease_142 fl_X10_31 h8001 rfl (fun v hv f8005 => ?_)
                obtain rfl : v = .ref (c + 8) := hv
                refine m_iload_n F rfl e_X10_readLease_145 ?_
                refine m_iconst F (v := 0) (by decide) e_X10_readLease_146 ?_
                refine r_iast F (g' := (⟨T, 0, u, h, P7967, L⟩ : RG)) (len := 8) (j := 4 + P7904.n5) e_X10_readLease_147 h8001 (fun _ h => h) (fun f h => ⟨f, rfl, h⟩) (by decide) (by decide) (nI_clamp (by omega)) (vp_in_nI (by omega) (by decide)) trivial (fun _ _ _ h => h) (fun _ _ _ h => h) (fun σ8006 h8007 g8008 f8009 g8010 => ?_)
                refine m_aload_n F rfl e_X10_readLease_148 ?_
                refine r_get F e_X10_readLease_149 fl_X10_34 h8007 rfl (fun v hv f8011 => ?_)
                obtain rfl : v = .ref (c + 9) := hv
                refine m_iload_n F rfl e_X10_readLease_152 ?_
                refine m_iconst F (v := 0) (by decide) e_X10_readLease_153 ?_
                refine r_iast F (g' := (⟨T, 0, u, h, P7967, L⟩ : RG)) (len := 8) (j := 4 + P7904.n5) e_X10_readLease_154 h8007 (fun _ h => h) (fun f h => ⟨f, rfl, h⟩) (by decide) (by decide) (nI_clamp (by omega)) (vp_in_nI (by omega) (by decide)) trivial (fun _ _ _ h => h) (fun _ _ _ h => h) (fun σ8012 h8013 g8014 f8015 g8016 => ?_)
                refine m_iconst F (v := 0) (by decide) e_X10_readLease_155 ?_
                refine m_istore_n F (lv' := [(2, .int 0), (1, .int (nI (4 + P7904.n5))), (0, .ref c)]) e_X10_readLease_156 (by decide) rfl ?_
                refine Wm.lvsub (lv' := [(0, .ref c), (1, .int (nI (4 + P7904.n5))), (2, .int 0)]) ?_ [2, 1, 0] rfl
                exact lq_X10_readLease_157 F hQ hob hP  (48 - 0 + 1) (4 + P7904.n5) 0 P7967 _ ⟨HR.mono (Z' := Z) (by intro e9; first | rfl | assumption | omega) h8013.1, h8013.2⟩ oP7967 (by unfold RP; omega) (by omega) (Nat.lt_succ_self _)
            · have h8017 : HS V c (⟨T, 0, u, h, P7952, L⟩ : RG) [0, 2, 12, 13, 14, 15, 16, 17, 18, 19, 20, 21, 22, 23] _ _ := ⟨h7954, h7950.2⟩
              refine r_iast F (g' := (⟨T, 0, u, h, (mkP P7952.n0 P7952.n2 P7952.n5 P7952.n7 P7952.m0 (P7952.n5 + 1) P7952.w2 P7952.w7 P7952.kk P7952.a P7952.b0 P7952.b1 P7952.b2 P7952.b3), L⟩ : RG)) (len := 8) (j := 4 + P7904.n5) e_X10_readLease_120 h8017 (fun _ h => h) (fun f h => ⟨f, rfl, h⟩) (by decide) (by decide) (nI_clamp (by omega)) (vp_in_nI (by omega) (by decide)) ⟨1, by omega, rfl, fun h7 _ => absurd h7 (by omega), fun _ _ => by omega⟩ (fun i hi y hy => by obtain ⟨n9, a9, b9, c9, d9⟩ := hy; exact ⟨n9, a9, b9, c9, fun h7 h8 => d9 h7 (show i < 4 + P7952.m5 by have h6 : i < 4 + (P7952.n5 + 1) := h8; omega)⟩) (CR.chg (by intro k hk i x h; unfold EI at h ⊢; split at h <;> first | exact h | exact absurd rfl hk | trivial) rfl rfl) (fun σ8018 h8019 g8020 f8021 g8022 => ?_)
              obtain ⟨P8023, eP8023⟩ : ∃ P9, P9 = (mkP P7952.n0 P7952.n2 P7952.n5 P7952.n7 P7952.m0 (P7952.n5 + 1) P7952.w2 P7952.w7 P7952.kk P7952.a P7952.b0 P7952.b1 P7952.b2 P7952.b3) := ⟨_, rfl⟩
              rw [← eP8023] at h8019
              have fP8023 : P8023.n0 = P7952.n0 ∧ P8023.n2 = P7952.n2 ∧ P8023.n5 = P7952.n5 ∧ P8023.n7 = P7952.n7 ∧ P8023.m0 = P7952.m0 ∧ P8023.m5 = P7952.n5 + 1 ∧ P8023.w2 = P7952.w2 ∧ P8023.w7 = P7952.w7 ∧ P8023.kk = P7952.kk ∧ P8023.a = P7952.a ∧ P8023.b0 = P7952.b0 ∧ P8023.b1 = P7952.b1 ∧ P8023.b2 = P7952.b2 ∧ P8023.b3 = P7952.b3 := by rw [eP8023]; exact ⟨rfl, rfl, rfl, rfl, rfl, rfl, rfl, rfl, rfl, rfl, rfl, rfl, rfl, rfl⟩
              refine m_aload_n F rfl e_X10_readLease_121 ?_
              refine r_get F e_X10_readLease_122 fl_X10_25 h8019 rfl (fun v hv f8024 => ?_)
              obtain rfl : v = .ref (c + 6) := hv
              refine m_iload_n F rfl e_X10_readLease_125 ?_
              refine m_aload_n F rfl e_X10_readLease_126 ?_
              refine m_iconst F (v := 0) (by decide) e_X10_readLease_127 ?_
              refine m_ldc F kc_X10_169 e_X10_readLease_128 ?_
              have oP8028 : OKP P8023 := by unfold OKP; omega
              refine r_callV F e_X10_readLease_130 (q_X10_numeral (x_l X) V c T 0 u h P8023 L _ _ 0 200000 h8019.1 (hob) oP8028 (by omega) (by omega)) cb_X10_numeral ml_X10_165 im_X10_numeral se_X10_numeral h8019 rfl rfl (rest := [.int (nI (4 + P7904.n5)), .ref (c + 6)]) rfl (Nat.le_of_ble_eq_true rfl) ⟨Nat.le_of_ble_eq_true rfl, Nat.le_of_ble_eq_true rfl⟩ ⟨Nat.le_of_ble_eq_true rfl, Nat.le_of_ble_eq_true rfl⟩ (fun r σ8025 hp => ?_)
              obtain ⟨P8030, oP8030, rP8030, h8026, c8029⟩ := hp
              have h8027 := HS.trans h8019 h8026 (by decide)
              have xP8030 := oP8030
              unfold OKP at xP8030
              unfold RA at rP8030
              rcases c8029 with ⟨n8031, gn8031, hn8031, rfl⟩ | ⟨h8032, rfl⟩
              · refine r_iast F (g' := (⟨T, 0, u, h, P8030, L⟩ : RG)) (len := 8) (j := 4 + P7904.n5) e_X10_readLease_133 h8027 (fun _ h => h) (fun f h => ⟨f, rfl, h⟩) (by decide) (by decide) (nI_clamp (by omega)) (vp_in_nI (by omega) (by decide)) ⟨n8031, by omega, rfl⟩ (fun _ _ _ h => h) (fun _ _ _ h => h) (fun σ8033 h8034 g8035 f8036 g8037 => ?_)
                refine m_aload_n F rfl e_X10_readLease_134 ?_
                refine r_get F e_X10_readLease_135 fl_X10_28 h8034 rfl (fun v hv f8038 => ?_)
                obtain rfl : v = .ref (c + 7) := hv
                refine m_iload_n F rfl e_X10_readLease_138 ?_
                refine m_iconst F (v := 0) (by decide) e_X10_readLease_139 ?_
                refine r_iast F (g' := (⟨T, 0, u, h, P8030, L⟩ : RG)) (len := 8) (j := 4 + P7904.n5) e_X10_readLease_140 h8034 (fun _ h => h) (fun f h => ⟨f, rfl, h⟩) (by decide) (by decide) (nI_clamp (by omega)) (vp_in_nI (by omega) (by decide)) trivial (fun _ _ _ h => h) (fun _ _ _ h => h) (fun σ8039 h8040 g8041 f8042 g8043 => ?_)
                refine m_aload_n F rfl e_X10_readLease_141 ?_
                refine r_get F e_X10_readLease_142 fl_X10_31 h8040 rfl (fun v hv f8044 => ?_)
                obtain rfl : v = .ref (c + 8) := hv
                refine m_iload_n F rfl e_X10_readLease_145 ?_
                refine m_iconst F (v := 0) (by decide) e_X10_readLease_146 ?_
                refine r_iast F (g' := (⟨T, 0, u, h, P8030, L⟩ : RG)) (len := 8) (j := 4 + P7904.n5) e_X10_readLease_147 h8040 (fun _ h => h) (fun f h => ⟨f, rfl, h⟩) (by decide) (by decide) (nI_clamp (by omega)) (vp_in_nI (by omega) (by decide)) trivial (fun _ _ _ h => h) (fun _ _ _ h => h) (fun σ8045 h8046 g8047 f8048 g8049 => ?_)
                refine m_aload_n F rfl e_X10_readLease_148 ?_
                refine r_get F e_X10_readLease_149 fl_X10_34 h8046 rfl (fun v hv f8050 => ?_)
                obtain rfl : v = .ref (c + 9) := hv
                refine m_iload_n F rfl e_X10_readLease_152 ?_
                refine m_iconst F (v := 0) (by decide) e_X10_readLease_153 ?_
                refine r_iast F (g' := (⟨T, 0, u, h, P8030, L⟩ : RG)) (len := 8) (j := 4 + P7904.n5) e_X10_readLease_154 h8046 (fun _ h => h) (fun f h => ⟨f, rfl, h⟩) (by decide) (by decide) (nI_clamp (by omega)) (vp_in_nI (by omega) (by decide)) trivial (fun _ _ _ h => h) (fun _ _ _ h => h) (fun σ8051 h8052 g8053 f8054 g8055 => ?_)
                refine m_iconst F (v := 0) (by decide) e_X10_readLease_155 ?_
                refine m_istore_n F (lv' := [(2, .int 0), (1, .int (nI (4 + P7904.n5))), (0, .ref c)]) e_X10_readLease_156 (by decide) rfl ?_
                refine Wm.lvsub (lv' := [(0, .ref c), (1, .int (nI (4 + P7904.n5))), (2, .int 0)]) ?_ [2, 1, 0] rfl
                exact lq_X10_readLease_157 F hQ hob hP  (48 - 0 + 1) (4 + P7904.n5) 0 P8030 _ ⟨HR.mono (Z' := Z) (by intro e9; first | rfl | assumption | omega) h8052.1, h8052.2⟩ oP8030 (by unfold RP; omega) (by omega) (Nat.lt_succ_self _)
              · have h8056 : HS V c (⟨T, 0, u, h, P8030, L⟩ : RG) [0, 2, 12, 13, 14, 15, 16, 17, 18, 19, 20, 21, 22, 23] _ _ := ⟨h8032, h8027.2⟩
                refine r_iast F (g' := (⟨T, 0, u, h, P8030, L⟩ : RG)) (len := 8) (j := 4 + P7904.n5) e_X10_readLease_133 h8056 (fun _ h => h) (fun f h => ⟨f, rfl, h⟩) (by decide) (by decide) (nI_clamp (by omega)) (vp_in_nI (by omega) (by decide)) ⟨0, by omega, rfl⟩ (fun _ _ _ h => h) (fun _ _ _ h => h) (fun σ8057 h8058 g8059 f8060 g8061 => ?_)
                refine m_aload_n F rfl e_X10_readLease_134 ?_
                refine r_get F e_X10_readLease_135 fl_X10_28 h8058 rfl (fun v hv f8062 => ?_)
                obtain rfl : v = .ref (c + 7) := hv
                refine m_iload_n F rfl e_X10_readLease_138 ?_
                refine m_iconst F (v := 0) (by decide) e_X10_readLease_139 ?_
                refine r_iast F (g' := (⟨T, 0, u, h, P8030, L⟩ : RG)) (len := 8) (j := 4 + P7904.n5) e_X10_readLease_140 h8058 (fun _ h => h) (fun f h => ⟨f, rfl, h⟩) (by decide) (by decide) (nI_clamp (by omega)) (vp_in_nI (by omega) (by decide)) trivial (fun _ _ _ h => h) (fun _ _ _ h => h) (fun σ8063 h8064 g8065 f8066 g8067 => ?_)
                refine m_aload_n F rfl e_X10_readLease_141 ?_
                refine r_get F e_X10_readLease_142 fl_X10_31 h8064 rfl (fun v hv f8068 => ?_)
                obtain rfl : v = .ref (c + 8) := hv
                refine m_iload_n F rfl e_X10_readLease_145 ?_
                refine m_iconst F (v := 0) (by decide) e_X10_readLease_146 ?_
                refine r_iast F (g' := (⟨T, 0, u, h, P8030, L⟩ : RG)) (len := 8) (j := 4 + P7904.n5) e_X10_readLease_147 h8064 (fun _ h => h) (fun f h => ⟨f, rfl, h⟩) (by decide) (by decide) (nI_clamp (by omega)) (vp_in_nI (by omega) (by decide)) trivial (fun _ _ _ h => h) (fun _ _ _ h => h) (fun σ8069 h8070 g8071 f8072 g8073 => ?_)
                refine m_aload_n F rfl e_X10_readLease_148 ?_
                refine r_get F e_X10_readLease_149 fl_X10_34 h8070 rfl (fun v hv f8074 => ?_)
                obtain rfl : v = .ref (c + 9) := hv
                refine m_iload_n F rfl e_X10_readLease_152 ?_
                refine m_iconst F (v := 0) (by decide) e_X10_readLease_153 ?_
                refine r_iast F (g' := (⟨T, 0, u, h, P8030, L⟩ : RG)) (len := 8) (j := 4 + P7904.n5) e_X10_readLease_154 h8070 (fun _ h => h) (fun f h => ⟨f, rfl, h⟩) (by decide) (by decide) (nI_clamp (by omega)) (vp_in_nI (by omega) (by decide)) trivial (fun _ _ _ h => h) (fun _ _ _ h => h) (fun σ8075 h8076 g8077 f8078 g8079 => ?_)
                refine m_iconst F (v := 0) (by decide) e_X10_readLease_155 ?_
                refine m_istore_n F (lv' := [(2, .int 0), (1, .int (nI (4 + P7904.n5))), (0, .ref c)]) e_X10_readLease_156 (by decide) rfl ?_
                refine Wm.lvsub (lv' := [(0, .ref c), (1, .int (nI (4 + P7904.n5))), (2, .int 0)]) ?_ [2, 1, 0] rfl
                exact lq_X10_readLease_157 F hQ hob hP  (48 - 0 + 1) (4 + P7904.n5) 0 P8030 _ ⟨HR.mono (Z' := Z) (by intro e9; first | rfl | assumption | omega) h8076.1, h8076.2⟩ oP8030 (by unfold RP; omega) (by omega) (Nat.lt_succ_self _)
          · have h8080 : HS V c (⟨T, 0, u, h, P7939, L⟩ : RG) [0, 2, 12, 13, 14, 15, 16, 17, 18, 19, 20, 21, 22, 23] _ _ := ⟨h7941, h7937.2⟩
            refine r_iast F (g' := (⟨T, 0, u, h, P7939, L⟩ : RG)) (len := 8) (j := 4 + P7904.n5) e_X10_readLease_107 h8080 (fun _ h => h) (fun f h => ⟨f, rfl, h⟩) (by decide) (by decide) (nI_clamp (by omega)) (vp_in_nI (by omega) (by decide)) trivial (fun _ _ _ h => h) (fun _ _ _ h => h) (fun σ8081 h8082 g8083 f8084 g8085 => ?_)
            refine m_aload_n F rfl e_X10_readLease_108 ?_
            refine r_get F e_X10_readLease_109 fl_X10_22 h8082 rfl (fun v hv f8086 => ?_)
            obtain rfl : v = .ref (c + 5) := hv
            refine m_iload_n F rfl e_X10_readLease_112 ?_
            refine m_aload_n F rfl e_X10_readLease_113 ?_
            refine m_iconst F (v := 1) (by decide) e_X10_readLease_114 ?_
            refine m_bipush F (v := 48) (by decide) e_X10_readLease_115 ?_
            refine r_callV F e_X10_readLease_117 (q_X10_numeral (x_l X) V c T 0 u h P7939 L _ _ 1 48 h8082.1 (hob) oP7939 (by omega) (by omega)) cb_X10_numeral ml_X10_165 im_X10_numeral se_X10_numeral h8082 rfl rfl (rest := [.int (nI (4 + P7904.n5)), .ref (c + 5)]) rfl (Nat.le_of_ble_eq_true rfl) ⟨Nat.le_of_ble_eq_true rfl, Nat.le_of_ble_eq_true rfl⟩ ⟨Nat.le_of_ble_eq_true rfl, Nat.le_of_ble_eq_true rfl⟩ (fun r σ8087 hp => ?_)
            obtain ⟨P8091, oP8091, rP8091, h8088, c8090⟩ := hp
            have h8089 := HS.trans h8082 h8088 (by decide)
            have xP8091 := oP8091
            unfold OKP at xP8091
            unfold RA at rP8091
            rcases c8090 with ⟨n8092, gn8092, hn8092, rfl⟩ | ⟨h8093, rfl⟩
            · refine r_iast F (g' := (⟨T, 0, u, h, (mkP P8091.n0 P8091.n2 P8091.n5 P8091.n7 P8091.m0 (P8091.n5 + 1) P8091.w2 P8091.w7 P8091.kk P8091.a P8091.b0 P8091.b1 P8091.b2 P8091.b3), L⟩ : RG)) (len := 8) (j := 4 + P7904.n5) e_X10_readLease_120 h8089 (fun _ h => h) (fun f h => ⟨f, rfl, h⟩) (by decide) (by decide) (nI_clamp (by omega)) (vp_in_nI (by omega) (by decide)) ⟨n8092, by omega, rfl, fun h7 _ => absurd h7 (by omega), fun _ _ => by omega⟩ (fun i hi y hy => by obtain ⟨n9, a9, b9, c9, d9⟩ := hy; exact ⟨n9, a9, b9, c9, fun h7 h8 => d9 h7 (show i < 4 + P8091.m5 by have h6 : i < 4 + (P8091.n5 + 1) := h8; omega)⟩) (CR.chg (by intro k hk i x h; unfold EI at h ⊢; split at h <;> first | exact h | exact absurd rfl hk | trivial) rfl rfl) (fun σ8094 h8095 g8096 f8097 g8098 => ?_)
              obtain ⟨P8099, eP8099⟩ : ∃ P9, P9 = (mkP P8091.n0 P8091.n2 P8091.n5 P8091.n7 P8091.m0 (P8091.n5 + 1) P8091.w2 P8091.w7 P8091.kk P8091.a P8091.b0 P8091.b1 P8091.b2 P8091.b3) := ⟨_, rfl⟩
              rw [← eP8099] at h8095
              have fP8099 : P8099.n0 = P8091.n0 ∧ P8099.n2 = P8091.n2 ∧ P8099.n5 = P8091.n5 ∧ P8099.n7 = P8091.n7 ∧ P8099.m0 = P8091.m0 ∧ P8099.m5 = P8091.n5 + 1 ∧ P8099.w2 = P8091.w2 ∧ P8099.w7 = P8091.w7 ∧ P8099.kk = P8091.kk ∧ P8099.a = P8091.a ∧ P8099.b0 = P8091.b0 ∧ P8099.b1 = P8091.b1 ∧ P8099.b2 = P8091.b2 ∧ P8099.b3 = P8091.b3 := by rw [eP8099]; exact ⟨rfl, rfl, rfl, rfl, rfl, rfl, rfl, rfl, rfl, rfl, rfl, rfl, rfl, rfl⟩
              refine m_aload_n F rfl e_X10_readLease_121 ?_
              refine r_get F e_X10_readLease_122 fl_X10_25 h8095 rfl (fun v hv f8100 => ?_)
              obtain rfl : v = .ref (c + 6) := hv
              refine m_iload_n F rfl e_X10_readLease_125 ?_
              refine m_aload_n F rfl e_X10_readLease_126 ?_
              refine m_iconst F (v := 0) (by decide) e_X10_readLease_127 ?_
              refine m_ldc F kc_X10_169 e_X10_readLease_128 ?_
              have oP8104 : OKP P8099 := by unfold OKP; omega
              refine r_callV F e_X10_readLease_130 (q_X10_numeral (x_l X) V c T 0 u h P8099 L _ _ 0 200000 h8095.1 (hob) oP8104 (by omega) (by omega)) cb_X10_numeral ml_X10_165 im_X10_numeral se_X10_numeral h8095 rfl rfl (rest := [.int (nI (4 + P7904.n5)), .ref (c + 6)]) rfl (Nat.le_of_ble_eq_true rfl) ⟨Nat.le_of_ble_eq_true rfl, Nat.le_of_ble_eq_true rfl⟩ ⟨Nat.le_of_ble_eq_true rfl, Nat.le_of_ble_eq_true rfl⟩ (fun r σ8101 hp => ?_)
              obtain ⟨P8106, oP8106, rP8106, h8102, c8105⟩ := hp
              have h8103 := HS.trans h8095 h8102 (by decide)
              have xP8106 := oP8106
              unfold OKP at xP8106
              unfold RA at rP8106
              rcases c8105 with ⟨n8107, gn8107, hn8107, rfl⟩ | ⟨h8108, rfl⟩
              · refine r_iast F (g' := (⟨T, 0, u, h, P8106, L⟩ : RG)) (len := 8) (j := 4 + P7904.n5) e_X10_readLease_133 h8103 (fun _ h => h) (fun f h => ⟨f, rfl, h⟩) (by decide) (by decide) (nI_clamp (by omega)) (vp_in_nI (by omega) (by decide)) ⟨n8107, by omega, rfl⟩ (fun _ _ _ h => h) (fun _ _ _ h => h) (fun σ8109 h8110 g8111 f8112 g8113 => ?_)
                refine m_aload_n F rfl e_X10_readLease_134 ?_
                refine r_get F e_X10_readLease_135 fl_X10_28 h8110 rfl (fun v hv f8114 => ?_)
                obtain rfl : v = .ref (c + 7) := hv
                refine m_iload_n F rfl e_X10_readLease_138 ?_
                refine m_iconst F (v := 0) (by decide) e_X10_readLease_139 ?_
                refine r_iast F (g' := (⟨T, 0, u, h, P8106, L⟩ : RG)) (len := 8) (j := 4 + P7904.n5) e_X10_readLease_140 h8110 (fun _ h => h) (fun f h => ⟨f, rfl, h⟩) (by decide) (by decide) (nI_clamp (by omega)) (vp_in_nI (by omega) (by decide)) trivial (fun _ _ _ h => h) (fun _ _ _ h => h) (fun σ8115 h8116 g8117 f8118 g8119 => ?_)
                refine m_aload_n F rfl e_X10_readLease_141 ?_
                refine r_get F e_X10_readLease_142 fl_X10_31 h8116 rfl (fun v hv f8120 => ?_)
                obtain rfl : v = .ref (c + 8) := hv
                refine m_iload_n F rfl e_X10_readLease_145 ?_
                refine m_iconst F (v := 0) (by decide) e_X10_readLease_146 ?_
                refine r_iast F (g' := (⟨T, 0, u, h, P8106, L⟩ : RG)) (len := 8) (j := 4 + P7904.n5) e_X10_readLease_147 h8116 (fun _ h => h) (fun f h => ⟨f, rfl, h⟩) (by decide) (by decide) (nI_clamp (by omega)) (vp_in_nI (by omega) (by decide)) trivial (fun _ _ _ h => h) (fun _ _ _ h => h) (fun σ8121 h8122 g8123 f8124 g8125 => ?_)
                refine m_aload_n F rfl e_X10_readLease_148 ?_
                refine r_get F e_X10_readLease_149 fl_X10_34 h8122 rfl (fun v hv f8126 => ?_)
                obtain rfl : v = .ref (c + 9) := hv
                refine m_iload_n F rfl e_X10_readLease_152 ?_
                refine m_iconst F (v := 0) (by decide) e_X10_readLease_153 ?_
                refine r_iast F (g' := (⟨T, 0, u, h, P8106, L⟩ : RG)) (len := 8) (j := 4 + P7904.n5) e_X10_readLease_154 h8122 (fun _ h => h) (fun f h => ⟨f, rfl, h⟩) (by decide) (by decide) (nI_clamp (by omega)) (vp_in_nI (by omega) (by decide)) trivial (fun _ _ _ h => h) (fun _ _ _ h => h) (fun σ8127 h8128 g8129 f8130 g8131 => ?_)
                refine m_iconst F (v := 0) (by decide) e_X10_readLease_155 ?_
                refine m_istore_n F (lv' := [(2, .int 0), (1, .int (nI (4 + P7904.n5))), (0, .ref c)]) e_X10_readLease_156 (by decide) rfl ?_
                refine Wm.lvsub (lv' := [(0, .ref c), (1, .int (nI (4 + P7904.n5))), (2, .int 0)]) ?_ [2, 1, 0] rfl
                exact lq_X10_readLease_157 F hQ hob hP  (48 - 0 + 1) (4 + P7904.n5) 0 P8106 _ ⟨HR.mono (Z' := Z) (by intro e9; first | rfl | assumption | omega) h8128.1, h8128.2⟩ oP8106 (by unfold RP; omega) (by omega) (Nat.lt_succ_self _)
              · have h8132 : HS V c (⟨T, 0, u, h, P8106, L⟩ : RG) [0, 2, 12, 13, 14, 15, 16, 17, 18, 19, 20, 21, 22, 23] _ _ := ⟨h8108, h8103.2⟩
                refine r_iast F (g' := (⟨T, 0, u, h, P8106, L⟩ : RG)) (len := 8) (j := 4 + P7904.n5) e_X10_readLease_133 h8132 (fun _ h => h) (fun f h => ⟨f, rfl, h⟩) (by decide) (by decide) (nI_clamp (by omega)) (vp_in_nI (by omega) (by decide)) ⟨0, by omega, rfl⟩ (fun _ _ _ h => h) (fun _ _ _ h => h) (fun σ8133 h8134 g8135 f8136 g8137 => ?_)
                refine m_aload_n F rfl e_X10_readLease_134 ?_
                refine r_get F e_X10_readLease_135 fl_X10_28 h8134 rfl (fun v hv f8138 => ?_)
                obtain rfl : v = .ref (c + 7) := hv
                refine m_iload_n F rfl e_X10_readLease_138 ?_
                refine m_iconst F (v := 0) (by decide) e_X10_readLease_139 ?_
                refine r_iast F (g' := (⟨T, 0, u, h, P8106, L⟩ : RG)) (len := 8) (j := 4 + P7904.n5) e_X10_readLease_140 h8134 (fun _ h => h) (fun f h => ⟨f, rfl, h⟩) (by decide) (by decide) (nI_clamp (by omega)) (vp_in_nI (by omega) (by decide)) trivial (fun _ _ _ h => h) (fun _ _ _ h => h) (fun σ8139 h8140 g8141 f8142 g8143 => ?_)
                refine m_aload_n F rfl e_X10_readLease_141 ?_
                refine r_get F e_X10_readLease_142 fl_X10_31 h8140 rfl (fun v hv f8144 => ?_)
                obtain rfl : v = .ref (c + 8) := hv
                refine m_iload_n F rfl e_X10_readLease_145 ?_
                refine m_iconst F (v := 0) (by decide) e_X10_readLease_146 ?_
                refine r_iast F (g' := (⟨T, 0, u, h, P8106, L⟩ : RG)) (len := 8) (j := 4 + P7904.n5) e_X10_readLease_147 h8140 (fun _ h => h) (fun f h => ⟨f, rfl, h⟩) (by decide) (by decide) (nI_clamp (by omega)) (vp_in_nI (by omega) (by decide)) trivial (fun _ _ _ h => h) (fun _ _ _ h => h) (fun σ8145 h8146 g8147 f8148 g8149 => ?_)
                refine m_aload_n F rfl e_X10_readLease_148 ?_
                refine r_get F e_X10_readLease_149 fl_X10_34 h8146 rfl (fun v hv f8150 => ?_)
                obtain rfl : v = .ref (c + 9) := hv
                refine m_iload_n F rfl e_X10_readLease_152 ?_
                refine m_iconst F (v := 0) (by decide) e_X10_readLease_153 ?_
                refine r_iast F (g' := (⟨T, 0, u, h, P8106, L⟩ : RG)) (len := 8) (j := 4 + P7904.n5) e_X10_readLease_154 h8146 (fun _ h => h) (fun f h => ⟨f, rfl, h⟩) (by decide) (by decide) (nI_clamp (by omega)) (vp_in_nI (by omega) (by decide)) trivial (fun _ _ _ h => h) (fun _ _ _ h => h) (fun σ8151 h8152 g8153 f8154 g8155 => ?_)
                refine m_iconst F (v := 0) (by decide) e_X10_readLease_155 ?_
                refine m_istore_n F (lv' := [(2, .int 0), (1, .int (nI (4 + P7904.n5))), (0, .ref c)]) e_X10_readLease_156 (by decide) rfl ?_
                refine Wm.lvsub (lv' := [(0, .ref c), (1, .int (nI (4 + P7904.n5))), (2, .int 0)]) ?_ [2, 1, 0] rfl
                exact lq_X10_readLease_157 F hQ hob hP  (48 - 0 + 1) (4 + P7904.n5) 0 P8106 _ ⟨HR.mono (Z' := Z) (by intro e9; first | rfl | assumption | omega) h8152.1, h8152.2⟩ oP8106 (by unfold RP; omega) (by omega) (Nat.lt_succ_self _)
            · have h8156 : HS V c (⟨T, 0, u, h, P8091, L⟩ : RG) [0, 2, 12, 13, 14, 15, 16, 17, 18, 19, 20, 21, 22, 23] _ _ := ⟨h8093, h8089.2⟩
              refine r_iast F (g' := (⟨T, 0, u, h, (mkP P8091.n0 P8091.n2 P8091.n5 P8091.n7 P8091.m0 (P8091.n5 + 1) P8091.w2 P8091.w7 P8091.kk P8091.a P8091.b0 P8091.b1 P8091.b2 P8091.b3), L⟩ : RG)) (len := 8) (j := 4 + P7904.n5) e_X10_readLease_120 h8156 (fun _ h => h) (fun f h => ⟨f, rfl, h⟩) (by decide) (by decide) (nI_clamp (by omega)) (vp_in_nI (by omega) (by decide)) ⟨1, by omega, rfl, fun h7 _ => absurd h7 (by omega), fun _ _ => by omega⟩ (fun i hi y hy => by obtain ⟨n9, a9, b9, c9, d9⟩ := hy; exact ⟨n9, a9, b9, c9, fun h7 h8 => d9 h7 (show i < 4 + P8091.m5 by have h6 : i < 4 + (P8091.n5 + 1) := h8; omega)⟩) (CR.chg (by intro k hk i x h; unfold EI at h ⊢; split at h <;> first | exact h | exact absurd rfl hk | trivial) rfl rfl) (fun σ8157 h8158 g8159 f8160 g8161 => ?_)
              obtain ⟨P8162, eP8162⟩ : ∃ P9, P9 = (mkP P8091.n0 P8091.n2 P8091.n5 P8091.n7 P8091.m0 (P8091.n5 + 1) P8091.w2 P8091.w7 P8091.kk P8091.a P8091.b0 P8091.b1 P8091.b2 P8091.b3) := ⟨_, rfl⟩
              rw [← eP8162] at h8158
              have fP8162 : P8162.n0 = P8091.n0 ∧ P8162.n2 = P8091.n2 ∧ P8162.n5 = P8091.n5 ∧ P8162.n7 = P8091.n7 ∧ P8162.m0 = P8091.m0 ∧ P8162.m5 = P8091.n5 + 1 ∧ P8162.w2 = P8091.w2 ∧ P8162.w7 = P8091.w7 ∧ P8162.kk = P8091.kk ∧ P8162.a = P8091.a ∧ P8162.b0 = P8091.b0 ∧ P8162.b1 = P8091.b1 ∧ P8162.b2 = P8091.b2 ∧ P8162.b3 = P8091.b3 := by rw [eP8162]; exact ⟨rfl, rfl, rfl, rfl, rfl, rfl, rfl, rfl, rfl, rfl, rfl, rfl, rfl, rfl⟩
              refine m_aload_n F rfl e_X10_readLease_121 ?_
              refine r_get F e_X10_readLease_122 fl_X10_25 h8158 rfl (fun v hv f8163 => ?_)
              obtain rfl : v = .ref (c + 6) := hv
              refine m_iload_n F rfl e_X10_readLease_125 ?_
              refine m_aload_n F rfl e_X10_readLease_126 ?_
              refine m_iconst F (v := 0) (by decide) e_X10_readLease_127 ?_
              refine m_ldc F kc_X10_169 e_X10_readLease_128 ?_
              have oP8167 : OKP P8162 := by unfold OKP; omega
              refine r_callV F e_X10_readLease_130 (q_X10_numeral (x_l X) V c T 0 u h P8162 L _ _ 0 200000 h8158.1 (hob) oP8167 (by omega) (by omega)) cb_X10_numeral ml_X10_165 im_X10_numeral se_X10_numeral h8158 rfl rfl (rest := [.int (nI (4 + P7904.n5)), .ref (c + 6)]) rfl (Nat.le_of_ble_eq_true rfl) ⟨Nat.le_of_ble_eq_true rfl, Nat.le_of_ble_eq_true rfl⟩ ⟨Nat.le_of_ble_eq_true rfl, Nat.le_of_ble_eq_true rfl⟩ (fun r σ8164 hp => ?_)
              obtain ⟨P8169, oP8169, rP8169, h8165, c8168⟩ := hp
              have h8166 := HS.trans h8158 h8165 (by decide)
              have xP8169 := oP8169
              unfold OKP at xP8169
              unfold RA at rP8169
              rcases c8168 with ⟨n8170, gn8170, hn8170, rfl⟩ | ⟨h8171, rfl⟩
              · refine r_iast F (g' := (⟨T, 0, u, h, P8169, L⟩ : RG)) (len := 8) (j := 4 + P7904.n5) e_X10_readLease_133 h8166 (fun _ h => h) (fun f h => ⟨f, rfl, h⟩) (by decide) (by decide) (nI_clamp (by omega)) (vp_in_nI (by omega) (by decide)) ⟨n8170, by omega, rfl⟩ (fun _ _ _ h => h) (fun _ _ _ h => h) (fun σ8172 h8173 g8174 f8175 g8176 => ?_)
                refine m_aload_n F rfl e_X10_readLease_134 ?_
                refine r_get F e_X10_readLease_135 fl_X10_28 h8173 rfl (fun v hv f8177 => ?_)
                obtain rfl : v = .ref (c + 7) := hv
                refine m_iload_n F rfl e_X10_readLease_138 ?_
                refine m_iconst F (v := 0) (by decide) e_X10_readLease_139 ?_
                refine r_iast F (g' := (⟨T, 0, u, h, P8169, L⟩ : RG)) (len := 8) (j := 4 + P7904.n5) e_X10_readLease_140 h8173 (fun _ h => h) (fun f h => ⟨f, rfl, h⟩) (by decide) (by decide) (nI_clamp (by omega)) (vp_in_nI (by omega) (by decide)) trivial (fun _ _ _ h => h) (fun _ _ _ h => h) (fun σ8178 h8179 g8180 f8181 g8182 => ?_)
                refine m_aload_n F rfl e_X10_readLease_141 ?_
                refine r_get F e_X10_readLease_142 fl_X10_31 h8179 rfl (fun v hv f8183 => ?_)
                obtain rfl : v = .ref (c + 8) := hv
                refine m_iload_n F rfl e_X10_readLease_145 ?_
                refine m_iconst F (v := 0) (by decide) e_X10_readLease_146 ?_
                refine r_iast F (g' := (⟨T, 0, u, h, P8169, L⟩ : RG)) (len := 8) (j := 4 + P7904.n5) e_X10_readLease_147 h8179 (fun _ h => h) (fun f h => ⟨f, rfl, h⟩) (by decide) (by decide) (nI_clamp (by omega)) (vp_in_nI (by omega) (by decide)) trivial (fun _ _ _ h => h) (fun _ _ _ h => h) (fun σ8184 h8185 g8186 f8187 g8188 => ?_)
                refine m_aload_n F rfl e_X10_readLease_148 ?_
                refine r_get F e_X10_readLease_149 fl_X10_34 h8185 rfl (fun v hv f8189 => ?_)
                obtain rfl : v = .ref (c + 9) := hv
                refine m_iload_n F rfl e_X10_readLease_152 ?_
                refine m_iconst F (v := 0) (by decide) e_X10_readLease_153 ?_
                refine r_iast F (g' := (⟨T, 0, u, h, P8169, L⟩ : RG)) (len := 8) (j := 4 + P7904.n5) e_X10_readLease_154 h8185 (fun _ h => h) (fun f h => ⟨f, rfl, h⟩) (by decide) (by decide) (nI_clamp (by omega)) (vp_in_nI (by omega) (by decide)) trivial (fun _ _ _ h => h) (fun _ _ _ h => h) (fun σ8190 h8191 g8192 f8193 g8194 => ?_)
                refine m_iconst F (v := 0) (by decide) e_X10_readLease_155 ?_
                refine m_istore_n F (lv' := [(2, .int 0), (1, .int (nI (4 + P7904.n5))), (0, .ref c)]) e_X10_readLease_156 (by decide) rfl ?_
                refine Wm.lvsub (lv' := [(0, .ref c), (1, .int (nI (4 + P7904.n5))), (2, .int 0)]) ?_ [2, 1, 0] rfl
                exact lq_X10_readLease_157 F hQ hob hP  (48 - 0 + 1) (4 + P7904.n5) 0 P8169 _ ⟨HR.mono (Z' := Z) (by intro e9; first | rfl | assumption | omega) h8191.1, h8191.2⟩ oP8169 (by unfold RP; omega) (by omega) (Nat.lt_succ_self _)
              · have h8195 : HS V c (⟨T, 0, u, h, P8169, L⟩ : RG) [0, 2, 12, 13, 14, 15, 16, 17, 18, 19, 20, 21, 22, 23] _ _ := ⟨h8171, h8166.2⟩
                refine r_iast F (g' := (⟨T, 0, u, h, P8169, L⟩ : RG)) (len := 8) (j := 4 + P7904.n5) e_X10_readLease_133 h8195 (fun _ h => h) (fun f h => ⟨f, rfl, h⟩) (by decide) (by decide) (nI_clamp (by omega)) (vp_in_nI (by omega) (by decide)) ⟨0, by omega, rfl⟩ (fun _ _ _ h => h) (fun _ _ _ h => h) (fun σ8196 h8197 g8198 f8199 g8200 => ?_)
                refine m_aload_n F rfl e_X10_readLease_134 ?_
                refine r_get F e_X10_readLease_135 fl_X10_28 h8197 rfl (fun v hv f8201 => ?_)
                obtain rfl : v = .ref (c + 7) := hv
                refine m_iload_n F rfl e_X10_readLease_138 ?_
                refine m_iconst F (v := 0) (by decide) e_X10_readLease_139 ?_
                refine r_iast F (g' := (⟨T, 0, u, h, P8169, L⟩ : RG)) (len := 8) (j := 4 + P7904.n5) e_X10_readLease_140 h8197 (fun _ h => h) (fun f h => ⟨f, rfl, h⟩) (by decide) (by decide) (nI_clamp (by omega)) (vp_in_nI (by omega) (by decide)) trivial (fun _ _ _ h => h) (fun _ _ _ h => h) (fun σ8202 h8203 g8204 f8205 g8206 => ?_)
                refine m_aload_n F rfl e_X10_readLease_141 ?_
                refine r_get F e_X10_readLease_142 fl_X10_31 h8203 rfl (fun v hv f8207 => ?_)
                obtain rfl : v = .ref (c + 8) := hv
                refine m_iload_n F rfl e_X10_readLease_145 ?_
                refine m_iconst F (v := 0) (by decide) e_X10_readLease_146 ?_
                refine r_iast F (g' := (⟨T, 0, u, h, P8169, L⟩ : RG)) (len := 8) (j := 4 + P7904.n5) e_X10_readLease_147 h8203 (fun _ h => h) (fun f h => ⟨f, rfl, h⟩) (by decide) (by decide) (nI_clamp (by omega)) (vp_in_nI (by omega) (by decide)) trivial (fun _ _ _ h => h) (fun _ _ _ h => h) (fun σ8208 h8209 g8210 f8211 g8212 => ?_)
                refine m_aload_n F rfl e_X10_readLease_148 ?_
                refine r_get F e_X10_readLease_149 fl_X10_34 h8209 rfl (fun v hv f8213 => ?_)
                obtain rfl : v = .ref (c + 9) := hv
                refine m_iload_n F rfl e_X10_readLease_152 ?_
                refine m_iconst F (v := 0) (by decide) e_X10_readLease_153 ?_
                refine r_iast F (g' := (⟨T, 0, u, h, P8169, L⟩ : RG)) (len := 8) (j := 4 + P7904.n5) e_X10_readLease_154 h8209 (fun _ h => h) (fun f h => ⟨f, rfl, h⟩) (by decide) (by decide) (nI_clamp (by omega)) (vp_in_nI (by omega) (by decide)) trivial (fun _ _ _ h => h) (fun _ _ _ h => h) (fun σ8214 h8215 g8216 f8217 g8218 => ?_)
                refine m_iconst F (v := 0) (by decide) e_X10_readLease_155 ?_
                refine m_istore_n F (lv' := [(2, .int 0), (1, .int (nI (4 + P7904.n5))), (0, .ref c)]) e_X10_readLease_156 (by decide) rfl ?_
                refine Wm.lvsub (lv' := [(0, .ref c), (1, .int (nI (4 + P7904.n5))), (2, .int 0)]) ?_ [2, 1, 0] rfl
                exact lq_X10_readLease_157 F hQ hob hP  (48 - 0 + 1) (4 + P7904.n5) 0 P8169 _ ⟨HR.mono (Z' := Z) (by intro e9; first | rfl | assumption | omega) h8215.1, h8215.2⟩ oP8169 (by unfold RP; omega) (by omega) (Nat.lt_succ_self _)
        · refine m_iconst F (v := (-1)) (by decide) e_X10_readLease_56 ?_
          refine m_icmp_eq F e_X10_readLease_57 (fun q57 => ?_) (fun q57 => ?_)
          · refine m_aload_n F rfl e_X10_readLease_65 ?_
            refine r_getC F e_X10_readLease_66 fl_X10_141 h7917 ((fld_eq (h7916.2 c (by rw [show kC c c = 1 from kC_at (k := 0) (by decide)]; decide))).trans ((fld_eq (h7911.2 c (by rw [show kC c c = 1 from kC_at (k := 0) (by decide)]; decide))).trans f7906)) ?_
            refine m_if_eq F e_X10_readLease_69 (fun _ => ?_) (fun q => absurd (by decide) q)
            refine m_iconst F (v := 4) (by decide) e_X10_readLease_73 ?_
            refine m_aload_n F rfl e_X10_readLease_74 ?_
            refine m_iconst F (v := 0) (by decide) e_X10_readLease_75 ?_
            refine r_callV F e_X10_readLease_76 (q_X10_reading0 (x_l X) V c T Z u h P7904 L _ _  h7917.1 (hob) oP7904 ) cb_X10_reading ml_X10_157 im_X10_reading se_X10_reading h7917 rfl rfl (rest := [.int 4]) rfl (Nat.le_of_ble_eq_true rfl) ⟨Nat.le_of_ble_eq_true rfl, Nat.le_of_ble_eq_true rfl⟩ ⟨Nat.le_of_ble_eq_true rfl, Nat.le_of_ble_eq_true rfl⟩ (fun r σ8219 hp => ?_)
            obtain ⟨h8220, rfl⟩ := hp
            have h8221 := HS.trans h7917 h8220 (by decide)
            refine m_iadd F e_X10_readLease_79 ?_
            refine Wm.topE (w := nI (4 + P7904.n5)) (nI_add 4 P7904.n5) ?_
            refine m_istore_n F (lv' := [(1, .int (nI (4 + P7904.n5))), (0, .ref c)]) e_X10_readLease_80 (by decide) rfl ?_
            refine m_aload_n F rfl e_X10_readLease_81 ?_
            refine r_get F e_X10_readLease_82 fl_X10_16 h8221 rfl (fun v hv f8222 => ?_)
            obtain rfl : v = .ref (c + 3) := hv
            refine m_iload_n F rfl e_X10_readLease_85 ?_
            refine m_aload_n F rfl e_X10_readLease_86 ?_
            refine r_getC F e_X10_readLease_87 fl_X10_120 h8221 ((fld_eq (h8220.2 c (by rw [show kC c c = 1 from kC_at (k := 0) (by decide)]; decide))).trans ((fld_eq (h7916.2 c (by rw [show kC c c = 1 from kC_at (k := 0) (by decide)]; decide))).trans f7913)) ?_
            refine r_iast F (g' := (⟨T, Z, u, h, P7904, L⟩ : RG)) (len := 8) (j := 4 + P7904.n5) e_X10_readLease_90 h8221 (fun _ h => h) (fun f h => ⟨f, rfl, h⟩) (by decide) (by decide) (nI_clamp (by omega)) (vp_in_nI (by omega) (by decide)) (fun h4 => absurd (show 4 + P7904.n5 < 4 from h4) (by omega)) (fun _ _ _ h => h) (fun _ _ _ h => h) (fun σ8223 h8224 g8225 f8226 g8227 => ?_)
            refine m_aload_n F rfl e_X10_readLease_91 ?_
            refine r_callV F e_X10_readLease_92 (q_X10_token (x_l X) V c T Z u h P7904 L _ _  h8224.1 (hob) oP7904 ) cb_X10_token ml_X10_147 im_X10_token se_X10_token h8224 rfl rfl (rest := []) rfl (Nat.le_of_ble_eq_true rfl) ⟨Nat.le_of_ble_eq_true rfl, Nat.le_of_ble_eq_true rfl⟩ ⟨Nat.le_of_ble_eq_true rfl, Nat.le_of_ble_eq_true rfl⟩ (fun r σ8228 hp => ?_)
            obtain ⟨P8231, oP8231, rP8231, pr8232, h8229, rfl⟩ := hp
            have h8230 := HS.trans h8224 h8229 (by decide)
            have xP8231 := oP8231
            unfold OKP at xP8231
            unfold RA at rP8231
            refine m_aload_n F rfl e_X10_readLease_95 ?_
            refine r_get F e_X10_readLease_96 fl_X10_19 h8230 rfl (fun v hv f8233 => ?_)
            obtain rfl : v = .ref (c + 4) := hv
            refine m_iload_n F rfl e_X10_readLease_99 ?_
            refine m_aload_n F rfl e_X10_readLease_100 ?_
            refine m_iconst F (v := 0) (by decide) e_X10_readLease_101 ?_
            refine m_bipush F (v := 20) (by decide) e_X10_readLease_102 ?_
            refine r_callV F e_X10_readLease_104 (q_X10_numeral (x_l X) V c T Z u h P8231 L _ _ 0 20 h8230.1 (hob) oP8231 (by omega) (by omega)) cb_X10_numeral ml_X10_165 im_X10_numeral se_X10_numeral h8230 rfl rfl (rest := [.int (nI (4 + P7904.n5)), .ref (c + 4)]) rfl (Nat.le_of_ble_eq_true rfl) ⟨Nat.le_of_ble_eq_true rfl, Nat.le_of_ble_eq_true rfl⟩ ⟨Nat.le_of_ble_eq_true rfl, Nat.le_of_ble_eq_true rfl⟩ (fun r σ8234 hp => ?_)
            obtain ⟨P8238, oP8238, rP8238, h8235, c8237⟩ := hp
            have h8236 := HS.trans h8230 h8235 (by decide)
            have xP8238 := oP8238
            unfold OKP at xP8238
            unfold RA at rP8238
            rcases c8237 with ⟨n8239, gn8239, hn8239, rfl⟩ | ⟨h8240, rfl⟩
            · refine r_iast F (g' := (⟨T, Z, u, h, P8238, L⟩ : RG)) (len := 8) (j := 4 + P7904.n5) e_X10_readLease_107 h8236 (fun _ h => h) (fun f h => ⟨f, rfl, h⟩) (by decide) (by decide) (nI_clamp (by omega)) (vp_in_nI (by omega) (by decide)) trivial (fun _ _ _ h => h) (fun _ _ _ h => h) (fun σ8241 h8242 g8243 f8244 g8245 => ?_)
              refine m_aload_n F rfl e_X10_readLease_108 ?_
              refine r_get F e_X10_readLease_109 fl_X10_22 h8242 rfl (fun v hv f8246 => ?_)
              obtain rfl : v = .ref (c + 5) := hv
              refine m_iload_n F rfl e_X10_readLease_112 ?_
              refine m_aload_n F rfl e_X10_readLease_113 ?_
              refine m_iconst F (v := 1) (by decide) e_X10_readLease_114 ?_
              refine m_bipush F (v := 48) (by decide) e_X10_readLease_115 ?_
              refine r_callV F e_X10_readLease_117 (q_X10_numeral (x_l X) V c T Z u h P8238 L _ _ 1 48 h8242.1 (hob) oP8238 (by omega) (by omega)) cb_X10_numeral ml_X10_165 im_X10_numeral se_X10_numeral h8242 rfl rfl (rest := [.int (nI (4 + P7904.n5)), .ref (c + 5)]) rfl (Nat.le_of_ble_eq_true rfl) ⟨Nat.le_of_ble_eq_true rfl, Nat.le_of_ble_eq_true rfl⟩ ⟨Nat.le_of_ble_eq_true rfl, Nat.le_of_ble_eq_true rfl⟩ (fun r σ8247 hp => ?_)
              obtain ⟨P8251, oP8251, rP8251, h8248, c8250⟩ := hp
              have h8249 := HS.trans h8242 h8248 (by decide)
              have xP8251 := oP8251
              unfold OKP at xP8251
              unfold RA at rP8251
              rcases c8250 with ⟨n8252, gn8252, hn8252, rfl⟩ | ⟨h8253, rfl⟩
              · refine r_iast F (g' := (⟨T, Z, u, h, (mkP P8251.n0 P8251.n2 P8251.n5 P8251.n7 P8251.m0 (P8251.n5 + 1) P8251.w2 P8251.w7 P8251.kk P8251.a P8251.b0 P8251.b1 P8251.b2 P8251.b3), L⟩ : RG)) (len := 8) (j := 4 + P7904.n5) e_X10_readLease_120 h8249 (fun _ h => h) (fun f h => ⟨f, rfl, h⟩) (by decide) (by decide) (nI_clamp (by omega)) (vp_in_nI (by omega) (by decide)) ⟨n8252, by omega, rfl, fun h7 _ => absurd h7 (by omega), fun _ _ => by omega⟩ (fun i hi y hy => by obtain ⟨n9, a9, b9, c9, d9⟩ := hy; exact ⟨n9, a9, b9, c9, fun h7 h8 => d9 h7 (show i < 4 + P8251.m5 by have h6 : i < 4 + (P8251.n5 + 1) := h8; omega)⟩) (CR.chg (by intro k hk i x h; unfold EI at h ⊢; split at h <;> first | exact h | exact absurd rfl hk | trivial) rfl rfl) (fun σ8254 h8255 g8256 f8257 g8258 => ?_)
                obtain ⟨P8259, eP8259⟩ : ∃ P9, P9 = (mkP P8251.n0 P8251.n2 P8251.n5 P8251.n7 P8251.m0 (P8251.n5 + 1) P8251.w2 P8251.w7 P8251.kk P8251.a P8251.b0 P8251.b1 P8251.b2 P8251.b3) := ⟨_, rfl⟩
                rw [← eP8259] at h8255
                have fP8259 : P8259.n0 = P8251.n0 ∧ P8259.n2 = P8251.n2 ∧ P8259.n5 = P8251.n5 ∧ P8259.n7 = P8251.n7 ∧ P8259.m0 = P8251.m0 ∧ P8259.m5 = P8251.n5 + 1 ∧ P8259.w2 = P8251.w2 ∧ P8259.w7 = P8251.w7 ∧ P8259.kk = P8251.kk ∧ P8259.a = P8251.a ∧ P8259.b0 = P8251.b0 ∧ P8259.b1 = P8251.b1 ∧ P8259.b2 = P8251.b2 ∧ P8259.b3 = P8251.b3 := by rw [eP8259]; exact ⟨rfl, rfl, rfl, rfl, rfl, rfl, rfl, rfl, rfl, rfl, rfl, rfl, rfl, rfl⟩
                refine m_aload_n F rfl e_X10_readLease_121 ?_
                refine r_get F e_X10_readLease_122 fl_X10_25 h8255 rfl (fun v hv f8260 => ?_)
                obtain rfl : v = .ref (c + 6) := hv
                refine m_iload_n F rfl e_X10_readLease_125 ?_
                refine m_aload_n F rfl e_X10_readLease_126 ?_
                refine m_iconst F (v := 0) (by decide) e_X10_readLease_127 ?_
                refine m_ldc F kc_X10_169 e_X10_readLease_128 ?_
                have oP8264 : OKP P8259 := by unfold OKP; omega
                refine r_callV F e_X10_readLease_130 (q_X10_numeral (x_l X) V c T Z u h P8259 L _ _ 0 200000 h8255.1 (hob) oP8264 (by omega) (by omega)) cb_X10_numeral ml_X10_165 im_X10_numeral se_X10_numeral h8255 rfl rfl (rest := [.int (nI (4 + P7904.n5)), .ref (c + 6)]) rfl (Nat.le_of_ble_eq_true rfl) ⟨Nat.le_of_ble_eq_true rfl, Nat.le_of_ble_eq_true rfl⟩ ⟨Nat.le_of_ble_eq_true rfl, Nat.le_of_ble_eq_true rfl⟩ (fun r σ8261 hp => ?_)
                obtain ⟨P8266, oP8266, rP8266, h8262, c8265⟩ := hp
                have h8263 := HS.trans h8255 h8262 (by decide)
                have xP8266 := oP8266
                unfold OKP at xP8266
                unfold RA at rP8266
                rcases c8265 with ⟨n8267, gn8267, hn8267, rfl⟩ | ⟨h8268, rfl⟩
                · refine r_iast F (g' := (⟨T, Z, u, h, P8266, L⟩ : RG)) (len := 8) (j := 4 + P7904.n5) e_X10_readLease_133 h8263 (fun _ h => h) (fun f h => ⟨f, rfl, h⟩) (by decide) (by decide) (nI_clamp (by omega)) (vp_in_nI (by omega) (by decide)) ⟨n8267, by omega, rfl⟩ (fun _ _ _ h => h) (fun _ _ _ h => h) (fun σ8269 h8270 g8271 f8272 g8273 => ?_)
                  refine m_aload_n F rfl e_X10_readLease_134 ?_
                  refine r_get F e_X10_readLease_135 fl_X10_28 h8270 rfl (fun v hv f8274 => ?_)
                  obtain rfl : v = .ref (c + 7) := hv
                  refine m_iload_n F rfl e_X10_readLease_138 ?_
                  refine m_iconst F (v := 0) (by decide) e_X10_readLease_139 ?_
                  refine r_iast F (g' := (⟨T, Z, u, h, P8266, L⟩ : RG)) (len := 8) (j := 4 + P7904.n5) e_X10_readLease_140 h8270 (fun _ h => h) (fun f h => ⟨f, rfl, h⟩) (by decide) (by decide) (nI_clamp (by omega)) (vp_in_nI (by omega) (by decide)) trivial (fun _ _ _ h => h) (fun _ _ _ h => h) (fun σ8275 h8276 g8277 f8278 g8279 => ?_)
                  refine m_aload_n F rfl e_X10_readLease_141 ?_
                  refine r_get F e_X10_readLease_142 fl_X10_31 h8276 rfl (fun v hv f8280 => ?_)
                  obtain rfl : v = .ref (c + 8) := hv
                  refine m_iload_n F rfl e_X10_readLease_145 ?_
                  refine m_iconst F (v := 0) (by decide) e_X10_readLease_146 ?_
                  refine r_iast F (g' := (⟨T, Z, u, h, P8266, L⟩ : RG)) (len := 8) (j := 4 + P7904.n5) e_X10_readLease_147 h8276 (fun _ h => h) (fun f h => ⟨f, rfl, h⟩) (by decide) (by decide) (nI_clamp (by omega)) (vp_in_nI (by omega) (by decide)) trivial (fun _ _ _ h => h) (fun _ _ _ h => h) (fun σ8281 h8282 g8283 f8284 g8285 => ?_)
                  refine m_aload_n F rfl e_X10_readLease_148 ?_
                  refine r_get F e_X10_readLease_149 fl_X10_34 h8282 rfl (fun v hv f8286 => ?_)
                  obtain rfl : v = .ref (c + 9) := hv
                  refine m_iload_n F rfl e_X10_readLease_152 ?_
                  refine m_iconst F (v := 0) (by decide) e_X10_readLease_153 ?_
                  refine r_iast F (g' := (⟨T, Z, u, h, P8266, L⟩ : RG)) (len := 8) (j := 4 + P7904.n5) e_X10_readLease_154 h8282 (fun _ h => h) (fun f h => ⟨f, rfl, h⟩) (by decide) (by decide) (nI_clamp (by omega)) (vp_in_nI (by omega) (by decide)) trivial (fun _ _ _ h => h) (fun _ _ _ h => h) (fun σ8287 h8288 g8289 f8290 g8291 => ?_)
                  refine m_iconst F (v := 0) (by decide) e_X10_readLease_155 ?_
                  refine m_istore_n F (lv' := [(2, .int 0), (1, .int (nI (4 + P7904.n5))), (0, .ref c)]) e_X10_readLease_156 (by decide) rfl ?_
                  refine Wm.lvsub (lv' := [(0, .ref c), (1, .int (nI (4 + P7904.n5))), (2, .int 0)]) ?_ [2, 1, 0] rfl
                  exact lq_X10_readLease_157 F hQ hob hP  (48 - 0 + 1) (4 + P7904.n5) 0 P8266 _ h8288 oP8266 (by unfold RP; omega) (by omega) (Nat.lt_succ_self _)
                · have h8292 : HS V c (⟨T, 0, u, h, P8266, L⟩ : RG) [0, 2, 12, 13, 14, 15, 16, 17, 18, 19, 20, 21, 22, 23] _ _ := ⟨h8268, h8263.2⟩
                  refine r_iast F (g' := (⟨T, 0, u, h, P8266, L⟩ : RG)) (len := 8) (j := 4 + P7904.n5) e_X10_readLease_133 h8292 (fun _ h => h) (fun f h => ⟨f, rfl, h⟩) (by decide) (by decide) (nI_clamp (by omega)) (vp_in_nI (by omega) (by decide)) ⟨0, by omega, rfl⟩ (fun _ _ _ h => h) (fun _ _ _ h => h) (fun σ8293 h8294 g8295 f8296 g8297 => ?_)
                  refine m_aload_n F rfl e_X10_readLease_134 ?_
                  refine r_get F e_X10_readLease_135 fl_X10_28 h8294 rfl (fun v hv f8298 => ?_)
                  obtain rfl : v = .ref (c + 7) := hv
                  refine m_iload_n F rfl e_X10_readLease_138 ?_
                  refine m_iconst F (v := 0) (by decide) e_X10_readLease_139 ?_
                  refine r_iast F (g' := (⟨T, 0, u, h, P8266, L⟩ : RG)) (len := 8) (j := 4 + P7904.n5) e_X10_readLease_140 h8294 (fun _ h => h) (fun f h => ⟨f, rfl, h⟩) (by decide) (by decide) (nI_clamp (by omega)) (vp_in_nI (by omega) (by decide)) trivial (fun _ _ _ h => h) (fun _ _ _ h => h) (fun σ8299 h8300 g8301 f8302 g8303 => ?_)
                  refine m_aload_n F rfl e_X10_readLease_141 ?_
                  refine r_get F e_X10_readLease_142 fl_X10_31 h8300 rfl (fun v hv f8304 => ?_)
                  obtain rfl : v = .ref (c + 8) := hv
                  refine m_iload_n F rfl e_X10_readLease_145 ?_
                  refine m_iconst F (v := 0) (by decide) e_X10_readLease_146 ?_
                  refine r_iast F (g' := (⟨T, 0, u, h, P8266, L⟩ : RG)) (len := 8) (j := 4 + P7904.n5) e_X10_readLease_147 h8300 (fun _ h => h) (fun f h => ⟨f, rfl, h⟩) (by decide) (by decide) (nI_clamp (by omega)) (vp_in_nI (by omega) (by decide)) trivial (fun _ _ _ h => h) (fun _ _ _ h => h) (fun σ8305 h8306 g8307 f8308 g8309 => ?_)
                  refine m_aload_n F rfl e_X10_readLease_148 ?_
                  refine r_get F e_X10_readLease_149 fl_X10_34 h8306 rfl (fun v hv f8310 => ?_)
                  obtain rfl : v = .ref (c + 9) := hv
                  refine m_iload_n F rfl e_X10_readLease_152 ?_
                  refine m_iconst F (v := 0) (by decide) e_X10_readLease_153 ?_
                  refine r_iast F (g' := (⟨T, 0, u, h, P8266, L⟩ : RG)) (len := 8) (j := 4 + P7904.n5) e_X10_readLease_154 h8306 (fun _ h => h) (fun f h => ⟨f, rfl, h⟩) (by decide) (by decide) (nI_clamp (by omega)) (vp_in_nI (by omega) (by decide)) trivial (fun _ _ _ h => h) (fun _ _ _ h => h) (fun σ8311 h8312 g8313 f8314 g8315 => ?_)
                  refine m_iconst F (v := 0) (by decide) e_X10_readLease_155 ?_
                  refine m_istore_n F (lv' := [(2, .int 0), (1, .int (nI (4 + P7904.n5))), (0, .ref c)]) e_X10_readLease_156 (by decide) rfl ?_
                  refine Wm.lvsub (lv' := [(0, .ref c), (1, .int (nI (4 + P7904.n5))), (2, .int 0)]) ?_ [2, 1, 0] rfl
                  exact lq_X10_readLease_157 F hQ hob hP  (48 - 0 + 1) (4 + P7904.n5) 0 P8266 _ ⟨HR.mono (Z' := Z) (by intro e9; first | rfl | assumption | omega) h8312.1, h8312.2⟩ oP8266 (by unfold RP; omega) (by omega) (Nat.lt_succ_self _)
              · have h8316 : HS V c (⟨T, 0, u, h, P8251, L⟩ : RG) [0, 2, 12, 13, 14, 15, 16, 17, 18, 19, 20, 21, 22, 23] _ _ := ⟨h8253, h8249.2⟩
                refine r_iast F (g' := (⟨T, 0, u, h, (mkP P8251.n0 P8251.n2 P8251.n5 P8251.n7 P8251.m0 (P8251.n5 + 1) P8251.w2 P8251.w7 P8251.kk P8251.a P8251.b0 P8251.b1 P8251.b2 P8251.b3), L⟩ : RG)) (len := 8) (j := 4 + P7904.n5) e_X10_readLease_120 h8316 (fun _ h => h) (fun f h => ⟨f, rfl, h⟩) (by decide) (by decide) (nI_clamp (by omega)) (vp_in_nI (by omega) (by decide)) ⟨1, by omega, rfl, fun h7 _ => absurd h7 (by omega), fun _ _ => by omega⟩ (fun i hi y hy => by obtain ⟨n9, a9, b9, c9, d9⟩ := hy; exact ⟨n9, a9, b9, c9, fun h7 h8 => d9 h7 (show i < 4 + P8251.m5 by have h6 : i < 4 + (P8251.n5 + 1) := h8; omega)⟩) (CR.chg (by intro k hk i x h; unfold EI at h ⊢; split at h <;> first | exact h | exact absurd rfl hk | trivial) rfl rfl) (fun σ8317 h8318 g8319 f8320 g8321 => ?_)
                obtain ⟨P8322, eP8322⟩ : ∃ P9, P9 = (mkP P8251.n0 P8251.n2 P8251.n5 P8251.n7 P8251.m0 (P8251.n5 + 1) P8251.w2 P8251.w7 P8251.kk P8251.a P8251.b0 P8251.b1 P8251.b2 P8251.b3) := ⟨_, rfl⟩
                rw [← eP8322] at h8318
                have fP8322 : P8322.n0 = P8251.n0 ∧ P8322.n2 = P8251.n2 ∧ P8322.n5 = P8251.n5 ∧ P8322.n7 = P8251.n7 ∧ P8322.m0 = P8251.m0 ∧ P8322.m5 = P8251.n5 + 1 ∧ P8322.w2 = P8251.w2 ∧ P8322.w7 = P8251.w7 ∧ P8322.kk = P8251.kk ∧ P8322.a = P8251.a ∧ P8322.b0 = P8251.b0 ∧ P8322.b1 = P8251.b1 ∧ P8322.b2 = P8251.b2 ∧ P8322.b3 = P8251.b3 := by rw [eP8322]; exact ⟨rfl, rfl, rfl, rfl, rfl, rfl, rfl, rfl, rfl, rfl, rfl, rfl, rfl, rfl⟩
                refine m_aload_n F rfl e_X10_readLease_121 ?_
                refine r_get F e_X10_readLease_122 fl_X10_25 h8318 rfl (fun v hv f8323 => ?_)
                obtain rfl : v = .ref (c + 6) := hv
                refine m_iload_n F rfl e_X10_readLease_125 ?_
                refine m_aload_n F rfl e_X10_readLease_126 ?_
                refine m_iconst F (v := 0) (by decide) e_X10_readLease_127 ?_
                refine m_ldc F kc_X10_169 e_X10_readLease_128 ?_
                have oP8327 : OKP P8322 := by unfold OKP; omega
                refine r_callV F e_X10_readLease_130 (q_X10_numeral (x_l X) V c T 0 u h P8322 L _ _ 0 200000 h8318.1 (hob) oP8327 (by omega) (by omega)) cb_X10_numeral ml_X10_165 im_X10_numeral se_X10_numeral h8318 rfl rfl (rest := [.int (nI (4 + P7904.n5)), .ref (c + 6)]) rfl (Nat.le_of_ble_eq_true rfl) ⟨Nat.le_of_ble_eq_true rfl, Nat.le_of_ble_eq_true rfl⟩ ⟨Nat.le_of_ble_eq_true rfl, Nat.le_of_ble_eq_true rfl⟩ (fun r σ8324 hp => ?_)
                obtain ⟨P8329, oP8329, rP8329, h8325, c8328⟩ := hp
                have h8326 := HS.trans h8318 h8325 (by decide)
                have xP8329 := oP8329
                unfold OKP at xP8329
                unfold RA at rP8329
                rcases c8328 with ⟨n8330, gn8330, hn8330, rfl⟩ | ⟨h8331, rfl⟩
                · refine r_iast F (g' := (⟨T, 0, u, h, P8329, L⟩ : RG)) (len := 8) (j := 4 + P7904.n5) e_X10_readLease_133 h8326 (fun _ h => h) (fun f h => ⟨f, rfl, h⟩) (by decide) (by decide) (nI_clamp (by omega)) (vp_in_nI (by omega) (by decide)) ⟨n8330, by omega, rfl⟩ (fun _ _ _ h => h) (fun _ _ _ h => h) (fun σ8332 h8333 g8334 f8335 g8336 => ?_)
                  refine m_aload_n F rfl e_X10_readLease_134 ?_
                  refine r_get F e_X10_readLease_135 fl_X10_28 h8333 rfl (fun v hv f8337 => ?_)
                  obtain rfl : v = .ref (c + 7) := hv
                  refine m_iload_n F rfl e_X10_readLease_138 ?_
                  refine m_iconst F (v := 0) (by decide) e_X10_readLease_139 ?_
                  refine r_iast F (g' := (⟨T, 0, u, h, P8329, L⟩ : RG)) (len := 8) (j := 4 + P7904.n5) e_X10_readLease_140 h8333 (fun _ h => h) (fun f h => ⟨f, rfl, h⟩) (by decide) (by decide) (nI_clamp (by omega)) (vp_in_nI (by omega) (by decide)) trivial (fun _ _ _ h => h) (fun _ _ _ h => h) (fun σ8338 h8339 g8340 f8341 g8342 => ?_)
                  refine m_aload_n F rfl e_X10_readLease_141 ?_
                  refine r_get F e_X10_readLease_142 fl_X10_31 h8339 rfl (fun v hv f8343 => ?_)
                  obtain rfl : v = .ref (c + 8) := hv
                  refine m_iload_n F rfl e_X10_readLease_145 ?_
                  refine m_iconst F (v := 0) (by decide) e_X10_readLease_146 ?_
                  refine r_iast F (g' := (⟨T, 0, u, h, P8329, L⟩ : RG)) (len := 8) (j := 4 + P7904.n5) e_X10_readLease_147 h8339 (fun _ h => h) (fun f h => ⟨f, rfl, h⟩) (by decide) (by decide) (nI_clamp (by omega)) (vp_in_nI (by omega) (by decide)) trivial (fun _ _ _ h => h) (fun _ _ _ h => h) (fun σ8344 h8345 g8346 f8347 g8348 => ?_)
                  refine m_aload_n F rfl e_X10_readLease_148 ?_
                  refine r_get F e_X10_readLease_149 fl_X10_34 h8345 rfl (fun v hv f8349 => ?_)
                  obtain rfl : v = .ref (c + 9) := hv
                  refine m_iload_n F rfl e_X10_readLease_152 ?_
                  refine m_iconst F (v := 0) (by decide) e_X10_readLease_153 ?_
                  refine r_iast F (g' := (⟨T, 0, u, h, P8329, L⟩ : RG)) (len := 8) (j := 4 + P7904.n5) e_X10_readLease_154 h8345 (fun _ h => h) (fun f h => ⟨f, rfl, h⟩) (by decide) (by decide) (nI_clamp (by omega)) (vp_in_nI (by omega) (by decide)) trivial (fun _ _ _ h => h) (fun _ _ _ h => h) (fun σ8350 h8351 g8352 f8353 g8354 => ?_)
                  refine m_iconst F (v := 0) (by decide) e_X10_readLease_155 ?_
                  refine m_istore_n F (lv' := [(2, .int 0), (1, .int (nI (4 + P7904.n5))), (0, .ref c)]) e_X10_readLease_156 (by decide) rfl ?_
                  refine Wm.lvsub (lv' := [(0, .ref c), (1, .int (nI (4 + P7904.n5))), (2, .int 0)]) ?_ [2, 1, 0] rfl
                  exact lq_X10_readLease_157 F hQ hob hP  (48 - 0 + 1) (4 + P7904.n5) 0 P8329 _ ⟨HR.mono (Z' := Z) (by intro e9; first | rfl | assumption | omega) h8351.1, h8351.2⟩ oP8329 (by unfold RP; omega) (by omega) (Nat.lt_succ_self _)
                · have h8355 : HS V c (⟨T, 0, u, h, P8329, L⟩ : RG) [0, 2, 12, 13, 14, 15, 16, 17, 18, 19, 20, 21, 22, 23] _ _ := ⟨h8331, h8326.2⟩
                  refine r_iast F (g' := (⟨T, 0, u, h, P8329, L⟩ : RG)) (len := 8) (j := 4 + P7904.n5) e_X10_readLease_133 h8355 (fun _ h => h) (fun f h => ⟨f, rfl, h⟩) (by decide) (by decide) (nI_clamp (by omega)) (vp_in_nI (by omega) (by decide)) ⟨0, by omega, rfl⟩ (fun _ _ _ h => h) (fun _ _ _ h => h) (fun σ8356 h8357 g8358 f8359 g8360 => ?_)
                  refine m_aload_n F rfl e_X10_readLease_134 ?_
                  refine r_get F e_X10_readLease_135 fl_X10_28 h8357 rfl (fun v hv f8361 => ?_)
                  obtain rfl : v = .ref (c + 7) := hv
                  refine m_iload_n F rfl e_X10_readLease_138 ?_
                  refine m_iconst F (v := 0) (by decide) e_X10_readLease_139 ?_
                  refine r_iast F (g' := (⟨T, 0, u, h, P8329, L⟩ : RG)) (len := 8) (j := 4 + P7904.n5) e_X10_readLease_140 h8357 (fun _ h => h) (fun f h => ⟨f, rfl, h⟩) (by decide) (by decide) (nI_clamp (by omega)) (vp_in_nI (by omega) (by decide)) trivial (fun _ _ _ h => h) (fun _ _ _ h => h) (fun σ8362 h8363 g8364 f8365 g8366 => ?_)
                  refine m_aload_n F rfl e_X10_readLease_141 ?_
                  refine r_get F e_X10_readLease_142 fl_X10_31 h8363 rfl (fun v hv f8367 => ?_)
                  obtain rfl : v = .ref (c + 8) := hv
                  refine m_iload_n F rfl e_X10_readLease_145 ?_
                  refine m_iconst F (v := 0) (by decide) e_X10_readLease_146 ?_
                  refine r_iast F (g' := (⟨T, 0, u, h, P8329, L⟩ : RG)) (len := 8) (j := 4 + P7904.n5) e_X10_readLease_147 h8363 (fun _ h => h) (fun f h => ⟨f, rfl, h⟩) (by decide) (by decide) (nI_clamp (by omega)) (vp_in_nI (by omega) (by decide)) trivial (fun _ _ _ h => h) (fun _ _ _ h => h) (fun σ8368 h8369 g8370 f8371 g8372 => ?_)
                  refine m_aload_n F rfl e_X10_readLease_148 ?_
                  refine r_get F e_X10_readLease_149 fl_X10_34 h8369 rfl (fun v hv f8373 => ?_)
                  obtain rfl : v = .ref (c + 9) := hv
                  refine m_iload_n F rfl e_X10_readLease_152 ?_
                  refine m_iconst F (v := 0) (by decide) e_X10_readLease_153 ?_
                  refine r_iast F (g' := (⟨T, 0, u, h, P8329, L⟩ : RG)) (len := 8) (j := 4 + P7904.n5) e_X10_readLease_154 h8369 (fun _ h => h) (fun f h => ⟨f, rfl, h⟩) (by decide) (by decide) (nI_clamp (by omega)) (vp_in_nI (by omega) (by decide)) trivial (fun _ _ _ h => h) (fun _ _ _ h => h) (fun σ8374 h8375 g8376 f8377 g8378 => ?_)
                  refine m_iconst F (v := 0) (by decide) e_X10_readLease_155 ?_
                  refine m_istore_n F (lv' := [(2, .int 0), (1, .int (nI (4 + P7904.n5))), (0, .ref c)]) e_X10_readLease_156 (by decide) rfl ?_
                  refine Wm.lvsub (lv' := [(0, .ref c), (1, .int (nI (4 + P7904.n5))), (2, .int 0)]) ?_ [2, 1, 0] rfl
                  exact lq_X10_readLease_157 F hQ hob hP  (48 - 0 + 1) (4 + P7904.n5) 0 P8329 _ ⟨HR.mono (Z' := Z) (by intro e9; first | rfl | assumption | omega) h8375.1, h8375.2⟩ oP8329 (by unfold RP; omega) (by omega) (Nat.lt_succ_self _)
            · have h8379 : HS V c (⟨T, 0, u, h, P8238, L⟩ : RG) [0, 2, 12, 13, 14, 15, 16, 17, 18, 19, 20, 21, 22, 23] _ _ := ⟨h8240, h8236.2⟩
              refine r_iast F (g' := (⟨T, 0, u, h, P8238, L⟩ : RG)) (len := 8) (j := 4 + P7904.n5) e_X10_readLease_107 h8379 (fun _ h => h) (fun f h => ⟨f, rfl, h⟩) (by decide) (by decide) (nI_clamp (by omega)) (vp_in_nI (by omega) (by decide)) trivial (fun _ _ _ h => h) (fun _ _ _ h => h) (fun σ8380 h8381 g8382 f8383 g8384 => ?_)
              refine m_aload_n F rfl e_X10_readLease_108 ?_
              refine r_get F e_X10_readLease_109 fl_X10_22 h8381 rfl (fun v hv f8385 => ?_)
              obtain rfl : v = .ref (c + 5) := hv
              refine m_iload_n F rfl e_X10_readLease_112 ?_
              refine m_aload_n F rfl e_X10_readLease_113 ?_
              refine m_iconst F (v := 1) (by decide) e_X10_readLease_114 ?_
              refine m_bipush F (v := 48) (by decide) e_X10_readLease_115 ?_
              refine r_callV F e_X10_readLease_117 (q_X10_numeral (x_l X) V c T 0 u h P8238 L _ _ 1 48 h8381.1 (hob) oP8238 (by omega) (by omega)) cb_X10_numeral ml_X10_165 im_X10_numeral se_X10_numeral h8381 rfl rfl (rest := [.int (nI (4 + P7904.n5)), .ref (c + 5)]) rfl (Nat.le_of_ble_eq_true rfl) ⟨Nat.le_of_ble_eq_true rfl, Nat.le_of_ble_eq_true rfl⟩ ⟨Nat.le_of_ble_eq_true rfl, Nat.le_of_ble_eq_true rfl⟩ (fun r σ8386 hp => ?_)
              obtain ⟨P8390, oP8390, rP8390, h8387, c8389⟩ := hp
              have h8388 := HS.trans h8381 h8387 (by decide)
              have xP8390 := oP8390
              unfold OKP at xP8390
              unfold RA at rP8390
              rcases c8389 with ⟨n8391, gn8391, hn8391, rfl⟩ | ⟨h8392, rfl⟩
              · refine r_iast F (g' := (⟨T, 0, u, h, (mkP P8390.n0 P8390.n2 P8390.n5 P8390.n7 P8390.m0 (P8390.n5 + 1) P8390.w2 P8390.w7 P8390.kk P8390.a P8390.b0 P8390.b1 P8390.b2 P8390.b3), L⟩ : RG)) (len := 8) (j := 4 + P7904.n5) e_X10_readLease_120 h8388 (fun _ h => h) (fun f h => ⟨f, rfl, h⟩) (by decide) (by decide) (nI_clamp (by omega)) (vp_in_nI (by omega) (by decide)) ⟨n8391, by omega, rfl, fun h7 _ => absurd h7 (by omega), fun _ _ => by omega⟩ (fun i hi y hy => by obtain ⟨n9, a9, b9, c9, d9⟩ := hy; exact ⟨n9, a9, b9, c9, fun h7 h8 => d9 h7 (show i < 4 + P8390.m5 by have h6 : i < 4 + (P8390.n5 + 1) := h8; omega)⟩) (CR.chg (by intro k hk i x h; unfold EI at h ⊢; split at h <;> first | exact h | exact absurd rfl hk | trivial) rfl rfl) (fun σ8393 h8394 g8395 f8396 g8397 => ?_)
                obtain ⟨P8398, eP8398⟩ : ∃ P9, P9 = (mkP P8390.n0 P8390.n2 P8390.n5 P8390.n7 P8390.m0 (P8390.n5 + 1) P8390.w2 P8390.w7 P8390.kk P8390.a P8390.b0 P8390.b1 P8390.b2 P8390.b3) := ⟨_, rfl⟩
                rw [← eP8398] at h8394
                have fP8398 : P8398.n0 = P8390.n0 ∧ P8398.n2 = P8390.n2 ∧ P8398.n5 = P8390.n5 ∧ P8398.n7 = P8390.n7 ∧ P8398.m0 = P8390.m0 ∧ P8398.m5 = P8390.n5 + 1 ∧ P8398.w2 = P8390.w2 ∧ P8398.w7 = P8390.w7 ∧ P8398.kk = P8390.kk ∧ P8398.a = P8390.a ∧ P8398.b0 = P8390.b0 ∧ P8398.b1 = P8390.b1 ∧ P8398.b2 = P8390.b2 ∧ P8398.b3 = P8390.b3 := by rw [eP8398]; exact ⟨rfl, rfl, rfl, rfl, rfl, rfl, rfl, rfl, rfl, rfl, rfl, rfl, rfl, rfl⟩
                refine m_aload_n F rfl e_X10_readLease_121 ?_
                refine r_get F e_X10_readLease_122 fl_X10_25 h8394 rfl (fun v hv f8399 => ?_)
                obtain rfl : v = .ref (c + 6) := hv
                refine m_iload_n F rfl e_X10_readLease_125 ?_
                refine m_aload_n F rfl e_X10_readLease_126 ?_
                refine m_iconst F (v := 0) (by decide) e_X10_readLease_127 ?_
                refine m_ldc F kc_X10_169 e_X10_readLease_128 ?_
                have oP8403 : OKP P8398 := by unfold OKP; omega
                refine r_callV F e_X10_readLease_130 (q_X10_numeral (x_l X) V c T 0 u h P8398 L _ _ 0 200000 h8394.1 (hob) oP8403 (by omega) (by omega)) cb_X10_numeral ml_X10_165 im_X10_numeral se_X10_numeral h8394 rfl rfl (rest := [.int (nI (4 + P7904.n5)), .ref (c + 6)]) rfl (Nat.le_of_ble_eq_true rfl) ⟨Nat.le_of_ble_eq_true rfl, Nat.le_of_ble_eq_true rfl⟩ ⟨Nat.le_of_ble_eq_true rfl, Nat.le_of_ble_eq_true rfl⟩ (fun r σ8400 hp => ?_)
                obtain ⟨P8405, oP8405, rP8405, h8401, c8404⟩ := hp
                have h8402 := HS.trans h8394 h8401 (by decide)
                have xP8405 := oP8405
                unfold OKP at xP8405
                unfold RA at rP8405
                rcases c8404 with ⟨n8406, gn8406, hn8406, rfl⟩ | ⟨h8407, rfl⟩
                · refine r_iast F (g' := (⟨T, 0, u, h, P8405, L⟩ : RG)) (len := 8) (j := 4 + P7904.n5) e_X10_readLease_133 h8402 (fun _ h => h) (fun f h => ⟨f, rfl, h⟩) (by decide) (by decide) (nI_clamp (by omega)) (vp_in_nI (by omega) (by decide)) ⟨n8406, by omega, rfl⟩ (fun _ _ _ h => h) (fun _ _ _ h => h) (fun σ8408 h8409 g8410 f8411 g8412 => ?_)
                  refine m_aload_n F rfl e_X10_readLease_134 ?_
                  refine r_get F e_X10_readLease_135 fl_X10_28 h8409 rfl (fun v hv f8413 => ?_)
                  obtain rfl : v = .ref (c + 7) := hv
                  refine m_iload_n F rfl e_X10_readLease_138 ?_
                  refine m_iconst F (v := 0) (by decide) e_X10_readLease_139 ?_
                  refine r_iast F (g' := (⟨T, 0, u, h, P8405, L⟩ : RG)) (len := 8) (j := 4 + P7904.n5) e_X10_readLease_140 h8409 (fun _ h => h) (fun f h => ⟨f, rfl, h⟩) (by decide) (by decide) (nI_clamp (by omega)) (vp_in_nI (by omega) (by decide)) trivial (fun _ _ _ h => h) (fun _ _ _ h => h) (fun σ8414 h8415 g8416 f8417 g8418 => ?_)
                  refine m_aload_n F rfl e_X10_readLease_141 ?_
                  refine r_get F e_X10_readLease_142 fl_X10_31 h8415 rfl (fun v hv f8419 => ?_)
                  obtain rfl : v = .ref (c + 8) := hv
                  refine m_iload_n F rfl e_X10_readLease_145 ?_
                  refine m_iconst F (v := 0) (by decide) e_X10_readLease_146 ?_
                  refine r_iast F (g' := (⟨T, 0, u, h, P8405, L⟩ : RG)) (len := 8) (j := 4 + P7904.n5) e_X10_readLease_147 h8415 (fun _ h => h) (fun f h => ⟨f, rfl, h⟩) (by decide) (by decide) (nI_clamp (by omega)) (vp_in_nI (by omega) (by decide)) trivial (fun _ _ _ h => h) (fun _ _ _ h => h) (fun σ8420 h8421 g8422 f8423 g8424 => ?_)
                  refine m_aload_n F rfl e_X10_readLease_148 ?_
                  refine r_get F e_X10_readLease_149 fl_X10_34 h8421 rfl (fun v hv f8425 => ?_)
                  obtain rfl : v = .ref (c + 9) := hv
                  refine m_iload_n F rfl e_X10_readLease_152 ?_
                  refine m_iconst F (v := 0) (by decide) e_X10_readLease_153 ?_
                  refine r_iast F (g' := (⟨T, 0, u, h, P8405, L⟩ : RG)) (len := 8) (j := 4 + P7904.n5) e_X10_readLease_154 h8421 (fun _ h => h) (fun f h => ⟨f, rfl, h⟩) (by decide) (by decide) (nI_clamp (by omega)) (vp_in_nI (by omega) (by decide)) trivial (fun _ _ _ h => h) (fun _ _ _ h => h) (fun σ8426 h8427 g8428 f8429 g8430 => ?_)
                  refine m_iconst F (v := 0) (by decide) e_X10_readLease_155 ?_
                  refine m_istore_n F (lv' := [(2, .int 0), (1, .int (nI (4 + P7904.n5))), (0, .ref c)]) e_X10_readLease_156 (by decide) rfl ?_
                  refine Wm.lvsub (lv' := [(0, .ref c), (1, .int (nI (4 + P7904.n5))), (2, .int 0)]) ?_ [2, 1, 0] rfl
                  exact lq_X10_readLease_157 F hQ hob hP  (48 - 0 + 1) (4 + P7904.n5) 0 P8405 _ ⟨HR.mono (Z' := Z) (by intro e9; first | rfl | assumption | omega) h8427.1, h8427.2⟩ oP8405 (by unfold RP; omega) (by omega) (Nat.lt_succ_self _)
                · have h8431 : HS V c (⟨T, 0, u, h, P8405, L⟩ : RG) [0, 2, 12, 13, 14, 15, 16, 17, 18, 19, 20, 21, 22, 23] _ _ := ⟨h8407, h8402.2⟩
                  refine r_iast F (g' := (⟨T, 0, u, h, P8405, L⟩ : RG)) (len := 8) (j := 4 + P7904.n5) e_X10_readLease_133 h8431 (fun _ h => h) (fun f h => ⟨f, rfl, h⟩) (by decide) (by decide) (nI_clamp (by omega)) (vp_in_nI (by omega) (by decide)) ⟨0, by omega, rfl⟩ (fun _ _ _ h => h) (fun _ _ _ h => h) (fun σ8432 h8433 g8434 f8435 g8436 => ?_)
                  refine m_aload_n F rfl e_X10_readLease_134 ?_
                  refine r_get F e_X10_readLease_135 fl_X10_28 h8433 rfl (fun v hv f8437 => ?_)
                  obtain rfl : v = .ref (c + 7) := hv
                  refine m_iload_n F rfl e_X10_readLease_138 ?_
                  refine m_iconst F (v := 0) (by decide) e_X10_readLease_139 ?_
                  refine r_iast F (g' := (⟨T, 0, u, h, P8405, L⟩ : RG)) (len := 8) (j := 4 + P7904.n5) e_X10_readLease_140 h8433 (fun _ h => h) (fun f h => ⟨f, rfl, h⟩) (by decide) (by decide) (nI_clamp (by omega)) (vp_in_nI (by omega) (by decide)) trivial (fun _ _ _ h => h) (fun _ _ _ h => h) (fun σ8438 h8439 g8440 f8441 g8442 => ?_)
                  refine m_aload_n F rfl e_X10_readLease_141 ?_
                  refine r_get F e_X10_readLease_142 fl_X10_31 h8439 rfl (fun v hv f8443 => ?_)
                  obtain rfl : v = .ref (c + 8) := hv
                  refine m_iload_n F rfl e_X10_readLease_145 ?_
                  refine m_iconst F (v := 0) (by decide) e_X10_readLease_146 ?_
                  refine r_iast F (g' := (⟨T, 0, u, h, P8405, L⟩ : RG)) (len := 8) (j := 4 + P7904.n5) e_X10_readLease_147 h8439 (fun _ h => h) (fun f h => ⟨f, rfl, h⟩) (by decide) (by decide) (nI_clamp (by omega)) (vp_in_nI (by omega) (by decide)) trivial (fun _ _ _ h => h) (fun _ _ _ h => h) (fun σ8444 h8445 g8446 f8447 g8448 => ?_)
                  refine m_aload_n F rfl e_X10_readLease_148 ?_
                  refine r_get F e_X10_readLease_149 fl_X10_34 h8445 rfl (fun v hv f8449 => ?_)
                  obtain rfl : v = .ref (c + 9) := hv
                  refine m_iload_n F rfl e_X10_readLease_152 ?_
                  refine m_iconst F (v := 0) (by decide) e_X10_readLease_153 ?_
                  refine r_iast F (g' := (⟨T, 0, u, h, P8405, L⟩ : RG)) (len := 8) (j := 4 + P7904.n5) e_X10_readLease_154 h8445 (fun _ h => h) (fun f h => ⟨f, rfl, h⟩) (by decide) (by decide) (nI_clamp (by omega)) (vp_in_nI (by omega) (by decide)) trivial (fun _ _ _ h => h) (fun _ _ _ h => h) (fun σ8450 h8451 g8452 f8453 g8454 => ?_)
                  refine m_iconst F (v := 0) (by decide) e_X10_readLease_155 ?_
                  refine m_istore_n F (lv' := [(2, .int 0), (1, .int (nI (4 + P7904.n5))), (0, .ref c)]) e_X10_readLease_156 (by decide) rfl ?_
                  refine Wm.lvsub (lv' := [(0, .ref c), (1, .int (nI (4 + P7904.n5))), (2, .int 0)]) ?_ [2, 1, 0] rfl
                  exact lq_X10_readLease_157 F hQ hob hP  (48 - 0 + 1) (4 + P7904.n5) 0 P8405 _ ⟨HR.mono (Z' := Z) (by intro e9; first | rfl | assumption | omega) h8451.1, h8451.2⟩ oP8405 (by unfold RP; omega) (by omega) (Nat.lt_succ_self _)
              · have h8455 : HS V c (⟨T, 0, u, h, P8390, L⟩ : RG) [0, 2, 12, 13, 14, 15, 16, 17, 18, 19, 20, 21, 22, 23] _ _ := ⟨h8392, h8388.2⟩
                refine r_iast F (g' := (⟨T, 0, u, h, (mkP P8390.n0 P8390.n2 P8390.n5 P8390.n7 P8390.m0 (P8390.n5 + 1) P8390.w2 P8390.w7 P8390.kk P8390.a P8390.b0 P8390.b1 P8390.b2 P8390.b3), L⟩ : RG)) (len := 8) (j := 4 + P7904.n5) e_X10_readLease_120 h8455 (fun _ h => h) (fun f h => ⟨f, rfl, h⟩) (by decide) (by decide) (nI_clamp (by omega)) (vp_in_nI (by omega) (by decide)) ⟨1, by omega, rfl, fun h7 _ => absurd h7 (by omega), fun _ _ => by omega⟩ (fun i hi y hy => by obtain ⟨n9, a9, b9, c9, d9⟩ := hy; exact ⟨n9, a9, b9, c9, fun h7 h8 => d9 h7 (show i < 4 + P8390.m5 by have h6 : i < 4 + (P8390.n5 + 1) := h8; omega)⟩) (CR.chg (by intro k hk i x h; unfold EI at h ⊢; split at h <;> first | exact h | exact absurd rfl hk | trivial) rfl rfl) (fun σ8456 h8457 g8458 f8459 g8460 => ?_)
                obtain ⟨P8461, eP8461⟩ : ∃ P9, P9 = (mkP P8390.n0 P8390.n2 P8390.n5 P8390.n7 P8390.m0 (P8390.n5 + 1) P8390.w2 P8390.w7 P8390.kk P8390.a P8390.b0 P8390.b1 P8390.b2 P8390.b3) := ⟨_, rfl⟩
                rw [← eP8461] at h8457
                have fP8461 : P8461.n0 = P8390.n0 ∧ P8461.n2 = P8390.n2 ∧ P8461.n5 = P8390.n5 ∧ P8461.n7 = P8390.n7 ∧ P8461.m0 = P8390.m0 ∧ P8461.m5 = P8390.n5 + 1 ∧ P8461.w2 = P8390.w2 ∧ P8461.w7 = P8390.w7 ∧ P8461.kk = P8390.kk ∧ P8461.a = P8390.a ∧ P8461.b0 = P8390.b0 ∧ P8461.b1 = P8390.b1 ∧ P8461.b2 = P8390.b2 ∧ P8461.b3 = P8390.b3 := by rw [eP8461]; exact ⟨rfl, rfl, rfl, rfl, rfl, rfl, rfl, rfl, rfl, rfl, rfl, rfl, rfl, rfl⟩
                refine m_aload_n F rfl e_X10_readLease_121 ?_
                refine r_get F e_X10_readLease_122 fl_X10_25 h8457 rfl (fun v hv f8462 => ?_)
                obtain rfl : v = .ref (c + 6) := hv
                refine m_iload_n F rfl e_X10_readLease_125 ?_
                refine m_aload_n F rfl e_X10_readLease_126 ?_
                refine m_iconst F (v := 0) (by decide) e_X10_readLease_127 ?_
                refine m_ldc F kc_X10_169 e_X10_readLease_128 ?_
                have oP8466 : OKP P8461 := by unfold OKP; omega
                refine r_callV F e_X10_readLease_130 (q_X10_numeral (x_l X) V c T 0 u h P8461 L _ _ 0 200000 h8457.1 (hob) oP8466 (by omega) (by omega)) cb_X10_numeral ml_X10_165 im_X10_numeral se_X10_numeral h8457 rfl rfl (rest := [.int (nI (4 + P7904.n5)), .ref (c + 6)]) rfl (Nat.le_of_ble_eq_true rfl) ⟨Nat.le_of_ble_eq_true rfl, Nat.le_of_ble_eq_true rfl⟩ ⟨Nat.le_of_ble_eq_true rfl, Nat.le_of_ble_eq_true rfl⟩ (fun r σ8463 hp => ?_)
                obtain ⟨P8468, oP8468, rP8468, h8464, c8467⟩ := hp
                have h8465 := HS.trans h8457 h8464 (by decide)
                have xP8468 := oP8468
                unfold OKP at xP8468
                unfold RA at rP8468
                rcases c8467 with ⟨n8469, gn8469, hn8469, rfl⟩ | ⟨h8470, rfl⟩
                · refine r_iast F (g' := (⟨T, 0, u, h, P8468, L⟩ : RG)) (len := 8) (j := 4 + P7904.n5) e_X10_readLease_133 h8465 (fun _ h => h) (fun f h => ⟨f, rfl, h⟩) (by decide) (by decide) (nI_clamp (by omega)) (vp_in_nI (by omega) (by decide)) ⟨n8469, by omega, rfl⟩ (fun _ _ _ h => h) (fun _ _ _ h => h) (fun σ8471 h8472 g8473 f8474 g8475 => ?_)
                  refine m_aload_n F rfl e_X10_readLease_134 ?_
                  refine r_get F e_X10_readLease_135 fl_X10_28 h8472 rfl (fun v hv f8476 => ?_)
                  obtain rfl : v = .ref (c + 7) := hv
                  refine m_iload_n F rfl e_X10_readLease_138 ?_
                  refine m_iconst F (v := 0) (by decide) e_X10_readLease_139 ?_
                  refine r_iast F (g' := (⟨T, 0, u, h, P8468, L⟩ : RG)) (len := 8) (j := 4 + P7904.n5) e_X10_readLease_140 h8472 (fun _ h => h) (fun f h => ⟨f, rfl, h⟩) (by decide) (by decide) (nI_clamp (by omega)) (vp_in_nI (by omega) (by decide)) trivial (fun _ _ _ h => h) (fun _ _ _ h => h) (fun σ8477 h8478 g8479 f8480 g8481 => ?_)
                  refine m_aload_n F rfl e_X10_readLease_141 ?_
                  refine r_get F e_X10_readLease_142 fl_X10_31 h8478 rfl (fun v hv f8482 => ?_)
                  obtain rfl : v = .ref (c + 8) := hv
                  refine m_iload_n F rfl e_X10_readLease_145 ?_
                  refine m_iconst F (v := 0) (by decide) e_X10_readLease_146 ?_
                  refine r_iast F (g' := (⟨T, 0, u, h, P8468, L⟩ : RG)) (len := 8) (j := 4 + P7904.n5) e_X10_readLease_147 h8478 (fun _ h => h) (fun f h => ⟨f, rfl, h⟩) (by decide) (by decide) (nI_clamp (by omega)) (vp_in_nI (by omega) (by decide)) trivial (fun _ _ _ h => h) (fun _ _ _ h => h) (fun σ8483 h8484 g8485 f8486 g8487 => ?_)
                  refine m_aload_n F rfl e_X10_readLease_148 ?_
                  refine r_get F e_X10_readLease_149 fl_X10_34 h8484 rfl (fun v hv f8488 => ?_)
                  obtain rfl : v = .ref (c + 9) := hv
                  refine m_iload_n F rfl e_X10_readLease_152 ?_
                  refine m_iconst F (v := 0) (by decide) e_X10_readLease_153 ?_
                  refine r_iast F (g' := (⟨T, 0, u, h, P8468, L⟩ : RG)) (len := 8) (j := 4 + P7904.n5) e_X10_readLease_154 h8484 (fun _ h => h) (fun f h => ⟨f, rfl, h⟩) (by decide) (by decide) (nI_clamp (by omega)) (vp_in_nI (by omega) (by decide)) trivial (fun _ _ _ h => h) (fun _ _ _ h => h) (fun σ8489 h8490 g8491 f8492 g8493 => ?_)
                  refine m_iconst F (v := 0) (by decide) e_X10_readLease_155 ?_
                  refine m_istore_n F (lv' := [(2, .int 0), (1, .int (nI (4 + P7904.n5))), (0, .ref c)]) e_X10_readLease_156 (by decide) rfl ?_
                  refine Wm.lvsub (lv' := [(0, .ref c), (1, .int (nI (4 + P7904.n5))), (2, .int 0)]) ?_ [2, 1, 0] rfl
                  exact lq_X10_readLease_157 F hQ hob hP  (48 - 0 + 1) (4 + P7904.n5) 0 P8468 _ ⟨HR.mono (Z' := Z) (by intro e9; first | rfl | assumption | omega) h8490.1, h8490.2⟩ oP8468 (by unfold RP; omega) (by omega) (Nat.lt_succ_self _)
                · have h8494 : HS V c (⟨T, 0, u, h, P8468, L⟩ : RG) [0, 2, 12, 13, 14, 15, 16, 17, 18, 19, 20, 21, 22, 23] _ _ := ⟨h8470, h8465.2⟩
                  refine r_iast F (g' := (⟨T, 0, u, h, P8468, L⟩ : RG)) (len := 8) (j := 4 + P7904.n5) e_X10_readLease_133 h8494 (fun _ h => h) (fun f h => ⟨f, rfl, h⟩) (by decide) (by decide) (nI_clamp (by omega)) (vp_in_nI (by omega) (by decide)) ⟨0, by omega, rfl⟩ (fun _ _ _ h => h) (fun _ _ _ h => h) (fun σ8495 h8496 g8497 f8498 g8499 => ?_)
                  refine m_aload_n F rfl e_X10_readLease_134 ?_
                  refine r_get F e_X10_readLease_135 fl_X10_28 h8496 rfl (fun v hv f8500 => ?_)
                  obtain rfl : v = .ref (c + 7) := hv
                  refine m_iload_n F rfl e_X10_readLease_138 ?_
                  refine m_iconst F (v := 0) (by decide) e_X10_readLease_139 ?_
                  refine r_iast F (g' := (⟨T, 0, u, h, P8468, L⟩ : RG)) (len := 8) (j := 4 + P7904.n5) e_X10_readLease_140 h8496 (fun _ h => h) (fun f h => ⟨f, rfl, h⟩) (by decide) (by decide) (nI_clamp (by omega)) (vp_in_nI (by omega) (by decide)) trivial (fun _ _ _ h => h) (fun _ _ _ h => h) (fun σ8501 h8502 g8503 f8504 g8505 => ?_)
                  refine m_aload_n F rfl e_X10_readLease_141 ?_
                  refine r_get F e_X10_readLease_142 fl_X10_31 h8502 rfl (fun v hv f8506 => ?_)
                  obtain rfl : v = .ref (c + 8) := hv
                  refine m_iload_n F rfl e_X10_readLease_145 ?_
                  refine m_iconst F (v := 0) (by decide) e_X10_readLease_146 ?_
                  refine r_iast F (g' := (⟨T, 0, u, h, P8468, L⟩ : RG)) (len := 8) (j := 4 + P7904.n5) e_X10_readLease_147 h8502 (fun _ h => h) (fun f h => ⟨f, rfl, h⟩) (by decide) (by decide) (nI_clamp (by omega)) (vp_in_nI (by omega) (by decide)) trivial (fun _ _ _ h => h) (fun _ _ _ h => h) (fun σ8507 h8508 g8509 f8510 g8511 => ?_)
                  refine m_aload_n F rfl e_X10_readLease_148 ?_
                  refine r_get F e_X10_readLease_149 fl_X10_34 h8508 rfl (fun v hv f8512 => ?_)
                  obtain rfl : v = .ref (c + 9) := hv
                  refine m_iload_n F rfl e_X10_readLease_152 ?_
                  refine m_iconst F (v := 0) (by decide) e_X10_readLease_153 ?_
                  refine r_iast F (g' := (⟨T, 0, u, h, P8468, L⟩ : RG)) (len := 8) (j := 4 + P7904.n5) e_X10_readLease_154 h8508 (fun _ h => h) (fun f h => ⟨f, rfl, h⟩) (by decide) (by decide) (nI_clamp (by omega)) (vp_in_nI (by omega) (by decide)) trivial (fun _ _ _ h => h) (fun _ _ _ h => h) (fun σ8513 h8514 g8515 f8516 g8517 => ?_)
                  refine m_iconst F (v := 0) (by decide) e_X10_readLease_155 ?_
                  refine m_istore_n F (lv' := [(2, .int 0), (1, .int (nI (4 + P7904.n5))), (0, .ref c)]) e_X10_readLease_156 (by decide) rfl ?_
                  refine Wm.lvsub (lv' := [(0, .ref c), (1, .int (nI (4 + P7904.n5))), (2, .int 0)]) ?_ [2, 1, 0] rfl
                  exact lq_X10_readLease_157 F hQ hob hP  (48 - 0 + 1) (4 + P7904.n5) 0 P8468 _ ⟨HR.mono (Z' := Z) (by intro e9; first | rfl | assumption | omega) h8514.1, h8514.2⟩ oP8468 (by unfold RP; omega) (by omega) (Nat.lt_succ_self _)
          · refine m_aload_n F rfl e_X10_readLease_60 ?_
            refine m_iconst F (v := 3) (by decide) e_X10_readLease_61 ?_
            refine r_callV F e_X10_readLease_62 (q_X10_wrong (x_l X) V c T Z u h P7904 L _ _ 3 h7917.1 (hob) oP7904 (by first | omega | assumption | decide)) cb_X10_wrong ml_X10_150 im_X10_wrong se_X10_wrong h7917 rfl rfl (rest := []) rfl (Nat.le_of_ble_eq_true rfl) ⟨Nat.le_of_ble_eq_true rfl, Nat.le_of_ble_eq_true rfl⟩ ⟨Nat.le_of_ble_eq_true rfl, Nat.le_of_ble_eq_true rfl⟩ (fun r σ8518 hp => ?_)
            obtain ⟨h8519, rfl⟩ := hp
            have h8520 := HS.trans h7917 h8519 (by decide)
            refine m_aload_n F rfl e_X10_readLease_65 ?_
            refine r_get F e_X10_readLease_66 fl_X10_141 h8520 rfl (fun v hv f8521 => ?_)
            obtain ⟨x8522, hx8522, rfl⟩ := hv
            replace hx8522 : 0 = 0 → x8522 ≠ 0 := hx8522
            refine m_if_eq F e_X10_readLease_69 (fun q69 => ?_) (fun q69 => ?_)
            · first | exact absurd q69 (hx8522 rfl) | contradiction
            · have h8523 := HS.z0 h8520 (f8521) q69
              have h8524 : HS V c _ [0, 2, 12, 13, 14, 15, 16, 17, 18, 19, 20, 21, 22, 23] _ _ := ⟨HR.mono (Z' := Z) (by intro e; first | rfl | assumption | omega) h8523.1, h8523.2⟩
              exact m_vret F hQ e_X10_readLease_72 (⟨P7904, oP7904, (by unfold RP; omega), h8524, rfl⟩)
      · refine m_aload_n F rfl e_X10_readLease_34 ?_
        refine m_iconst F (v := 1) (by decide) e_X10_readLease_35 ?_
        refine r_callV F e_X10_readLease_36 (q_X10_wrong (x_l X) V c T Z u h P7904 L _ _ 1 h7903.1 (hob) oP7904 (by first | omega | assumption | decide)) cb_X10_wrong ml_X10_150 im_X10_wrong se_X10_wrong h7903 rfl rfl (rest := []) rfl (Nat.le_of_ble_eq_true rfl) ⟨Nat.le_of_ble_eq_true rfl, Nat.le_of_ble_eq_true rfl⟩ ⟨Nat.le_of_ble_eq_true rfl, Nat.le_of_ble_eq_true rfl⟩ (fun r σ8525 hp => ?_)
        obtain ⟨h8526, rfl⟩ := hp
        have h8527 := HS.trans h7903 h8526 (by decide)
        refine m_goto F e_X10_readLease_39 ?_
        refine m_aload_n F rfl e_X10_readLease_65 ?_
        refine r_get F e_X10_readLease_66 fl_X10_141 h8527 rfl (fun v hv f8528 => ?_)
        obtain ⟨x8529, hx8529, rfl⟩ := hv
        replace hx8529 : 0 = 0 → x8529 ≠ 0 := hx8529
        refine m_if_eq F e_X10_readLease_69 (fun q69 => ?_) (fun q69 => ?_)
        · first | exact absurd q69 (hx8529 rfl) | contradiction
        · have h8530 := HS.z0 h8527 (f8528) q69
          have h8531 : HS V c _ [0, 2, 12, 13, 14, 15, 16, 17, 18, 19, 20, 21, 22, 23] _ _ := ⟨HR.mono (Z' := Z) (by intro e; first | rfl | assumption | omega) h8530.1, h8530.2⟩
          exact m_vret F hQ e_X10_readLease_72 (⟨P7904, oP7904, (by unfold RP; omega), h8531, rfl⟩)
    · have h8532 := HS.z0 h7903 (f7906) q22
      have h8533 : HS V c _ [0, 2, 12, 13, 14, 15, 16, 17, 18, 19, 20, 21, 22, 23] _ _ := ⟨HR.mono (Z' := Z) (by intro e; first | rfl | assumption | omega) h8532.1, h8532.2⟩
      exact m_vret F hQ e_X10_readLease_25 (⟨P7904, oP7904, (by unfold RP; omega), h8533, rfl⟩)
  · have c6 : P.n5 = 4 := (nI_eq (a := P.n5) (b := 4) (by omega) (by omega)).mp q6
    refine m_aload_n F rfl e_X10_readLease_9 ?_
    refine m_iconst F (v := 2) (by decide) e_X10_readLease_10 ?_
    refine r_callV F e_X10_readLease_11 (q_X10_wrong (x_l X) V c T Z u h P L _ _ 2 h7900.1 (hob) hP (by first | omega | assumption | decide)) cb_X10_wrong ml_X10_150 im_X10_wrong se_X10_wrong h7900 rfl rfl (rest := []) rfl (Nat.le_of_ble_eq_true rfl) ⟨Nat.le_of_ble_eq_true rfl, Nat.le_of_ble_eq_true rfl⟩ ⟨Nat.le_of_ble_eq_true rfl, Nat.le_of_ble_eq_true rfl⟩ (fun r σ8534 hp => ?_)
    obtain ⟨h8535, rfl⟩ := hp
    have h8536 := HS.trans h7900 h8535 (by decide)
    refine m_aload_n F rfl e_X10_readLease_14 ?_
    refine r_callV F e_X10_readLease_15 (q_X10_goOn (x_l X) V c T 0 u h P L _ _  h8536.1 (hob) hP ) cb_X10_goOn ml_X10_154 im_X10_goOn se_X10_goOn h8536 rfl rfl (rest := []) rfl (Nat.le_of_ble_eq_true rfl) ⟨Nat.le_of_ble_eq_true rfl, Nat.le_of_ble_eq_true rfl⟩ ⟨Nat.le_of_ble_eq_true rfl, Nat.le_of_ble_eq_true rfl⟩ (fun r σ8537 hp => ?_)
    obtain ⟨P8540, oP8540, rP8540, pr8541, h8538, rfl⟩ := hp
    have h8539 := HS.trans h8536 h8538 (by decide)
    have xP8540 := oP8540
    unfold OKP at xP8540
    unfold RA at rP8540
    refine m_aload_n F rfl e_X10_readLease_18 ?_
    refine r_get F e_X10_readLease_19 fl_X10_141 h8539 rfl (fun v hv f8542 => ?_)
    obtain ⟨x8543, hx8543, rfl⟩ := hv
    replace hx8543 : 0 = 0 → x8543 ≠ 0 := hx8543
    refine m_if_eq F e_X10_readLease_22 (fun q22 => ?_) (fun q22 => ?_)
    · first | exact absurd q22 (hx8543 rfl) | contradiction
    · have h8544 := HS.z0 h8539 (f8542) q22
      have h8545 : HS V c _ [0, 2, 12, 13, 14, 15, 16, 17, 18, 19, 20, 21, 22, 23] _ _ := ⟨HR.mono (Z' := Z) (by intro e; first | rfl | assumption | omega) h8544.1, h8544.2⟩
      exact m_vret F hQ e_X10_readLease_25 (⟨P8540, oP8540, (by unfold RP; omega), h8545, rfl⟩)
set_option maxRecDepth 20000 in
theorem lq_X10_readPay_60 {V : VX} {X : MX} {N : Nat} {σ : Mem} {c T Z u h : Nat} {P : NP} {L : Nat → LQ}   (F : Fx V X yX10_readPay cX10_readPay 6 none (rmd 8 0 0)) (hQ : Rt V X 0 0 N (fun r τ => ∃ P9 : NP, OKP P9 ∧ RP P P9 ∧ HS V c (⟨T, Z, u, h, P9, L⟩ : RG) [0, 2, 4, 5, 6, 7, 8, 9, 10, 12, 13, 14, 15, 16, 17, 18, 19, 20, 21, 22, 23] σ τ ∧ r = none)) (hob : OKB L) (hP : OKP P)   : ∀ (fuel : Nat) (a : Nat) (b : Nat) (m1 : Int32) (k : Nat) (P1 : NP) (τ : Mem), HS V c (⟨T, Z, u, h, P1, L⟩ : RG) [0, 2, 4, 5, 6, 7, 8, 9, 10, 12, 13, 14, 15, 16, 17, 18, 19, 20, 21, 22, 23] σ τ → OKP P1 → RP P P1 → a ≤ 7 ∧ 1 ≤ k ∧ k ≤ 49 ∧ b ≤ 48 → 49 - k < fuel → Wm V X 6 N τ 0 0 60 [(0, .ref c), (1, .int (nI a)), (3, .int (nI b)), (4, .int m1), (5, .int (nI k))] [] := by
  intro fuel
  induction fuel with
  | zero => intros; rename_i hm; exact absurd hm (Nat.not_lt_zero _)
  | succ fuel ih =>
    intro a b m1 k P1 τ h1 hP1 hR1 hi hm
    have hPP := hP
    unfold OKP at hPP
    have hPP1 := hP1
    unfold OKP at hPP1
    unfold RP at hR1
    refine m_iload F rfl e_X10_readPay_60 ?_
    refine m_iload_n F rfl e_X10_readPay_62 ?_
    refine m_icmp_gt F e_X10_readPay_63 (fun q63 => ?_) (fun q63 => ?_)
    · have c63 : k > b := (nI_ltI (a := b) (b := k) (by omega) (by omega)).mp q63
      refine m_aload_n F rfl e_X10_readPay_91 ?_
      refine m_iconst F (v := 1) (by decide) e_X10_readPay_92 ?_
      refine m_aload_n F rfl e_X10_readPay_93 ?_
      refine m_iconst F (v := 1) (by decide) e_X10_readPay_94 ?_
      refine r_callV F e_X10_readPay_95 (q_X10_reading1 (x_l X) V c T Z u h P1 L _ _  h1.1 (hob) hP1 ) cb_X10_reading ml_X10_157 im_X10_reading se_X10_reading h1 rfl rfl (rest := [.int 1, .ref c]) rfl (Nat.le_of_ble_eq_true rfl) ⟨Nat.le_of_ble_eq_true rfl, Nat.le_of_ble_eq_true rfl⟩ ⟨Nat.le_of_ble_eq_true rfl, Nat.le_of_ble_eq_true rfl⟩ (fun r σ8546 hp => ?_)
      obtain ⟨h8547, x8549, rfl⟩ := hp
      have h8548 := HS.trans h1 h8547 (by decide)
      refine m_iconst F (v := 1) (by decide) e_X10_readPay_98 ?_
      refine m_iadd F e_X10_readPay_99 ?_
      refine Wm.top (fun x8550 _ => ?_)
      refine r_callV F e_X10_readPay_100 (q_X10_reads1 (x_l X) V c T Z u h P1 L _ _ x8550 h8548.1 (hob) hP1 ) cb_X10_reads ml_X10_170 im_X10_reads se_X10_reads h8548 rfl rfl (rest := []) rfl (Nat.le_of_ble_eq_true rfl) ⟨Nat.le_of_ble_eq_true rfl, Nat.le_of_ble_eq_true rfl⟩ ⟨Nat.le_of_ble_eq_true rfl, Nat.le_of_ble_eq_true rfl⟩ (fun r σ8551 hp => ?_)
      obtain ⟨h8552, rfl⟩ := hp
      have h8553 := HS.trans h8548 h8552 (by decide)
      exact m_vret F hQ e_X10_readPay_103 (⟨P1, hP1, (by unfold RP; omega), h8553, rfl⟩)
    · have c63 : k ≤ b := by have hh := mt (nI_ltI (a := b) (b := k) (by omega) (by omega)).mpr q63; omega
      refine m_aload_n F rfl e_X10_readPay_66 ?_
      refine r_get F e_X10_readPay_67 fl_X10_37 h1 rfl (fun v hv f8554 => ?_)
      obtain rfl : v = .ref (c + 10) := hv
      refine m_bipush F (v := 48) (by decide) e_X10_readPay_70 ?_
      refine m_iload_n F rfl e_X10_readPay_72 ?_
      refine m_imul F e_X10_readPay_73 ?_
      refine Wm.topE (w := nI (48 * a)) (pk_mul 48 a) ?_
      refine m_iload F rfl e_X10_readPay_74 ?_
      refine m_iadd F e_X10_readPay_76 ?_
      refine Wm.topE (w := nI ((48 * a) + k)) (nI_add (48 * a) k) ?_
      refine m_iconst F (v := 1) (by decide) e_X10_readPay_77 ?_
      refine m_isub F e_X10_readPay_78 ?_
      refine Wm.topE (w := nI (((48 * a) + k) - 1)) (pk_sub (a := (48 * a) + k) (b := 1) (by omega)) ?_
      refine m_dup2_11 F rfl rfl e_X10_readPay_79 ?_
      refine r_iald F (len := 384) (j := ((48 * a) + k) - 1) e_X10_readPay_80 h1 (fun _ h => h) (by decide) (nI_clamp (by omega)) (vp_in_nI (by omega) (by decide)) (fun x8555 h8556 f8557 => ?_)
      refine m_iload F rfl e_X10_readPay_81 ?_
      refine m_iadd F e_X10_readPay_83 ?_
      refine Wm.top (fun x8558 _ => ?_)
      refine r_iast F (g' := (⟨T, Z, u, h, P1, L⟩ : RG)) (len := 384) (j := ((48 * a) + k) - 1) e_X10_readPay_84 h1 (fun _ h => h) (fun f h => ⟨f, rfl, h⟩) (by decide) (by decide) (nI_clamp (by omega)) (vp_in_nI (by omega) (by decide)) trivial (fun _ _ _ h => h) (fun _ _ _ h => h) (fun σ8559 h8560 g8561 f8562 g8563 => ?_)
      refine m_iinc F (v := nI (k + 1)) (lv' := [(5, .int (nI (k + 1))), (0, .ref c), (1, .int (nI a)), (3, .int (nI b)), (4, .int m1)]) e_X10_readPay_85 rfl (nI_add k 1) (by decide) rfl ?_
      refine m_goto F e_X10_readPay_88 ?_
      refine Wm.lvsub (lv' := [(0, .ref c), (1, .int (nI a)), (3, .int (nI b)), (4, .int m1), (5, .int (nI (k + 1)))]) ?_ [1, 2, 3, 4, 0] rfl
      exact ih a b m1 (k + 1) P1 _ h8560 hP1 (by unfold RP; omega) (by omega) (by omega)
set_option maxRecDepth 20000 in
theorem q_X10_readPay (l : Launch) (V : VX) (c T Z u h : Nat) (P : NP) (L : Nat → LQ) (N : Nat) (σ : Mem)  (h0 : HR V c ⟨T, Z, u, h, P, L⟩ σ) (hob : OKB L) (hP : OKP P)  : Ct l V yX10_readPay cX10_readPay 6 none 8 0 0 N σ [.ref c] (fun r τ => ∃ P9 : NP, OKP P9 ∧ RP P P9 ∧ HS V c (⟨T, Z, u, h, P9, L⟩ : RG) [0, 2, 4, 5, 6, 7, 8, 9, 10, 12, 13, 14, 15, 16, 17, 18, 19, 20, 21, 22, 23] σ τ ∧ r = none) := by
  refine Ct.of (by decide) (Nat.le_of_ble_eq_true rfl) [(0, .ref c)] rfl (fun X hX F hQ => ?_)
  have hPP := hP
  unfold OKP at hPP
  have h1 : HS V c ⟨T, Z, u, h, P, L⟩ [0, 2, 4, 5, 6, 7, 8, 9, 10, 12, 13, 14, 15, 16, 17, 18, 19, 20, 21, 22, 23] σ σ := HS.start h0
  refine m_aload_n F rfl e_X10_readPay_0 ?_
  refine m_iconst F (v := 1) (by decide) e_X10_readPay_1 ?_
  refine r_callV F e_X10_readPay_2 (q_X10_reading1 (x_l X) V c T Z u h P L _ _  h1.1 (hob) hP ) cb_X10_reading ml_X10_157 im_X10_reading se_X10_reading h1 rfl rfl (rest := []) rfl (Nat.le_of_ble_eq_true rfl) ⟨Nat.le_of_ble_eq_true rfl, Nat.le_of_ble_eq_true rfl⟩ ⟨Nat.le_of_ble_eq_true rfl, Nat.le_of_ble_eq_true rfl⟩ (fun r σ8564 hp => ?_)
  obtain ⟨h8565, x8567, rfl⟩ := hp
  have h8566 := HS.trans h1 h8565 (by decide)
  refine m_bipush F (v := 12) (by decide) e_X10_readPay_5 ?_
  refine m_icmp_ne F e_X10_readPay_7 (fun q7 => ?_) (fun q7 => ?_)
  · refine m_aload_n F rfl e_X10_readPay_15 ?_
    refine r_callV F e_X10_readPay_16 (q_X10_atHand (x_l X) V c T Z u h P L _ _  h8566.1 (hob) hP ) cb_X10_atHand ml_X10_174 im_X10_atHand se_X10_atHand h8566 rfl rfl (rest := []) rfl (Nat.le_of_ble_eq_true rfl) ⟨Nat.le_of_ble_eq_true rfl, Nat.le_of_ble_eq_true rfl⟩ ⟨Nat.le_of_ble_eq_true rfl, Nat.le_of_ble_eq_true rfl⟩ (fun r σ8568 hp => ?_)
    obtain ⟨P8572, oP8572, rP8572, h8569, n8571, gn8571, hn8571, rfl⟩ := hp
    have h8570 := HS.trans h8566 h8569 (by decide)
    have xP8572 := oP8572
    unfold OKP at xP8572
    unfold RA at rP8572
    refine m_istore_n F (lv' := [(1, .int (nI n8571)), (0, .ref c)]) e_X10_readPay_19 (by decide) rfl ?_
    refine m_aload_n F rfl e_X10_readPay_20 ?_
    refine r_callV F e_X10_readPay_21 (q_X10_goOn (x_l X) V c T Z u h P8572 L _ _  h8570.1 (hob) oP8572 ) cb_X10_goOn ml_X10_154 im_X10_goOn se_X10_goOn h8570 rfl rfl (rest := []) rfl (Nat.le_of_ble_eq_true rfl) ⟨Nat.le_of_ble_eq_true rfl, Nat.le_of_ble_eq_true rfl⟩ ⟨Nat.le_of_ble_eq_true rfl, Nat.le_of_ble_eq_true rfl⟩ (fun r σ8573 hp => ?_)
    obtain ⟨P8576, oP8576, rP8576, pr8577, h8574, rfl⟩ := hp
    have h8575 := HS.trans h8570 h8574 (by decide)
    have xP8576 := oP8576
    unfold OKP at xP8576
    unfold RA at rP8576
    refine m_aload_n F rfl e_X10_readPay_24 ?_
    refine m_iconst F (v := 1) (by decide) e_X10_readPay_25 ?_
    refine m_bipush F (v := 48) (by decide) e_X10_readPay_26 ?_
    refine r_callV F e_X10_readPay_28 (q_X10_numeral (x_l X) V c T Z u h P8576 L _ _ 1 48 h8575.1 (hob) oP8576 (by omega) (by omega)) cb_X10_numeral ml_X10_165 im_X10_numeral se_X10_numeral h8575 rfl rfl (rest := []) rfl (Nat.le_of_ble_eq_true rfl) ⟨Nat.le_of_ble_eq_true rfl, Nat.le_of_ble_eq_true rfl⟩ ⟨Nat.le_of_ble_eq_true rfl, Nat.le_of_ble_eq_true rfl⟩ (fun r σ8578 hp => ?_)
    obtain ⟨P8582, oP8582, rP8582, h8579, c8581⟩ := hp
    have h8580 := HS.trans h8575 h8579 (by decide)
    have xP8582 := oP8582
    unfold OKP at xP8582
    unfold RA at rP8582
    rcases c8581 with ⟨n8583, gn8583, hn8583, rfl⟩ | ⟨h8584, rfl⟩
    · refine m_istore_n F (lv' := [(2, .int (nI n8583)), (1, .int (nI n8571)), (0, .ref c)]) e_X10_readPay_31 (by decide) rfl ?_
      refine m_aload_n F rfl e_X10_readPay_32 ?_
      refine m_iload_n F rfl e_X10_readPay_33 ?_
      refine m_bipush F (v := 48) (by decide) e_X10_readPay_34 ?_
      refine r_callV F e_X10_readPay_36 (q_X10_numeral (x_l X) V c T Z u h P8582 L _ _ n8583 48 h8580.1 (hob) oP8582 (by omega) (by omega)) cb_X10_numeral ml_X10_165 im_X10_numeral se_X10_numeral h8580 rfl rfl (rest := []) rfl (Nat.le_of_ble_eq_true rfl) ⟨Nat.le_of_ble_eq_true rfl, Nat.le_of_ble_eq_true rfl⟩ ⟨Nat.le_of_ble_eq_true rfl, Nat.le_of_ble_eq_true rfl⟩ (fun r σ8585 hp => ?_)
      obtain ⟨P8589, oP8589, rP8589, h8586, c8588⟩ := hp
      have h8587 := HS.trans h8580 h8586 (by decide)
      have xP8589 := oP8589
      unfold OKP at xP8589
      unfold RA at rP8589
      rcases c8588 with ⟨n8590, gn8590, hn8590, rfl⟩ | ⟨h8591, rfl⟩
      · refine m_istore_n F (lv' := [(3, .int (nI n8590)), (2, .int (nI n8583)), (1, .int (nI n8571)), (0, .ref c)]) e_X10_readPay_39 (by decide) rfl ?_
        refine m_aload_n F rfl e_X10_readPay_40 ?_
        refine m_iconst F (v := 0) (by decide) e_X10_readPay_41 ?_
        refine m_ldc F kc_X10_177 e_X10_readPay_42 ?_
        refine r_callV F e_X10_readPay_44 (q_X10_numeral (x_l X) V c T Z u h P8589 L _ _ 0 99999 h8587.1 (hob) oP8589 (by omega) (by omega)) cb_X10_numeral ml_X10_165 im_X10_numeral se_X10_numeral h8587 rfl rfl (rest := []) rfl (Nat.le_of_ble_eq_true rfl) ⟨Nat.le_of_ble_eq_true rfl, Nat.le_of_ble_eq_true rfl⟩ ⟨Nat.le_of_ble_eq_true rfl, Nat.le_of_ble_eq_true rfl⟩ (fun r σ8592 hp => ?_)
        obtain ⟨P8596, oP8596, rP8596, h8593, c8595⟩ := hp
        have h8594 := HS.trans h8587 h8593 (by decide)
        have xP8596 := oP8596
        unfold OKP at xP8596
        unfold RA at rP8596
        rcases c8595 with ⟨n8597, gn8597, hn8597, rfl⟩ | ⟨h8598, rfl⟩
        · refine m_istore F (lv' := [(4, .int (nI n8597)), (3, .int (nI n8590)), (2, .int (nI n8583)), (1, .int (nI n8571)), (0, .ref c)]) e_X10_readPay_47 (by decide) rfl ?_
          refine m_aload_n F rfl e_X10_readPay_49 ?_
          refine r_get F e_X10_readPay_50 fl_X10_141 h8594 rfl (fun v hv f8599 => ?_)
          obtain ⟨x8600, hx8600, rfl⟩ := hv
          replace hx8600 : Z = 0 → x8600 ≠ 0 := hx8600
          refine m_if_eq F e_X10_readPay_53 (fun q53 => ?_) (fun q53 => ?_)
          · subst q53
            refine m_iload_n F rfl e_X10_readPay_57 ?_
            refine m_istore F (lv' := [(5, .int (nI n8583)), (4, .int (nI n8597)), (3, .int (nI n8590)), (2, .int (nI n8583)), (1, .int (nI n8571)), (0, .ref c)]) e_X10_readPay_58 (by decide) rfl ?_
            refine Wm.lvsub (lv' := [(0, .ref c), (1, .int (nI n8571)), (3, .int (nI n8590)), (4, .int (nI n8597)), (5, .int (nI n8583))]) ?_ [5, 4, 2, 1, 0] rfl
            exact lq_X10_readPay_60 F hQ hob hP  (49 - n8583 + 1) n8571 n8590 (nI n8597) n8583 P8596 _ h8594 oP8596 (by unfold RP; omega) (by omega) (Nat.lt_succ_self _)
          · have h8601 := HS.z0 h8594 (f8599) q53
            have h8602 : HS V c _ [0, 2, 4, 5, 6, 7, 8, 9, 10, 12, 13, 14, 15, 16, 17, 18, 19, 20, 21, 22, 23] _ _ := ⟨HR.mono (Z' := Z) (by intro e; first | rfl | assumption | omega) h8601.1, h8601.2⟩
            exact m_vret F hQ e_X10_readPay_56 (⟨P8596, oP8596, (by unfold RP; omega), h8602, rfl⟩)
        · have h8603 : HS V c (⟨T, 0, u, h, P8596, L⟩ : RG) [0, 2, 4, 5, 6, 7, 8, 9, 10, 12, 13, 14, 15, 16, 17, 18, 19, 20, 21, 22, 23] _ _ := ⟨h8598, h8594.2⟩
          refine m_istore F (lv' := [(4, .int (nI 0)), (3, .int (nI n8590)), (2, .int (nI n8583)), (1, .int (nI n8571)), (0, .ref c)]) e_X10_readPay_47 (by decide) rfl ?_
          refine m_aload_n F rfl e_X10_readPay_49 ?_
          refine r_get F e_X10_readPay_50 fl_X10_141 h8603 rfl (fun v hv f8604 => ?_)
          obtain ⟨x8605, hx8605, rfl⟩ := hv
          replace hx8605 : 0 = 0 → x8605 ≠ 0 := hx8605
          refine m_if_eq F e_X10_readPay_53 (fun q53 => ?_) (fun q53 => ?_)
          · first | exact absurd q53 (hx8605 rfl) | contradiction
          · have h8606 := HS.z0 h8603 (f8604) q53
            have h8607 : HS V c _ [0, 2, 4, 5, 6, 7, 8, 9, 10, 12, 13, 14, 15, 16, 17, 18, 19, 20, 21, 22, 23] _ _ := ⟨HR.mono (Z' := Z) (by intro e; first | rfl | assumption | omega) h8606.1, h8606.2⟩
            exact m_vret F hQ e_X10_readPay_56 (⟨P8596, oP8596, (by unfold RP; omega), h8607, rfl⟩)
      · have h8608 : HS V c (⟨T, 0, u, h, P8589, L⟩ : RG) [0, 2, 4, 5, 6, 7, 8, 9, 10, 12, 13, 14, 15, 16, 17, 18, 19, 20, 21, 22, 23] _ _ := ⟨h8591, h8587.2⟩
        refine m_istore_n F (lv' := [(3, .int (nI n8583)), (2, .int (nI n8583)), (1, .int (nI n8571)), (0, .ref c)]) e_X10_readPay_39 (by decide) rfl ?_
        refine m_aload_n F rfl e_X10_readPay_40 ?_
        refine m_iconst F (v := 0) (by decide) e_X10_readPay_41 ?_
        refine m_ldc F kc_X10_177 e_X10_readPay_42 ?_
        refine r_callV F e_X10_readPay_44 (q_X10_numeral (x_l X) V c T 0 u h P8589 L _ _ 0 99999 h8608.1 (hob) oP8589 (by omega) (by omega)) cb_X10_numeral ml_X10_165 im_X10_numeral se_X10_numeral h8608 rfl rfl (rest := []) rfl (Nat.le_of_ble_eq_true rfl) ⟨Nat.le_of_ble_eq_true rfl, Nat.le_of_ble_eq_true rfl⟩ ⟨Nat.le_of_ble_eq_true rfl, Nat.le_of_ble_eq_true rfl⟩ (fun r σ8609 hp => ?_)
        obtain ⟨P8613, oP8613, rP8613, h8610, c8612⟩ := hp
        have h8611 := HS.trans h8608 h8610 (by decide)
        have xP8613 := oP8613
        unfold OKP at xP8613
        unfold RA at rP8613
        rcases c8612 with ⟨n8614, gn8614, hn8614, rfl⟩ | ⟨h8615, rfl⟩
        · refine m_istore F (lv' := [(4, .int (nI n8614)), (3, .int (nI n8583)), (2, .int (nI n8583)), (1, .int (nI n8571)), (0, .ref c)]) e_X10_readPay_47 (by decide) rfl ?_
          refine m_aload_n F rfl e_X10_readPay_49 ?_
          refine r_get F e_X10_readPay_50 fl_X10_141 h8611 rfl (fun v hv f8616 => ?_)
          obtain ⟨x8617, hx8617, rfl⟩ := hv
          replace hx8617 : 0 = 0 → x8617 ≠ 0 := hx8617
          refine m_if_eq F e_X10_readPay_53 (fun q53 => ?_) (fun q53 => ?_)
          · first | exact absurd q53 (hx8617 rfl) | contradiction
          · have h8618 := HS.z0 h8611 (f8616) q53
            have h8619 : HS V c _ [0, 2, 4, 5, 6, 7, 8, 9, 10, 12, 13, 14, 15, 16, 17, 18, 19, 20, 21, 22, 23] _ _ := ⟨HR.mono (Z' := Z) (by intro e; first | rfl | assumption | omega) h8618.1, h8618.2⟩
            exact m_vret F hQ e_X10_readPay_56 (⟨P8613, oP8613, (by unfold RP; omega), h8619, rfl⟩)
        · have h8620 : HS V c (⟨T, 0, u, h, P8613, L⟩ : RG) [0, 2, 4, 5, 6, 7, 8, 9, 10, 12, 13, 14, 15, 16, 17, 18, 19, 20, 21, 22, 23] _ _ := ⟨h8615, h8611.2⟩
          refine m_istore F (lv' := [(4, .int (nI 0)), (3, .int (nI n8583)), (2, .int (nI n8583)), (1, .int (nI n8571)), (0, .ref c)]) e_X10_readPay_47 (by decide) rfl ?_
          refine m_aload_n F rfl e_X10_readPay_49 ?_
          refine r_get F e_X10_readPay_50 fl_X10_141 h8620 rfl (fun v hv f8621 => ?_)
          obtain ⟨x8622, hx8622, rfl⟩ := hv
          replace hx8622 : 0 = 0 → x8622 ≠ 0 := hx8622
          refine m_if_eq F e_X10_readPay_53 (fun q53 => ?_) (fun q53 => ?_)
          · first | exact absurd q53 (hx8622 rfl) | contradiction
          · have h8623 := HS.z0 h8620 (f8621) q53
            have h8624 : HS V c _ [0, 2, 4, 5, 6, 7, 8, 9, 10, 12, 13, 14, 15, 16, 17, 18, 19, 20, 21, 22, 23] _ _ := ⟨HR.mono (Z' := Z) (by intro e; first | rfl | assumption | omega) h8623.1, h8623.2⟩
            exact m_vret F hQ e_X10_readPay_56 (⟨P8613, oP8613, (by unfold RP; omega), h8624, rfl⟩)
    · have h8625 : HS V c (⟨T, 0, u, h, P8582, L⟩ : RG) [0, 2, 4, 5, 6, 7, 8, 9, 10, 12, 13, 14, 15, 16, 17, 18, 19, 20, 21, 22, 23] _ _ := ⟨h8584, h8580.2⟩
      refine m_istore_n F (lv' := [(2, .int (nI 1)), (1, .int (nI n8571)), (0, .ref c)]) e_X10_readPay_31 (by decide) rfl ?_
      refine m_aload_n F rfl e_X10_readPay_32 ?_
      refine m_iload_n F rfl e_X10_readPay_33 ?_
      refine m_bipush F (v := 48) (by decide) e_X10_readPay_34 ?_
      refine r_callV F e_X10_readPay_36 (q_X10_numeral (x_l X) V c T 0 u h P8582 L _ _ 1 48 h8625.1 (hob) oP8582 (by omega) (by omega)) cb_X10_numeral ml_X10_165 im_X10_numeral se_X10_numeral h8625 rfl rfl (rest := []) rfl (Nat.le_of_ble_eq_true rfl) ⟨Nat.le_of_ble_eq_true rfl, Nat.le_of_ble_eq_true rfl⟩ ⟨Nat.le_of_ble_eq_true rfl, Nat.le_of_ble_eq_true rfl⟩ (fun r σ8626 hp => ?_)
      obtain ⟨P8630, oP8630, rP8630, h8627, c8629⟩ := hp
      have h8628 := HS.trans h8625 h8627 (by decide)
      have xP8630 := oP8630
      unfold OKP at xP8630
      unfold RA at rP8630
      rcases c8629 with ⟨n8631, gn8631, hn8631, rfl⟩ | ⟨h8632, rfl⟩
      · refine m_istore_n F (lv' := [(3, .int (nI n8631)), (2, .int (nI 1)), (1, .int (nI n8571)), (0, .ref c)]) e_X10_readPay_39 (by decide) rfl ?_
        refine m_aload_n F rfl e_X10_readPay_40 ?_
        refine m_iconst F (v := 0) (by decide) e_X10_readPay_41 ?_
        refine m_ldc F kc_X10_177 e_X10_readPay_42 ?_
        refine r_callV F e_X10_readPay_44 (q_X10_numeral (x_l X) V c T 0 u h P8630 L _ _ 0 99999 h8628.1 (hob) oP8630 (by omega) (by omega)) cb_X10_numeral ml_X10_165 im_X10_numeral se_X10_numeral h8628 rfl rfl (rest := []) rfl (Nat.le_of_ble_eq_true rfl) ⟨Nat.le_of_ble_eq_true rfl, Nat.le_of_ble_eq_true rfl⟩ ⟨Nat.le_of_ble_eq_true rfl, Nat.le_of_ble_eq_true rfl⟩ (fun r σ8633 hp => ?_)
        obtain ⟨P8637, oP8637, rP8637, h8634, c8636⟩ := hp
        have h8635 := HS.trans h8628 h8634 (by decide)
        have xP8637 := oP8637
        unfold OKP at xP8637
        unfold RA at rP8637
        rcases c8636 with ⟨n8638, gn8638, hn8638, rfl⟩ | ⟨h8639, rfl⟩
        · refine m_istore F (lv' := [(4, .int (nI n8638)), (3, .int (nI n8631)), (2, .int (nI 1)), (1, .int (nI n8571)), (0, .ref c)]) e_X10_readPay_47 (by decide) rfl ?_
          refine m_aload_n F rfl e_X10_readPay_49 ?_
          refine r_get F e_X10_readPay_50 fl_X10_141 h8635 rfl (fun v hv f8640 => ?_)
          obtain ⟨x8641, hx8641, rfl⟩ := hv
          replace hx8641 : 0 = 0 → x8641 ≠ 0 := hx8641
          refine m_if_eq F e_X10_readPay_53 (fun q53 => ?_) (fun q53 => ?_)
          · first | exact absurd q53 (hx8641 rfl) | contradiction
          · have h8642 := HS.z0 h8635 (f8640) q53
            have h8643 : HS V c _ [0, 2, 4, 5, 6, 7, 8, 9, 10, 12, 13, 14, 15, 16, 17, 18, 19, 20, 21, 22, 23] _ _ := ⟨HR.mono (Z' := Z) (by intro e; first | rfl | assumption | omega) h8642.1, h8642.2⟩
            exact m_vret F hQ e_X10_readPay_56 (⟨P8637, oP8637, (by unfold RP; omega), h8643, rfl⟩)
        · have h8644 : HS V c (⟨T, 0, u, h, P8637, L⟩ : RG) [0, 2, 4, 5, 6, 7, 8, 9, 10, 12, 13, 14, 15, 16, 17, 18, 19, 20, 21, 22, 23] _ _ := ⟨h8639, h8635.2⟩
          refine m_istore F (lv' := [(4, .int (nI 0)), (3, .int (nI n8631)), (2, .int (nI 1)), (1, .int (nI n8571)), (0, .ref c)]) e_X10_readPay_47 (by decide) rfl ?_
          refine m_aload_n F rfl e_X10_readPay_49 ?_
          refine r_get F e_X10_readPay_50 fl_X10_141 h8644 rfl (fun v hv f8645 => ?_)
          obtain ⟨x8646, hx8646, rfl⟩ := hv
          replace hx8646 : 0 = 0 → x8646 ≠ 0 := hx8646
          refine m_if_eq F e_X10_readPay_53 (fun q53 => ?_) (fun q53 => ?_)
          · first | exact absurd q53 (hx8646 rfl) | contradiction
          · have h8647 := HS.z0 h8644 (f8645) q53
            have h8648 : HS V c _ [0, 2, 4, 5, 6, 7, 8, 9, 10, 12, 13, 14, 15, 16, 17, 18, 19, 20, 21, 22, 23] _ _ := ⟨HR.mono (Z' := Z) (by intro e; first | rfl | assumption | omega) h8647.1, h8647.2⟩
            exact m_vret F hQ e_X10_readPay_56 (⟨P8637, oP8637, (by unfold RP; omega), h8648, rfl⟩)
      · have h8649 : HS V c (⟨T, 0, u, h, P8630, L⟩ : RG) [0, 2, 4, 5, 6, 7, 8, 9, 10, 12, 13, 14, 15, 16, 17, 18, 19, 20, 21, 22, 23] _ _ := ⟨h8632, h8628.2⟩
        refine m_istore_n F (lv' := [(3, .int (nI 1)), (2, .int (nI 1)), (1, .int (nI n8571)), (0, .ref c)]) e_X10_readPay_39 (by decide) rfl ?_
        refine m_aload_n F rfl e_X10_readPay_40 ?_
        refine m_iconst F (v := 0) (by decide) e_X10_readPay_41 ?_
        refine m_ldc F kc_X10_177 e_X10_readPay_42 ?_
        refine r_callV F e_X10_readPay_44 (q_X10_numeral (x_l X) V c T 0 u h P8630 L _ _ 0 99999 h8649.1 (hob) oP8630 (by omega) (by omega)) cb_X10_numeral ml_X10_165 im_X10_numeral se_X10_numeral h8649 rfl rfl (rest := []) rfl (Nat.le_of_ble_eq_true rfl) ⟨Nat.le_of_ble_eq_true rfl, Nat.le_of_ble_eq_true rfl⟩ ⟨Nat.le_of_ble_eq_true rfl, Nat.le_of_ble_eq_true rfl⟩ (fun r σ8650 hp => ?_)
        obtain ⟨P8654, oP8654, rP8654, h8651, c8653⟩ := hp
        have h8652 := HS.trans h8649 h8651 (by decide)
        have xP8654 := oP8654
        unfold OKP at xP8654
        unfold RA at rP8654
        rcases c8653 with ⟨n8655, gn8655, hn8655, rfl⟩ | ⟨h8656, rfl⟩
        · refine m_istore F (lv' := [(4, .int (nI n8655)), (3, .int (nI 1)), (2, .int (nI 1)), (1, .int (nI n8571)), (0, .ref c)]) e_X10_readPay_47 (by decide) rfl ?_
          refine m_aload_n F rfl e_X10_readPay_49 ?_
          refine r_get F e_X10_readPay_50 fl_X10_141 h8652 rfl (fun v hv f8657 => ?_)
          obtain ⟨x8658, hx8658, rfl⟩ := hv
          replace hx8658 : 0 = 0 → x8658 ≠ 0 := hx8658
          refine m_if_eq F e_X10_readPay_53 (fun q53 => ?_) (fun q53 => ?_)
          · first | exact absurd q53 (hx8658 rfl) | contradiction
          · have h8659 := HS.z0 h8652 (f8657) q53
            have h8660 : HS V c _ [0, 2, 4, 5, 6, 7, 8, 9, 10, 12, 13, 14, 15, 16, 17, 18, 19, 20, 21, 22, 23] _ _ := ⟨HR.mono (Z' := Z) (by intro e; first | rfl | assumption | omega) h8659.1, h8659.2⟩
            exact m_vret F hQ e_X10_readPay_56 (⟨P8654, oP8654, (by unfold RP; omega), h8660, rfl⟩)
        · have h8661 : HS V c (⟨T, 0, u, h, P8654, L⟩ : RG) [0, 2, 4, 5, 6, 7, 8, 9, 10, 12, 13, 14, 15, 16, 17, 18, 19, 20, 21, 22, 23] _ _ := ⟨h8656, h8652.2⟩
          refine m_istore F (lv' := [(4, .int (nI 0)), (3, .int (nI 1)), (2, .int (nI 1)), (1, .int (nI n8571)), (0, .ref c)]) e_X10_readPay_47 (by decide) rfl ?_
          refine m_aload_n F rfl e_X10_readPay_49 ?_
          refine r_get F e_X10_readPay_50 fl_X10_141 h8661 rfl (fun v hv f8662 => ?_)
          obtain ⟨x8663, hx8663, rfl⟩ := hv
          replace hx8663 : 0 = 0 → x8663 ≠ 0 := hx8663
          refine m_if_eq F e_X10_readPay_53 (fun q53 => ?_) (fun q53 => ?_)
          · first | exact absurd q53 (hx8663 rfl) | contradiction
          · have h8664 := HS.z0 h8661 (f8662) q53
            have h8665 : HS V c _ [0, 2, 4, 5, 6, 7, 8, 9, 10, 12, 13, 14, 15, 16, 17, 18, 19, 20, 21, 22, 23] _ _ := ⟨HR.mono (Z' := Z) (by intro e; first | rfl | assumption | omega) h8664.1, h8664.2⟩
            exact m_vret F hQ e_X10_readPay_56 (⟨P8654, oP8654, (by unfold RP; omega), h8665, rfl⟩)
  · subst q7
    refine m_aload_n F rfl e_X10_readPay_10 ?_
    refine m_iconst F (v := 2) (by decide) e_X10_readPay_11 ?_
    refine r_callV F e_X10_readPay_12 (q_X10_wrong (x_l X) V c T Z u h P L _ _ 2 h8566.1 (hob) hP (by first | omega | assumption | decide)) cb_X10_wrong ml_X10_150 im_X10_wrong se_X10_wrong h8566 rfl rfl (rest := []) rfl (Nat.le_of_ble_eq_true rfl) ⟨Nat.le_of_ble_eq_true rfl, Nat.le_of_ble_eq_true rfl⟩ ⟨Nat.le_of_ble_eq_true rfl, Nat.le_of_ble_eq_true rfl⟩ (fun r σ8666 hp => ?_)
    obtain ⟨h8667, rfl⟩ := hp
    have h8668 := HS.trans h8566 h8667 (by decide)
    refine m_aload_n F rfl e_X10_readPay_15 ?_
    refine r_callV F e_X10_readPay_16 (q_X10_atHand (x_l X) V c T 0 u h P L _ _  h8668.1 (hob) hP ) cb_X10_atHand ml_X10_174 im_X10_atHand se_X10_atHand h8668 rfl rfl (rest := []) rfl (Nat.le_of_ble_eq_true rfl) ⟨Nat.le_of_ble_eq_true rfl, Nat.le_of_ble_eq_true rfl⟩ ⟨Nat.le_of_ble_eq_true rfl, Nat.le_of_ble_eq_true rfl⟩ (fun r σ8669 hp => ?_)
    obtain ⟨P8673, oP8673, rP8673, h8670, n8672, gn8672, hn8672, rfl⟩ := hp
    have h8671 := HS.trans h8668 h8670 (by decide)
    have xP8673 := oP8673
    unfold OKP at xP8673
    unfold RA at rP8673
    refine m_istore_n F (lv' := [(1, .int (nI n8672)), (0, .ref c)]) e_X10_readPay_19 (by decide) rfl ?_
    refine m_aload_n F rfl e_X10_readPay_20 ?_
    refine r_callV F e_X10_readPay_21 (q_X10_goOn (x_l X) V c T 0 u h P8673 L _ _  h8671.1 (hob) oP8673 ) cb_X10_goOn ml_X10_154 im_X10_goOn se_X10_goOn h8671 rfl rfl (rest := []) rfl (Nat.le_of_ble_eq_true rfl) ⟨Nat.le_of_ble_eq_true rfl, Nat.le_of_ble_eq_true rfl⟩ ⟨Nat.le_of_ble_eq_true rfl, Nat.le_of_ble_eq_true rfl⟩ (fun r σ8674 hp => ?_)
    obtain ⟨P8677, oP8677, rP8677, pr8678, h8675, rfl⟩ := hp
    have h8676 := HS.trans h8671 h8675 (by decide)
    have xP8677 := oP8677
    unfold OKP at xP8677
    unfold RA at rP8677
    refine m_aload_n F rfl e_X10_readPay_24 ?_
    refine m_iconst F (v := 1) (by decide) e_X10_readPay_25 ?_
    refine m_bipush F (v := 48) (by decide) e_X10_readPay_26 ?_
    refine r_callV F e_X10_readPay_28 (q_X10_numeral (x_l X) V c T 0 u h P8677 L _ _ 1 48 h8676.1 (hob) oP8677 (by omega) (by omega)) cb_X10_numeral ml_X10_165 im_X10_numeral se_X10_numeral h8676 rfl rfl (rest := []) rfl (Nat.le_of_ble_eq_true rfl) ⟨Nat.le_of_ble_eq_true rfl, Nat.le_of_ble_eq_true rfl⟩ ⟨Nat.le_of_ble_eq_true rfl, Nat.le_of_ble_eq_true rfl⟩ (fun r σ8679 hp => ?_)
    obtain ⟨P8683, oP8683, rP8683, h8680, c8682⟩ := hp
    have h8681 := HS.trans h8676 h8680 (by decide)
    have xP8683 := oP8683
    unfold OKP at xP8683
    unfold RA at rP8683
    rcases c8682 with ⟨n8684, gn8684, hn8684, rfl⟩ | ⟨h8685, rfl⟩
    · refine m_istore_n F (lv' := [(2, .int (nI n8684)), (1, .int (nI n8672)), (0, .ref c)]) e_X10_readPay_31 (by decide) rfl ?_
      refine m_aload_n F rfl e_X10_readPay_32 ?_
      refine m_iload_n F rfl e_X10_readPay_33 ?_
      refine m_bipush F (v := 48) (by decide) e_X10_readPay_34 ?_
      refine r_callV F e_X10_readPay_36 (q_X10_numeral (x_l X) V c T 0 u h P8683 L _ _ n8684 48 h8681.1 (hob) oP8683 (by omega) (by omega)) cb_X10_numeral ml_X10_165 im_X10_numeral se_X10_numeral h8681 rfl rfl (rest := []) rfl (Nat.le_of_ble_eq_true rfl) ⟨Nat.le_of_ble_eq_true rfl, Nat.le_of_ble_eq_true rfl⟩ ⟨Nat.le_of_ble_eq_true rfl, Nat.le_of_ble_eq_true rfl⟩ (fun r σ8686 hp => ?_)
      obtain ⟨P8690, oP8690, rP8690, h8687, c8689⟩ := hp
      have h8688 := HS.trans h8681 h8687 (by decide)
      have xP8690 := oP8690
      unfold OKP at xP8690
      unfold RA at rP8690
      rcases c8689 with ⟨n8691, gn8691, hn8691, rfl⟩ | ⟨h8692, rfl⟩
      · refine m_istore_n F (lv' := [(3, .int (nI n8691)), (2, .int (nI n8684)), (1, .int (nI n8672)), (0, .ref c)]) e_X10_readPay_39 (by decide) rfl ?_
        refine m_aload_n F rfl e_X10_readPay_40 ?_
        refine m_iconst F (v := 0) (by decide) e_X10_readPay_41 ?_
        refine m_ldc F kc_X10_177 e_X10_readPay_42 ?_
        refine r_callV F e_X10_readPay_44 (q_X10_numeral (x_l X) V c T 0 u h P8690 L _ _ 0 99999 h8688.1 (hob) oP8690 (by omega) (by omega)) cb_X10_numeral ml_X10_165 im_X10_numeral se_X10_numeral h8688 rfl rfl (rest := []) rfl (Nat.le_of_ble_eq_true rfl) ⟨Nat.le_of_ble_eq_true rfl, Nat.le_of_ble_eq_true rfl⟩ ⟨Nat.le_of_ble_eq_true rfl, Nat.le_of_ble_eq_true rfl⟩ (fun r σ8693 hp => ?_)
        obtain ⟨P8697, oP8697, rP8697, h8694, c8696⟩ := hp
        have h8695 := HS.trans h8688 h8694 (by decide)
        have xP8697 := oP8697
        unfold OKP at xP8697
        unfold RA at rP8697
        rcases c8696 with ⟨n8698, gn8698, hn8698, rfl⟩ | ⟨h8699, rfl⟩
        · refine m_istore F (lv' := [(4, .int (nI n8698)), (3, .int (nI n8691)), (2, .int (nI n8684)), (1, .int (nI n8672)), (0, .ref c)]) e_X10_readPay_47 (by decide) rfl ?_
          refine m_aload_n F rfl e_X10_readPay_49 ?_
          refine r_get F e_X10_readPay_50 fl_X10_141 h8695 rfl (fun v hv f8700 => ?_)
          obtain ⟨x8701, hx8701, rfl⟩ := hv
          replace hx8701 : 0 = 0 → x8701 ≠ 0 := hx8701
          refine m_if_eq F e_X10_readPay_53 (fun q53 => ?_) (fun q53 => ?_)
          · first | exact absurd q53 (hx8701 rfl) | contradiction
          · have h8702 := HS.z0 h8695 (f8700) q53
            have h8703 : HS V c _ [0, 2, 4, 5, 6, 7, 8, 9, 10, 12, 13, 14, 15, 16, 17, 18, 19, 20, 21, 22, 23] _ _ := ⟨HR.mono (Z' := Z) (by intro e; first | rfl | assumption | omega) h8702.1, h8702.2⟩
            exact m_vret F hQ e_X10_readPay_56 (⟨P8697, oP8697, (by unfold RP; omega), h8703, rfl⟩)
        · have h8704 : HS V c (⟨T, 0, u, h, P8697, L⟩ : RG) [0, 2, 4, 5, 6, 7, 8, 9, 10, 12, 13, 14, 15, 16, 17, 18, 19, 20, 21, 22, 23] _ _ := ⟨h8699, h8695.2⟩
          refine m_istore F (lv' := [(4, .int (nI 0)), (3, .int (nI n8691)), (2, .int (nI n8684)), (1, .int (nI n8672)), (0, .ref c)]) e_X10_readPay_47 (by decide) rfl ?_
          refine m_aload_n F rfl e_X10_readPay_49 ?_
          refine r_get F e_X10_readPay_50 fl_X10_141 h8704 rfl (fun v hv f8705 => ?_)
          obtain ⟨x8706, hx8706, rfl⟩ := hv
          replace hx8706 : 0 = 0 → x8706 ≠ 0 := hx8706
          refine m_if_eq F e_X10_readPay_53 (fun q53 => ?_) (fun q53 => ?_)
          · first | exact absurd q53 (hx8706 rfl) | contradiction
          · have h8707 := HS.z0 h8704 (f8705) q53
            have h8708 : HS V c _ [0, 2, 4, 5, 6, 7, 8, 9, 10, 12, 13, 14, 15, 16, 17, 18, 19, 20, 21, 22, 23] _ _ := ⟨HR.mono (Z' := Z) (by intro e; first | rfl | assumption | omega) h8707.1, h8707.2⟩
            exact m_vret F hQ e_X10_readPay_56 (⟨P8697, oP8697, (by unfold RP; omega), h8708, rfl⟩)
      · have h8709 : HS V c (⟨T, 0, u, h, P8690, L⟩ : RG) [0, 2, 4, 5, 6, 7, 8, 9, 10, 12, 13, 14, 15, 16, 17, 18, 19, 20, 21, 22, 23] _ _ := ⟨h8692, h8688.2⟩
        refine m_istore_n F (lv' := [(3, .int (nI n8684)), (2, .int (nI n8684)), (1, .int (nI n8672)), (0, .ref c)]) e_X10_readPay_39 (by decide) rfl ?_
        refine m_aload_n F rfl e_X10_readPay_40 ?_
        refine m_iconst F (v := 0) (by decide) e_X10_readPay_41 ?_
        refine m_ldc F kc_X10_177 e_X10_readPay_42 ?_
        refine r_callV F e_X10_readPay_44 (q_X10_numeral (x_l X) V c T 0 u h P8690 L _ _ 0 99999 h8709.1 (hob) oP8690 (by omega) (by omega)) cb_X10_numeral ml_X10_165 im_X10_numeral se_X10_numeral h8709 rfl rfl (rest := []) rfl (Nat.le_of_ble_eq_true rfl) ⟨Nat.le_of_ble_eq_true rfl, Nat.le_of_ble_eq_true rfl⟩ ⟨Nat.le_of_ble_eq_true rfl, Nat.le_of_ble_eq_true rfl⟩ (fun r σ8710 hp => ?_)
        obtain ⟨P8714, oP8714, rP8714, h8711, c8713⟩ := hp
        have h8712 := HS.trans h8709 h8711 (by decide)
        have xP8714 := oP8714
        unfold OKP at xP8714
        unfold RA at rP8714
        rcases c8713 with ⟨n8715, gn8715, hn8715, rfl⟩ | ⟨h8716, rfl⟩
        · refine m_istore F (lv' := [(4, .int (nI n8715)), (3, .int (nI n8684)), (2, .int (nI n8684)), (1, .int (nI n8672)), (0, .ref c)]) e_X10_readPay_47 (by decide) rfl ?_
          refine m_aload_n F rfl e_X10_readPay_49 ?_
          refine r_get F e_X10_readPay_50 fl_X10_141 h8712 rfl (fun v hv f8717 => ?_)
          obtain ⟨x8718, hx8718, rfl⟩ := hv
          replace hx8718 : 0 = 0 → x8718 ≠ 0 := hx8718
          refine m_if_eq F e_X10_readPay_53 (fun q53 => ?_) (fun q53 => ?_)
          · first | exact absurd q53 (hx8718 rfl) | contradiction
          · have h8719 := HS.z0 h8712 (f8717) q53
            have h8720 : HS V c _ [0, 2, 4, 5, 6, 7, 8, 9, 10, 12, 13, 14, 15, 16, 17, 18, 19, 20, 21, 22, 23] _ _ := ⟨HR.mono (Z' := Z) (by intro e; first | rfl | assumption | omega) h8719.1, h8719.2⟩
            exact m_vret F hQ e_X10_readPay_56 (⟨P8714, oP8714, (by unfold RP; omega), h8720, rfl⟩)
        · have h8721 : HS V c (⟨T, 0, u, h, P8714, L⟩ : RG) [0, 2, 4, 5, 6, 7, 8, 9, 10, 12, 13, 14, 15, 16, 17, 18, 19, 20, 21, 22, 23] _ _ := ⟨h8716, h8712.2⟩
          refine m_istore F (lv' := [(4, .int (nI 0)), (3, .int (nI n8684)), (2, .int (nI n8684)), (1, .int (nI n8672)), (0, .ref c)]) e_X10_readPay_47 (by decide) rfl ?_
          refine m_aload_n F rfl e_X10_readPay_49 ?_
          refine r_get F e_X10_readPay_50 fl_X10_141 h8721 rfl (fun v hv f8722 => ?_)
          obtain ⟨x8723, hx8723, rfl⟩ := hv
          replace hx8723 : 0 = 0 → x8723 ≠ 0 := hx8723
          refine m_if_eq F e_X10_readPay_53 (fun q53 => ?_) (fun q53 => ?_)
          · first | exact absurd q53 (hx8723 rfl) | contradiction
          · have h8724 := HS.z0 h8721 (f8722) q53
            have h8725 : HS V c _ [0, 2, 4, 5, 6, 7, 8, 9, 10, 12, 13, 14, 15, 16, 17, 18, 19, 20, 21, 22, 23] _ _ := ⟨HR.mono (Z' := Z) (by intro e; first | rfl | assumption | omega) h8724.1, h8724.2⟩
            exact m_vret F hQ e_X10_readPay_56 (⟨P8714, oP8714, (by unfold RP; omega), h8725, rfl⟩)
    · have h8726 : HS V c (⟨T, 0, u, h, P8683, L⟩ : RG) [0, 2, 4, 5, 6, 7, 8, 9, 10, 12, 13, 14, 15, 16, 17, 18, 19, 20, 21, 22, 23] _ _ := ⟨h8685, h8681.2⟩
      refine m_istore_n F (lv' := [(2, .int (nI 1)), (1, .int (nI n8672)), (0, .ref c)]) e_X10_readPay_31 (by decide) rfl ?_
      refine m_aload_n F rfl e_X10_readPay_32 ?_
      refine m_iload_n F rfl e_X10_readPay_33 ?_
      refine m_bipush F (v := 48) (by decide) e_X10_readPay_34 ?_
      refine r_callV F e_X10_readPay_36 (q_X10_numeral (x_l X) V c T 0 u h P8683 L _ _ 1 48 h8726.1 (hob) oP8683 (by omega) (by omega)) cb_X10_numeral ml_X10_165 im_X10_numeral se_X10_numeral h8726 rfl rfl (rest := []) rfl (Nat.le_of_ble_eq_true rfl) ⟨Nat.le_of_ble_eq_true rfl, Nat.le_of_ble_eq_true rfl⟩ ⟨Nat.le_of_ble_eq_true rfl, Nat.le_of_ble_eq_true rfl⟩ (fun r σ8727 hp => ?_)
      obtain ⟨P8731, oP8731, rP8731, h8728, c8730⟩ := hp
      have h8729 := HS.trans h8726 h8728 (by decide)
      have xP8731 := oP8731
      unfold OKP at xP8731
      unfold RA at rP8731
      rcases c8730 with ⟨n8732, gn8732, hn8732, rfl⟩ | ⟨h8733, rfl⟩
      · refine m_istore_n F (lv' := [(3, .int (nI n8732)), (2, .int (nI 1)), (1, .int (nI n8672)), (0, .ref c)]) e_X10_readPay_39 (by decide) rfl ?_
        refine m_aload_n F rfl e_X10_readPay_40 ?_
        refine m_iconst F (v := 0) (by decide) e_X10_readPay_41 ?_
        refine m_ldc F kc_X10_177 e_X10_readPay_42 ?_
        refine r_callV F e_X10_readPay_44 (q_X10_numeral (x_l X) V c T 0 u h P8731 L _ _ 0 99999 h8729.1 (hob) oP8731 (by omega) (by omega)) cb_X10_numeral ml_X10_165 im_X10_numeral se_X10_numeral h8729 rfl rfl (rest := []) rfl (Nat.le_of_ble_eq_true rfl) ⟨Nat.le_of_ble_eq_true rfl, Nat.le_of_ble_eq_true rfl⟩ ⟨Nat.le_of_ble_eq_true rfl, Nat.le_of_ble_eq_true rfl⟩ (fun r σ8734 hp => ?_)
        obtain ⟨P8738, oP8738, rP8738, h8735, c8737⟩ := hp
        have h8736 := HS.trans h8729 h8735 (by decide)
        have xP8738 := oP8738
        unfold OKP at xP8738
        unfold RA at rP8738
        rcases c8737 with ⟨n8739, gn8739, hn8739, rfl⟩ | ⟨h8740, rfl⟩
        · refine m_istore F (lv' := [(4, .int (nI n8739)), (3, .int (nI n8732)), (2, .int (nI 1)), (1, .int (nI n8672)), (0, .ref c)]) e_X10_readPay_47 (by decide) rfl ?_
          refine m_aload_n F rfl e_X10_readPay_49 ?_
          refine r_get F e_X10_readPay_50 fl_X10_141 h8736 rfl (fun v hv f8741 => ?_)
          obtain ⟨x8742, hx8742, rfl⟩ := hv
          replace hx8742 : 0 = 0 → x8742 ≠ 0 := hx8742
          refine m_if_eq F e_X10_readPay_53 (fun q53 => ?_) (fun q53 => ?_)
          · first | exact absurd q53 (hx8742 rfl) | contradiction
          · have h8743 := HS.z0 h8736 (f8741) q53
            have h8744 : HS V c _ [0, 2, 4, 5, 6, 7, 8, 9, 10, 12, 13, 14, 15, 16, 17, 18, 19, 20, 21, 22, 23] _ _ := ⟨HR.mono (Z' := Z) (by intro e; first | rfl | assumption | omega) h8743.1, h8743.2⟩
            exact m_vret F hQ e_X10_readPay_56 (⟨P8738, oP8738, (by unfold RP; omega), h8744, rfl⟩)
        · have h8745 : HS V c (⟨T, 0, u, h, P8738, L⟩ : RG) [0, 2, 4, 5, 6, 7, 8, 9, 10, 12, 13, 14, 15, 16, 17, 18, 19, 20, 21, 22, 23] _ _ := ⟨h8740, h8736.2⟩
          refine m_istore F (lv' := [(4, .int (nI 0)), (3, .int (nI n8732)), (2, .int (nI 1)), (1, .int (nI n8672)), (0, .ref c)]) e_X10_readPay_47 (by decide) rfl ?_
          refine m_aload_n F rfl e_X10_readPay_49 ?_
          refine r_get F e_X10_readPay_50 fl_X10_141 h8745 rfl (fun v hv f8746 => ?_)
          obtain ⟨x8747, hx8747, rfl⟩ := hv
          replace hx8747 : 0 = 0 → x8747 ≠ 0 := hx8747
          refine m_if_eq F e_X10_readPay_53 (fun q53 => ?_) (fun q53 => ?_)
          · first | exact absurd q53 (hx8747 rfl) | contradiction
          · have h8748 := HS.z0 h8745 (f8746) q53
            have h8749 : HS V c _ [0, 2, 4, 5, 6, 7, 8, 9, 10, 12, 13, 14, 15, 16, 17, 18, 19, 20, 21, 22, 23] _ _ := ⟨HR.mono (Z' := Z) (by intro e; first | rfl | assumption | omega) h8748.1, h8748.2⟩
            exact m_vret F hQ e_X10_readPay_56 (⟨P8738, oP8738, (by unfold RP; omega), h8749, rfl⟩)
      · have h8750 : HS V c (⟨T, 0, u, h, P8731, L⟩ : RG) [0, 2, 4, 5, 6, 7, 8, 9, 10, 12, 13, 14, 15, 16, 17, 18, 19, 20, 21, 22, 23] _ _ := ⟨h8733, h8729.2⟩
        refine m_istore_n F (lv' := [(3, .int (nI 1)), (2, .int (nI 1)), (1, .int (nI n8672)), (0, .ref c)]) e_X10_readPay_39 (by decide) rfl ?_
        refine m_aload_n F rfl e_X10_readPay_40 ?_
        refine m_iconst F (v := 0) (by decide) e_X10_readPay_41 ?_
        refine m_ldc F kc_X10_177 e_X10_readPay_42 ?_
        refine r_callV F e_X10_readPay_44 (q_X10_numeral (x_l X) V c T 0 u h P8731 L _ _ 0 99999 h8750.1 (hob) oP8731 (by omega) (by omega)) cb_X10_numeral ml_X10_165 im_X10_numeral se_X10_numeral h8750 rfl rfl (rest := []) rfl (Nat.le_of_ble_eq_true rfl) ⟨Nat.le_of_ble_eq_true rfl, Nat.le_of_ble_eq_true rfl⟩ ⟨Nat.le_of_ble_eq_true rfl, Nat.le_of_ble_eq_true rfl⟩ (fun r σ8751 hp => ?_)
        obtain ⟨P8755, oP8755, rP8755, h8752, c8754⟩ := hp
        have h8753 := HS.trans h8750 h8752 (by decide)
        have xP8755 := oP8755
        unfold OKP at xP8755
        unfold RA at rP8755
        rcases c8754 with ⟨n8756, gn8756, hn8756, rfl⟩ | ⟨h8757, rfl⟩
        · refine m_istore F (lv' := [(4, .int (nI n8756)), (3, .int (nI 1)), (2, .int (nI 1)), (1, .int (nI n8672)), (0, .ref c)]) e_X10_readPay_47 (by decide) rfl ?_
          refine m_aload_n F rfl e_X10_readPay_49 ?_
          refine r_get F e_X10_readPay_50 fl_X10_141 h8753 rfl (fun v hv f8758 => ?_)
          obtain ⟨x8759, hx8759, rfl⟩ := hv
          replace hx8759 : 0 = 0 → x8759 ≠ 0 := hx8759
          refine m_if_eq F e_X10_readPay_53 (fun q53 => ?_) (fun q53 => ?_)
          · first | exact absurd q53 (hx8759 rfl) | contradiction
          · have h8760 := HS.z0 h8753 (f8758) q53
            have h8761 : HS V c _ [0, 2, 4, 5, 6, 7, 8, 9, 10, 12, 13, 14, 15, 16, 17, 18, 19, 20, 21, 22, 23] _ _ := ⟨HR.mono (Z' := Z) (by intro e; first | rfl | assumption | omega) h8760.1, h8760.2⟩
            exact m_vret F hQ e_X10_readPay_56 (⟨P8755, oP8755, (by unfold RP; omega), h8761, rfl⟩)
        · have h8762 : HS V c (⟨T, 0, u, h, P8755, L⟩ : RG) [0, 2, 4, 5, 6, 7, 8, 9, 10, 12, 13, 14, 15, 16, 17, 18, 19, 20, 21, 22, 23] _ _ := ⟨h8757, h8753.2⟩
          refine m_istore F (lv' := [(4, .int (nI 0)), (3, .int (nI 1)), (2, .int (nI 1)), (1, .int (nI n8672)), (0, .ref c)]) e_X10_readPay_47 (by decide) rfl ?_
          refine m_aload_n F rfl e_X10_readPay_49 ?_
          refine r_get F e_X10_readPay_50 fl_X10_141 h8762 rfl (fun v hv f8763 => ?_)
          obtain ⟨x8764, hx8764, rfl⟩ := hv
          replace hx8764 : 0 = 0 → x8764 ≠ 0 := hx8764
          refine m_if_eq F e_X10_readPay_53 (fun q53 => ?_) (fun q53 => ?_)
          · first | exact absurd q53 (hx8764 rfl) | contradiction
          · have h8765 := HS.z0 h8762 (f8763) q53
            have h8766 : HS V c _ [0, 2, 4, 5, 6, 7, 8, 9, 10, 12, 13, 14, 15, 16, 17, 18, 19, 20, 21, 22, 23] _ _ := ⟨HR.mono (Z' := Z) (by intro e; first | rfl | assumption | omega) h8765.1, h8765.2⟩
            exact m_vret F hQ e_X10_readPay_56 (⟨P8755, oP8755, (by unfold RP; omega), h8766, rfl⟩)
set_option maxRecDepth 20000 in
theorem q_X10_readMark (l : Launch) (V : VX) (c T Z u h : Nat) (P : NP) (L : Nat → LQ) (N : Nat) (σ : Mem) (x901 : Int32) (h0 : HR V c ⟨T, Z, u, h, P, L⟩ σ) (hob : OKB L) (hP : OKP P)  : Ct l V yX10_readMark cX10_readMark 3 none 8 0 0 N σ [.ref c, .int x901] (fun r τ => ∃ P9 : NP, OKP P9 ∧ RP P P9 ∧ HS V c (⟨T, Z, u, h, P9, L⟩ : RG) [0, 2, 3, 4, 5, 6, 7, 9, 10, 11, 12, 13, 14, 15, 16, 17, 18, 19, 20, 21, 22, 23] σ τ ∧ r = none) := by
  refine Ct.of (by decide) (Nat.le_of_ble_eq_true rfl) [(0, .ref c), (1, .int x901)] rfl (fun X hX F hQ => ?_)
  have hPP := hP
  unfold OKP at hPP
  have h1 : HS V c ⟨T, Z, u, h, P, L⟩ [0, 2, 3, 4, 5, 6, 7, 9, 10, 11, 12, 13, 14, 15, 16, 17, 18, 19, 20, 21, 22, 23] σ σ := HS.start h0
  refine m_aload_n F rfl e_X10_readMark_0 ?_
  refine r_callV F e_X10_readMark_1 (q_X10_atHand (x_l X) V c T Z u h P L _ _  h1.1 (hob) hP ) cb_X10_atHand ml_X10_174 im_X10_atHand se_X10_atHand h1 rfl rfl (rest := []) rfl (Nat.le_of_ble_eq_true rfl) ⟨Nat.le_of_ble_eq_true rfl, Nat.le_of_ble_eq_true rfl⟩ ⟨Nat.le_of_ble_eq_true rfl, Nat.le_of_ble_eq_true rfl⟩ (fun r σ8767 hp => ?_)
  obtain ⟨P8771, oP8771, rP8771, h8768, n8770, gn8770, hn8770, rfl⟩ := hp
  have h8769 := HS.trans h1 h8768 (by decide)
  have xP8771 := oP8771
  unfold OKP at xP8771
  unfold RA at rP8771
  refine m_istore_n F (lv' := [(2, .int (nI n8770)), (0, .ref c), (1, .int x901)]) e_X10_readMark_4 (by decide) rfl ?_
  refine m_aload_n F rfl e_X10_readMark_5 ?_
  refine r_get F e_X10_readMark_6 fl_X10_141 h8769 rfl (fun v hv f8772 => ?_)
  obtain ⟨x8773, hx8773, rfl⟩ := hv
  replace hx8773 : Z = 0 → x8773 ≠ 0 := hx8773
  refine m_if_ne F e_X10_readMark_9 (fun q9 => ?_) (fun q9 => ?_)
  · have h8774 := HS.z0 h8769 (f8772) q9
    refine m_aload_n F rfl e_X10_readMark_28 ?_
    refine r_getC F e_X10_readMark_29 fl_X10_141 h8774 (f8772) ?_
    refine m_if_ne F e_X10_readMark_32 (fun q32 => ?_) (fun q32 => ?_)
    · have h8775 := HS.z0 h8774 (f8772) q32
      refine m_aload_n F rfl e_X10_readMark_45 ?_
      refine r_callV F e_X10_readMark_46 (q_X10_goOn (x_l X) V c T 0 u h P8771 L _ _  h8775.1 (hob) oP8771 ) cb_X10_goOn ml_X10_154 im_X10_goOn se_X10_goOn h8775 rfl rfl (rest := []) rfl (Nat.le_of_ble_eq_true rfl) ⟨Nat.le_of_ble_eq_true rfl, Nat.le_of_ble_eq_true rfl⟩ ⟨Nat.le_of_ble_eq_true rfl, Nat.le_of_ble_eq_true rfl⟩ (fun r σ8776 hp => ?_)
      obtain ⟨P8779, oP8779, rP8779, pr8780, h8777, rfl⟩ := hp
      have h8778 := HS.trans h8775 h8777 (by decide)
      have xP8779 := oP8779
      unfold OKP at xP8779
      unfold RA at rP8779
      have h8781 : HS V c _ [0, 2, 3, 4, 5, 6, 7, 9, 10, 11, 12, 13, 14, 15, 16, 17, 18, 19, 20, 21, 22, 23] _ _ := ⟨HR.mono (Z' := Z) (by intro e; first | rfl | assumption | omega) h8778.1, h8778.2⟩
      exact m_vret F hQ e_X10_readMark_49 (⟨P8779, oP8779, (by unfold RP; omega), h8781, rfl⟩)
    · first | exact absurd q32 (hx8773 rfl) | contradiction
  · subst q9
    refine m_aload_n F rfl e_X10_readMark_12 ?_
    refine r_get F e_X10_readMark_13 fl_X10_28 h8769 rfl (fun v hv f8782 => ?_)
    obtain rfl : v = .ref (c + 7) := hv
    refine m_iload_n F rfl e_X10_readMark_16 ?_
    refine r_iald F (len := 8) (j := n8770) e_X10_readMark_17 h8769 (fun _ h => h) (by decide) (nI_clamp (by omega)) (vp_in_nI (by omega) (by decide)) (fun x8783 h8784 f8785 => ?_)
    refine m_iload_n F rfl e_X10_readMark_18 ?_
    refine m_iand F e_X10_readMark_19 ?_
    refine Wm.top (fun x8786 _ => ?_)
    refine m_if_eq F e_X10_readMark_20 (fun q20 => ?_) (fun q20 => ?_)
    · subst q20
      refine m_aload_n F rfl e_X10_readMark_28 ?_
      refine r_getC F e_X10_readMark_29 fl_X10_141 h8769 (f8772) ?_
      refine m_if_ne F e_X10_readMark_32 (fun q => absurd (by decide) q) (fun _ => ?_)
      refine m_aload_n F rfl e_X10_readMark_35 ?_
      refine r_getC F e_X10_readMark_36 fl_X10_28 h8769 (f8782) ?_
      refine m_iload_n F rfl e_X10_readMark_39 ?_
      refine m_dup2_11 F rfl rfl e_X10_readMark_40 ?_
      refine r_iald F (len := 8) (j := n8770) e_X10_readMark_41 h8769 (fun _ h => h) (by decide) (nI_clamp (by omega)) (vp_in_nI (by omega) (by decide)) (fun x8787 h8788 f8789 => ?_)
      obtain rfl := Option.some.inj ((f8789).symm.trans (f8785))
      refine m_iload_n F rfl e_X10_readMark_42 ?_
      refine m_ior F e_X10_readMark_43 ?_
      refine Wm.top (fun x8790 _ => ?_)
      refine r_iast F (g' := (⟨T, Z, u, h, P8771, L⟩ : RG)) (len := 8) (j := n8770) e_X10_readMark_44 h8769 (fun _ h => h) (fun f h => ⟨f, rfl, h⟩) (by decide) (by decide) (nI_clamp (by omega)) (vp_in_nI (by omega) (by decide)) trivial (fun _ _ _ h => h) (fun _ _ _ h => h) (fun σ8791 h8792 g8793 f8794 g8795 => ?_)
      refine m_aload_n F rfl e_X10_readMark_45 ?_
      refine r_callV F e_X10_readMark_46 (q_X10_goOn (x_l X) V c T Z u h P8771 L _ _  h8792.1 (hob) oP8771 ) cb_X10_goOn ml_X10_154 im_X10_goOn se_X10_goOn h8792 rfl rfl (rest := []) rfl (Nat.le_of_ble_eq_true rfl) ⟨Nat.le_of_ble_eq_true rfl, Nat.le_of_ble_eq_true rfl⟩ ⟨Nat.le_of_ble_eq_true rfl, Nat.le_of_ble_eq_true rfl⟩ (fun r σ8796 hp => ?_)
      obtain ⟨P8799, oP8799, rP8799, pr8800, h8797, rfl⟩ := hp
      have h8798 := HS.trans h8792 h8797 (by decide)
      have xP8799 := oP8799
      unfold OKP at xP8799
      unfold RA at rP8799
      exact m_vret F hQ e_X10_readMark_49 (⟨P8799, oP8799, (by unfold RP; omega), h8798, rfl⟩)
    · refine m_aload_n F rfl e_X10_readMark_23 ?_
      refine m_iconst F (v := 3) (by decide) e_X10_readMark_24 ?_
      refine r_callV F e_X10_readMark_25 (q_X10_wrong (x_l X) V c T Z u h P8771 L _ _ 3 h8769.1 (hob) oP8771 (by first | omega | assumption | decide)) cb_X10_wrong ml_X10_150 im_X10_wrong se_X10_wrong h8769 rfl rfl (rest := []) rfl (Nat.le_of_ble_eq_true rfl) ⟨Nat.le_of_ble_eq_true rfl, Nat.le_of_ble_eq_true rfl⟩ ⟨Nat.le_of_ble_eq_true rfl, Nat.le_of_ble_eq_true rfl⟩ (fun r σ8801 hp => ?_)
      obtain ⟨h8802, rfl⟩ := hp
      have h8803 := HS.trans h8769 h8802 (by decide)
      refine m_aload_n F rfl e_X10_readMark_28 ?_
      refine r_get F e_X10_readMark_29 fl_X10_141 h8803 rfl (fun v hv f8804 => ?_)
      obtain ⟨x8805, hx8805, rfl⟩ := hv
      replace hx8805 : 0 = 0 → x8805 ≠ 0 := hx8805
      refine m_if_ne F e_X10_readMark_32 (fun q32 => ?_) (fun q32 => ?_)
      · have h8806 := HS.z0 h8803 (f8804) q32
        refine m_aload_n F rfl e_X10_readMark_45 ?_
        refine r_callV F e_X10_readMark_46 (q_X10_goOn (x_l X) V c T 0 u h P8771 L _ _  h8806.1 (hob) oP8771 ) cb_X10_goOn ml_X10_154 im_X10_goOn se_X10_goOn h8806 rfl rfl (rest := []) rfl (Nat.le_of_ble_eq_true rfl) ⟨Nat.le_of_ble_eq_true rfl, Nat.le_of_ble_eq_true rfl⟩ ⟨Nat.le_of_ble_eq_true rfl, Nat.le_of_ble_eq_true rfl⟩ (fun r σ8807 hp => ?_)
        obtain ⟨P8810, oP8810, rP8810, pr8811, h8808, rfl⟩ := hp
        have h8809 := HS.trans h8806 h8808 (by decide)
        have xP8810 := oP8810
        unfold OKP at xP8810
        unfold RA at rP8810
        have h8812 : HS V c _ [0, 2, 3, 4, 5, 6, 7, 9, 10, 11, 12, 13, 14, 15, 16, 17, 18, 19, 20, 21, 22, 23] _ _ := ⟨HR.mono (Z' := Z) (by intro e; first | rfl | assumption | omega) h8809.1, h8809.2⟩
        exact m_vret F hQ e_X10_readMark_49 (⟨P8810, oP8810, (by unfold RP; omega), h8812, rfl⟩)
      · first | exact absurd q32 (hx8805 rfl) | contradiction
set_option maxRecDepth 20000 in
theorem q_X10_readFair (l : Launch) (V : VX) (c T Z u h : Nat) (P : NP) (L : Nat → LQ) (N : Nat) (σ : Mem)  (h0 : HR V c ⟨T, Z, u, h, P, L⟩ σ) (hob : OKB L) (hP : OKP P)  : Ct l V yX10_readFair cX10_readFair 3 none 8 0 0 N σ [.ref c] (fun r τ => ∃ P9 : NP, OKP P9 ∧ RP P P9 ∧ HS V c (⟨T, Z, u, h, P9, L⟩ : RG) [0, 2, 3, 4, 5, 6, 7, 8, 10, 11, 12, 13, 14, 15, 16, 17, 18, 19, 20, 21, 22, 23] σ τ ∧ r = none) := by
  refine Ct.of (by decide) (Nat.le_of_ble_eq_true rfl) [(0, .ref c)] rfl (fun X hX F hQ => ?_)
  have hPP := hP
  unfold OKP at hPP
  have h1 : HS V c ⟨T, Z, u, h, P, L⟩ [0, 2, 3, 4, 5, 6, 7, 8, 10, 11, 12, 13, 14, 15, 16, 17, 18, 19, 20, 21, 22, 23] σ σ := HS.start h0
  refine m_aload_n F rfl e_X10_readFair_0 ?_
  refine r_callV F e_X10_readFair_1 (q_X10_atHand (x_l X) V c T Z u h P L _ _  h1.1 (hob) hP ) cb_X10_atHand ml_X10_174 im_X10_atHand se_X10_atHand h1 rfl rfl (rest := []) rfl (Nat.le_of_ble_eq_true rfl) ⟨Nat.le_of_ble_eq_true rfl, Nat.le_of_ble_eq_true rfl⟩ ⟨Nat.le_of_ble_eq_true rfl, Nat.le_of_ble_eq_true rfl⟩ (fun r σ8813 hp => ?_)
  obtain ⟨P8817, oP8817, rP8817, h8814, n8816, gn8816, hn8816, rfl⟩ := hp
  have h8815 := HS.trans h1 h8814 (by decide)
  have xP8817 := oP8817
  unfold OKP at xP8817
  unfold RA at rP8817
  refine m_istore_n F (lv' := [(1, .int (nI n8816)), (0, .ref c)]) e_X10_readFair_4 (by decide) rfl ?_
  refine m_aload_n F rfl e_X10_readFair_5 ?_
  refine r_get F e_X10_readFair_6 fl_X10_141 h8815 rfl (fun v hv f8818 => ?_)
  obtain ⟨x8819, hx8819, rfl⟩ := hv
  replace hx8819 : Z = 0 → x8819 ≠ 0 := hx8819
  refine m_if_ne F e_X10_readFair_9 (fun q9 => ?_) (fun q9 => ?_)
  · have h8820 := HS.z0 h8815 (f8818) q9
    refine m_aload_n F rfl e_X10_readFair_26 ?_
    refine r_callV F e_X10_readFair_27 (q_X10_goOn (x_l X) V c T 0 u h P8817 L _ _  h8820.1 (hob) oP8817 ) cb_X10_goOn ml_X10_154 im_X10_goOn se_X10_goOn h8820 rfl rfl (rest := []) rfl (Nat.le_of_ble_eq_true rfl) ⟨Nat.le_of_ble_eq_true rfl, Nat.le_of_ble_eq_true rfl⟩ ⟨Nat.le_of_ble_eq_true rfl, Nat.le_of_ble_eq_true rfl⟩ (fun r σ8821 hp => ?_)
    obtain ⟨P8824, oP8824, rP8824, pr8825, h8822, rfl⟩ := hp
    have h8823 := HS.trans h8820 h8822 (by decide)
    have xP8824 := oP8824
    unfold OKP at xP8824
    unfold RA at rP8824
    refine m_aload_n F rfl e_X10_readFair_30 ?_
    refine m_iconst F (v := 1) (by decide) e_X10_readFair_31 ?_
    refine m_ldc F kc_X10_129 e_X10_readFair_32 ?_
    refine r_callV F e_X10_readFair_34 (q_X10_numeral (x_l X) V c T 0 u h P8824 L _ _ 1 9999999 h8823.1 (hob) oP8824 (by omega) (by omega)) cb_X10_numeral ml_X10_165 im_X10_numeral se_X10_numeral h8823 rfl rfl (rest := []) rfl (Nat.le_of_ble_eq_true rfl) ⟨Nat.le_of_ble_eq_true rfl, Nat.le_of_ble_eq_true rfl⟩ ⟨Nat.le_of_ble_eq_true rfl, Nat.le_of_ble_eq_true rfl⟩ (fun r σ8826 hp => ?_)
    obtain ⟨P8830, oP8830, rP8830, h8827, c8829⟩ := hp
    have h8828 := HS.trans h8823 h8827 (by decide)
    have xP8830 := oP8830
    unfold OKP at xP8830
    unfold RA at rP8830
    rcases c8829 with ⟨n8831, gn8831, hn8831, rfl⟩ | ⟨h8832, rfl⟩
    · refine m_istore_n F (lv' := [(2, .int (nI n8831)), (1, .int (nI n8816)), (0, .ref c)]) e_X10_readFair_37 (by decide) rfl ?_
      refine m_aload_n F rfl e_X10_readFair_38 ?_
      refine r_get F e_X10_readFair_39 fl_X10_141 h8828 rfl (fun v hv f8833 => ?_)
      obtain ⟨x8834, hx8834, rfl⟩ := hv
      replace hx8834 : 0 = 0 → x8834 ≠ 0 := hx8834
      refine m_if_ne F e_X10_readFair_42 (fun q42 => ?_) (fun q42 => ?_)
      · have h8835 := HS.z0 h8828 (f8833) q42
        have h8836 : HS V c _ [0, 2, 3, 4, 5, 6, 7, 8, 10, 11, 12, 13, 14, 15, 16, 17, 18, 19, 20, 21, 22, 23] _ _ := ⟨HR.mono (Z' := Z) (by intro e; first | rfl | assumption | omega) h8835.1, h8835.2⟩
        exact m_vret F hQ e_X10_readFair_52 (⟨P8830, oP8830, (by unfold RP; omega), h8836, rfl⟩)
      · first | exact absurd q42 (hx8834 rfl) | contradiction
    · have h8837 : HS V c (⟨T, 0, u, h, P8830, L⟩ : RG) [0, 2, 3, 4, 5, 6, 7, 8, 10, 11, 12, 13, 14, 15, 16, 17, 18, 19, 20, 21, 22, 23] _ _ := ⟨h8832, h8828.2⟩
      refine m_istore_n F (lv' := [(2, .int (nI 1)), (1, .int (nI n8816)), (0, .ref c)]) e_X10_readFair_37 (by decide) rfl ?_
      refine m_aload_n F rfl e_X10_readFair_38 ?_
      refine r_get F e_X10_readFair_39 fl_X10_141 h8837 rfl (fun v hv f8838 => ?_)
      obtain ⟨x8839, hx8839, rfl⟩ := hv
      replace hx8839 : 0 = 0 → x8839 ≠ 0 := hx8839
      refine m_if_ne F e_X10_readFair_42 (fun q42 => ?_) (fun q42 => ?_)
      · have h8840 := HS.z0 h8837 (f8838) q42
        have h8841 : HS V c _ [0, 2, 3, 4, 5, 6, 7, 8, 10, 11, 12, 13, 14, 15, 16, 17, 18, 19, 20, 21, 22, 23] _ _ := ⟨HR.mono (Z' := Z) (by intro e; first | rfl | assumption | omega) h8840.1, h8840.2⟩
        exact m_vret F hQ e_X10_readFair_52 (⟨P8830, oP8830, (by unfold RP; omega), h8841, rfl⟩)
      · first | exact absurd q42 (hx8839 rfl) | contradiction
  · subst q9
    refine m_aload_n F rfl e_X10_readFair_12 ?_
    refine r_get F e_X10_readFair_13 fl_X10_31 h8815 rfl (fun v hv f8842 => ?_)
    obtain rfl : v = .ref (c + 8) := hv
    refine m_iload_n F rfl e_X10_readFair_16 ?_
    refine r_iald F (len := 8) (j := n8816) e_X10_readFair_17 h8815 (fun _ h => h) (by decide) (nI_clamp (by omega)) (vp_in_nI (by omega) (by decide)) (fun x8843 h8844 f8845 => ?_)
    refine m_if_eq F e_X10_readFair_18 (fun q18 => ?_) (fun q18 => ?_)
    · subst q18
      refine m_aload_n F rfl e_X10_readFair_26 ?_
      refine r_callV F e_X10_readFair_27 (q_X10_goOn (x_l X) V c T Z u h P8817 L _ _  h8815.1 (hob) oP8817 ) cb_X10_goOn ml_X10_154 im_X10_goOn se_X10_goOn h8815 rfl rfl (rest := []) rfl (Nat.le_of_ble_eq_true rfl) ⟨Nat.le_of_ble_eq_true rfl, Nat.le_of_ble_eq_true rfl⟩ ⟨Nat.le_of_ble_eq_true rfl, Nat.le_of_ble_eq_true rfl⟩ (fun r σ8846 hp => ?_)
      obtain ⟨P8849, oP8849, rP8849, pr8850, h8847, rfl⟩ := hp
      have h8848 := HS.trans h8815 h8847 (by decide)
      have xP8849 := oP8849
      unfold OKP at xP8849
      unfold RA at rP8849
      refine m_aload_n F rfl e_X10_readFair_30 ?_
      refine m_iconst F (v := 1) (by decide) e_X10_readFair_31 ?_
      refine m_ldc F kc_X10_129 e_X10_readFair_32 ?_
      refine r_callV F e_X10_readFair_34 (q_X10_numeral (x_l X) V c T Z u h P8849 L _ _ 1 9999999 h8848.1 (hob) oP8849 (by omega) (by omega)) cb_X10_numeral ml_X10_165 im_X10_numeral se_X10_numeral h8848 rfl rfl (rest := []) rfl (Nat.le_of_ble_eq_true rfl) ⟨Nat.le_of_ble_eq_true rfl, Nat.le_of_ble_eq_true rfl⟩ ⟨Nat.le_of_ble_eq_true rfl, Nat.le_of_ble_eq_true rfl⟩ (fun r σ8851 hp => ?_)
      obtain ⟨P8855, oP8855, rP8855, h8852, c8854⟩ := hp
      have h8853 := HS.trans h8848 h8852 (by decide)
      have xP8855 := oP8855
      unfold OKP at xP8855
      unfold RA at rP8855
      rcases c8854 with ⟨n8856, gn8856, hn8856, rfl⟩ | ⟨h8857, rfl⟩
      · refine m_istore_n F (lv' := [(2, .int (nI n8856)), (1, .int (nI n8816)), (0, .ref c)]) e_X10_readFair_37 (by decide) rfl ?_
        refine m_aload_n F rfl e_X10_readFair_38 ?_
        refine r_get F e_X10_readFair_39 fl_X10_141 h8853 rfl (fun v hv f8858 => ?_)
        obtain ⟨x8859, hx8859, rfl⟩ := hv
        replace hx8859 : Z = 0 → x8859 ≠ 0 := hx8859
        refine m_if_ne F e_X10_readFair_42 (fun q42 => ?_) (fun q42 => ?_)
        · have h8860 := HS.z0 h8853 (f8858) q42
          have h8861 : HS V c _ [0, 2, 3, 4, 5, 6, 7, 8, 10, 11, 12, 13, 14, 15, 16, 17, 18, 19, 20, 21, 22, 23] _ _ := ⟨HR.mono (Z' := Z) (by intro e; first | rfl | assumption | omega) h8860.1, h8860.2⟩
          exact m_vret F hQ e_X10_readFair_52 (⟨P8855, oP8855, (by unfold RP; omega), h8861, rfl⟩)
        · subst q42
          refine m_aload_n F rfl e_X10_readFair_45 ?_
          refine r_get F e_X10_readFair_46 fl_X10_31 h8853 rfl (fun v hv f8862 => ?_)
          obtain rfl : v = .ref (c + 8) := hv
          refine m_iload_n F rfl e_X10_readFair_49 ?_
          refine m_iload_n F rfl e_X10_readFair_50 ?_
          refine r_iast F (g' := (⟨T, Z, u, h, P8855, L⟩ : RG)) (len := 8) (j := n8816) e_X10_readFair_51 h8853 (fun _ h => h) (fun f h => ⟨f, rfl, h⟩) (by decide) (by decide) (nI_clamp (by omega)) (vp_in_nI (by omega) (by decide)) trivial (fun _ _ _ h => h) (fun _ _ _ h => h) (fun σ8863 h8864 g8865 f8866 g8867 => ?_)
          exact m_vret F hQ e_X10_readFair_52 (⟨P8855, oP8855, (by unfold RP; omega), h8864, rfl⟩)
      · have h8868 : HS V c (⟨T, 0, u, h, P8855, L⟩ : RG) [0, 2, 3, 4, 5, 6, 7, 8, 10, 11, 12, 13, 14, 15, 16, 17, 18, 19, 20, 21, 22, 23] _ _ := ⟨h8857, h8853.2⟩
        refine m_istore_n F (lv' := [(2, .int (nI 1)), (1, .int (nI n8816)), (0, .ref c)]) e_X10_readFair_37 (by decide) rfl ?_
        refine m_aload_n F rfl e_X10_readFair_38 ?_
        refine r_get F e_X10_readFair_39 fl_X10_141 h8868 rfl (fun v hv f8869 => ?_)
        obtain ⟨x8870, hx8870, rfl⟩ := hv
        replace hx8870 : 0 = 0 → x8870 ≠ 0 := hx8870
        refine m_if_ne F e_X10_readFair_42 (fun q42 => ?_) (fun q42 => ?_)
        · have h8871 := HS.z0 h8868 (f8869) q42
          have h8872 : HS V c _ [0, 2, 3, 4, 5, 6, 7, 8, 10, 11, 12, 13, 14, 15, 16, 17, 18, 19, 20, 21, 22, 23] _ _ := ⟨HR.mono (Z' := Z) (by intro e; first | rfl | assumption | omega) h8871.1, h8871.2⟩
          exact m_vret F hQ e_X10_readFair_52 (⟨P8855, oP8855, (by unfold RP; omega), h8872, rfl⟩)
        · first | exact absurd q42 (hx8870 rfl) | contradiction
    · refine m_aload_n F rfl e_X10_readFair_21 ?_
      refine m_iconst F (v := 3) (by decide) e_X10_readFair_22 ?_
      refine r_callV F e_X10_readFair_23 (q_X10_wrong (x_l X) V c T Z u h P8817 L _ _ 3 h8815.1 (hob) oP8817 (by first | omega | assumption | decide)) cb_X10_wrong ml_X10_150 im_X10_wrong se_X10_wrong h8815 rfl rfl (rest := []) rfl (Nat.le_of_ble_eq_true rfl) ⟨Nat.le_of_ble_eq_true rfl, Nat.le_of_ble_eq_true rfl⟩ ⟨Nat.le_of_ble_eq_true rfl, Nat.le_of_ble_eq_true rfl⟩ (fun r σ8873 hp => ?_)
      obtain ⟨h8874, rfl⟩ := hp
      have h8875 := HS.trans h8815 h8874 (by decide)
      refine m_aload_n F rfl e_X10_readFair_26 ?_
      refine r_callV F e_X10_readFair_27 (q_X10_goOn (x_l X) V c T 0 u h P8817 L _ _  h8875.1 (hob) oP8817 ) cb_X10_goOn ml_X10_154 im_X10_goOn se_X10_goOn h8875 rfl rfl (rest := []) rfl (Nat.le_of_ble_eq_true rfl) ⟨Nat.le_of_ble_eq_true rfl, Nat.le_of_ble_eq_true rfl⟩ ⟨Nat.le_of_ble_eq_true rfl, Nat.le_of_ble_eq_true rfl⟩ (fun r σ8876 hp => ?_)
      obtain ⟨P8879, oP8879, rP8879, pr8880, h8877, rfl⟩ := hp
      have h8878 := HS.trans h8875 h8877 (by decide)
      have xP8879 := oP8879
      unfold OKP at xP8879
      unfold RA at rP8879
      refine m_aload_n F rfl e_X10_readFair_30 ?_
      refine m_iconst F (v := 1) (by decide) e_X10_readFair_31 ?_
      refine m_ldc F kc_X10_129 e_X10_readFair_32 ?_
      refine r_callV F e_X10_readFair_34 (q_X10_numeral (x_l X) V c T 0 u h P8879 L _ _ 1 9999999 h8878.1 (hob) oP8879 (by omega) (by omega)) cb_X10_numeral ml_X10_165 im_X10_numeral se_X10_numeral h8878 rfl rfl (rest := []) rfl (Nat.le_of_ble_eq_true rfl) ⟨Nat.le_of_ble_eq_true rfl, Nat.le_of_ble_eq_true rfl⟩ ⟨Nat.le_of_ble_eq_true rfl, Nat.le_of_ble_eq_true rfl⟩ (fun r σ8881 hp => ?_)
      obtain ⟨P8885, oP8885, rP8885, h8882, c8884⟩ := hp
      have h8883 := HS.trans h8878 h8882 (by decide)
      have xP8885 := oP8885
      unfold OKP at xP8885
      unfold RA at rP8885
      rcases c8884 with ⟨n8886, gn8886, hn8886, rfl⟩ | ⟨h8887, rfl⟩
      · refine m_istore_n F (lv' := [(2, .int (nI n8886)), (1, .int (nI n8816)), (0, .ref c)]) e_X10_readFair_37 (by decide) rfl ?_
        refine m_aload_n F rfl e_X10_readFair_38 ?_
        refine r_get F e_X10_readFair_39 fl_X10_141 h8883 rfl (fun v hv f8888 => ?_)
        obtain ⟨x8889, hx8889, rfl⟩ := hv
        replace hx8889 : 0 = 0 → x8889 ≠ 0 := hx8889
        refine m_if_ne F e_X10_readFair_42 (fun q42 => ?_) (fun q42 => ?_)
        · have h8890 := HS.z0 h8883 (f8888) q42
          have h8891 : HS V c _ [0, 2, 3, 4, 5, 6, 7, 8, 10, 11, 12, 13, 14, 15, 16, 17, 18, 19, 20, 21, 22, 23] _ _ := ⟨HR.mono (Z' := Z) (by intro e; first | rfl | assumption | omega) h8890.1, h8890.2⟩
          exact m_vret F hQ e_X10_readFair_52 (⟨P8885, oP8885, (by unfold RP; omega), h8891, rfl⟩)
        · first | exact absurd q42 (hx8889 rfl) | contradiction
      · have h8892 : HS V c (⟨T, 0, u, h, P8885, L⟩ : RG) [0, 2, 3, 4, 5, 6, 7, 8, 10, 11, 12, 13, 14, 15, 16, 17, 18, 19, 20, 21, 22, 23] _ _ := ⟨h8887, h8883.2⟩
        refine m_istore_n F (lv' := [(2, .int (nI 1)), (1, .int (nI n8816)), (0, .ref c)]) e_X10_readFair_37 (by decide) rfl ?_
        refine m_aload_n F rfl e_X10_readFair_38 ?_
        refine r_get F e_X10_readFair_39 fl_X10_141 h8892 rfl (fun v hv f8893 => ?_)
        obtain ⟨x8894, hx8894, rfl⟩ := hv
        replace hx8894 : 0 = 0 → x8894 ≠ 0 := hx8894
        refine m_if_ne F e_X10_readFair_42 (fun q42 => ?_) (fun q42 => ?_)
        · have h8895 := HS.z0 h8892 (f8893) q42
          have h8896 : HS V c _ [0, 2, 3, 4, 5, 6, 7, 8, 10, 11, 12, 13, 14, 15, 16, 17, 18, 19, 20, 21, 22, 23] _ _ := ⟨HR.mono (Z' := Z) (by intro e; first | rfl | assumption | omega) h8895.1, h8895.2⟩
          exact m_vret F hQ e_X10_readFair_52 (⟨P8885, oP8885, (by unfold RP; omega), h8896, rfl⟩)
        · first | exact absurd q42 (hx8894 rfl) | contradiction
set_option maxRecDepth 20000 in
theorem q_X10_readFee (l : Launch) (V : VX) (c T Z u h : Nat) (P : NP) (L : Nat → LQ) (N : Nat) (σ : Mem)  (h0 : HR V c ⟨T, Z, u, h, P, L⟩ σ) (hob : OKB L) (hP : OKP P)  : Ct l V yX10_readFee cX10_readFee 3 none 8 0 0 N σ [.ref c] (fun r τ => ∃ P9 : NP, OKP P9 ∧ RP P P9 ∧ HS V c (⟨T, Z, u, h, P9, L⟩ : RG) [0, 2, 3, 4, 5, 6, 7, 8, 9, 11, 12, 13, 14, 15, 16, 17, 18, 19, 20, 21, 22, 23] σ τ ∧ r = none) := by
  refine Ct.of (by decide) (Nat.le_of_ble_eq_true rfl) [(0, .ref c)] rfl (fun X hX F hQ => ?_)
  have hPP := hP
  unfold OKP at hPP
  have h1 : HS V c ⟨T, Z, u, h, P, L⟩ [0, 2, 3, 4, 5, 6, 7, 8, 9, 11, 12, 13, 14, 15, 16, 17, 18, 19, 20, 21, 22, 23] σ σ := HS.start h0
  refine m_aload_n F rfl e_X10_readFee_0 ?_
  refine r_callV F e_X10_readFee_1 (q_X10_atHand (x_l X) V c T Z u h P L _ _  h1.1 (hob) hP ) cb_X10_atHand ml_X10_174 im_X10_atHand se_X10_atHand h1 rfl rfl (rest := []) rfl (Nat.le_of_ble_eq_true rfl) ⟨Nat.le_of_ble_eq_true rfl, Nat.le_of_ble_eq_true rfl⟩ ⟨Nat.le_of_ble_eq_true rfl, Nat.le_of_ble_eq_true rfl⟩ (fun r σ8897 hp => ?_)
  obtain ⟨P8901, oP8901, rP8901, h8898, n8900, gn8900, hn8900, rfl⟩ := hp
  have h8899 := HS.trans h1 h8898 (by decide)
  have xP8901 := oP8901
  unfold OKP at xP8901
  unfold RA at rP8901
  refine m_istore_n F (lv' := [(1, .int (nI n8900)), (0, .ref c)]) e_X10_readFee_4 (by decide) rfl ?_
  refine m_aload_n F rfl e_X10_readFee_5 ?_
  refine r_get F e_X10_readFee_6 fl_X10_141 h8899 rfl (fun v hv f8902 => ?_)
  obtain ⟨x8903, hx8903, rfl⟩ := hv
  replace hx8903 : Z = 0 → x8903 ≠ 0 := hx8903
  refine m_if_ne F e_X10_readFee_9 (fun q9 => ?_) (fun q9 => ?_)
  · have h8904 := HS.z0 h8899 (f8902) q9
    refine m_aload_n F rfl e_X10_readFee_26 ?_
    refine r_callV F e_X10_readFee_27 (q_X10_goOn (x_l X) V c T 0 u h P8901 L _ _  h8904.1 (hob) oP8901 ) cb_X10_goOn ml_X10_154 im_X10_goOn se_X10_goOn h8904 rfl rfl (rest := []) rfl (Nat.le_of_ble_eq_true rfl) ⟨Nat.le_of_ble_eq_true rfl, Nat.le_of_ble_eq_true rfl⟩ ⟨Nat.le_of_ble_eq_true rfl, Nat.le_of_ble_eq_true rfl⟩ (fun r σ8905 hp => ?_)
    obtain ⟨P8908, oP8908, rP8908, pr8909, h8906, rfl⟩ := hp
    have h8907 := HS.trans h8904 h8906 (by decide)
    have xP8908 := oP8908
    unfold OKP at xP8908
    unfold RA at rP8908
    refine m_aload_n F rfl e_X10_readFee_30 ?_
    refine m_iconst F (v := 0) (by decide) e_X10_readFee_31 ?_
    refine m_ldc F kc_X10_177 e_X10_readFee_32 ?_
    refine r_callV F e_X10_readFee_34 (q_X10_numeral (x_l X) V c T 0 u h P8908 L _ _ 0 99999 h8907.1 (hob) oP8908 (by omega) (by omega)) cb_X10_numeral ml_X10_165 im_X10_numeral se_X10_numeral h8907 rfl rfl (rest := []) rfl (Nat.le_of_ble_eq_true rfl) ⟨Nat.le_of_ble_eq_true rfl, Nat.le_of_ble_eq_true rfl⟩ ⟨Nat.le_of_ble_eq_true rfl, Nat.le_of_ble_eq_true rfl⟩ (fun r σ8910 hp => ?_)
    obtain ⟨P8914, oP8914, rP8914, h8911, c8913⟩ := hp
    have h8912 := HS.trans h8907 h8911 (by decide)
    have xP8914 := oP8914
    unfold OKP at xP8914
    unfold RA at rP8914
    rcases c8913 with ⟨n8915, gn8915, hn8915, rfl⟩ | ⟨h8916, rfl⟩
    · refine m_istore_n F (lv' := [(2, .int (nI n8915)), (1, .int (nI n8900)), (0, .ref c)]) e_X10_readFee_37 (by decide) rfl ?_
      refine m_aload_n F rfl e_X10_readFee_38 ?_
      refine r_get F e_X10_readFee_39 fl_X10_141 h8912 rfl (fun v hv f8917 => ?_)
      obtain ⟨x8918, hx8918, rfl⟩ := hv
      replace hx8918 : 0 = 0 → x8918 ≠ 0 := hx8918
      refine m_if_ne F e_X10_readFee_42 (fun q42 => ?_) (fun q42 => ?_)
      · have h8919 := HS.z0 h8912 (f8917) q42
        have h8920 : HS V c _ [0, 2, 3, 4, 5, 6, 7, 8, 9, 11, 12, 13, 14, 15, 16, 17, 18, 19, 20, 21, 22, 23] _ _ := ⟨HR.mono (Z' := Z) (by intro e; first | rfl | assumption | omega) h8919.1, h8919.2⟩
        exact m_vret F hQ e_X10_readFee_54 (⟨P8914, oP8914, (by unfold RP; omega), h8920, rfl⟩)
      · first | exact absurd q42 (hx8918 rfl) | contradiction
    · have h8921 : HS V c (⟨T, 0, u, h, P8914, L⟩ : RG) [0, 2, 3, 4, 5, 6, 7, 8, 9, 11, 12, 13, 14, 15, 16, 17, 18, 19, 20, 21, 22, 23] _ _ := ⟨h8916, h8912.2⟩
      refine m_istore_n F (lv' := [(2, .int (nI 0)), (1, .int (nI n8900)), (0, .ref c)]) e_X10_readFee_37 (by decide) rfl ?_
      refine m_aload_n F rfl e_X10_readFee_38 ?_
      refine r_get F e_X10_readFee_39 fl_X10_141 h8921 rfl (fun v hv f8922 => ?_)
      obtain ⟨x8923, hx8923, rfl⟩ := hv
      replace hx8923 : 0 = 0 → x8923 ≠ 0 := hx8923
      refine m_if_ne F e_X10_readFee_42 (fun q42 => ?_) (fun q42 => ?_)
      · have h8924 := HS.z0 h8921 (f8922) q42
        have h8925 : HS V c _ [0, 2, 3, 4, 5, 6, 7, 8, 9, 11, 12, 13, 14, 15, 16, 17, 18, 19, 20, 21, 22, 23] _ _ := ⟨HR.mono (Z' := Z) (by intro e; first | rfl | assumption | omega) h8924.1, h8924.2⟩
        exact m_vret F hQ e_X10_readFee_54 (⟨P8914, oP8914, (by unfold RP; omega), h8925, rfl⟩)
      · first | exact absurd q42 (hx8923 rfl) | contradiction
  · subst q9
    refine m_aload_n F rfl e_X10_readFee_12 ?_
    refine r_get F e_X10_readFee_13 fl_X10_34 h8899 rfl (fun v hv f8926 => ?_)
    obtain rfl : v = .ref (c + 9) := hv
    refine m_iload_n F rfl e_X10_readFee_16 ?_
    refine r_iald F (len := 8) (j := n8900) e_X10_readFee_17 h8899 (fun _ h => h) (by decide) (nI_clamp (by omega)) (vp_in_nI (by omega) (by decide)) (fun x8927 h8928 f8929 => ?_)
    refine m_if_eq F e_X10_readFee_18 (fun q18 => ?_) (fun q18 => ?_)
    · subst q18
      refine m_aload_n F rfl e_X10_readFee_26 ?_
      refine r_callV F e_X10_readFee_27 (q_X10_goOn (x_l X) V c T Z u h P8901 L _ _  h8899.1 (hob) oP8901 ) cb_X10_goOn ml_X10_154 im_X10_goOn se_X10_goOn h8899 rfl rfl (rest := []) rfl (Nat.le_of_ble_eq_true rfl) ⟨Nat.le_of_ble_eq_true rfl, Nat.le_of_ble_eq_true rfl⟩ ⟨Nat.le_of_ble_eq_true rfl, Nat.le_of_ble_eq_true rfl⟩ (fun r σ8930 hp => ?_)
      obtain ⟨P8933, oP8933, rP8933, pr8934, h8931, rfl⟩ := hp
      have h8932 := HS.trans h8899 h8931 (by decide)
      have xP8933 := oP8933
      unfold OKP at xP8933
      unfold RA at rP8933
      refine m_aload_n F rfl e_X10_readFee_30 ?_
      refine m_iconst F (v := 0) (by decide) e_X10_readFee_31 ?_
      refine m_ldc F kc_X10_177 e_X10_readFee_32 ?_
      refine r_callV F e_X10_readFee_34 (q_X10_numeral (x_l X) V c T Z u h P8933 L _ _ 0 99999 h8932.1 (hob) oP8933 (by omega) (by omega)) cb_X10_numeral ml_X10_165 im_X10_numeral se_X10_numeral h8932 rfl rfl (rest := []) rfl (Nat.le_of_ble_eq_true rfl) ⟨Nat.le_of_ble_eq_true rfl, Nat.le_of_ble_eq_true rfl⟩ ⟨Nat.le_of_ble_eq_true rfl, Nat.le_of_ble_eq_true rfl⟩ (fun r σ8935 hp => ?_)
      obtain ⟨P8939, oP8939, rP8939, h8936, c8938⟩ := hp
      have h8937 := HS.trans h8932 h8936 (by decide)
      have xP8939 := oP8939
      unfold OKP at xP8939
      unfold RA at rP8939
      rcases c8938 with ⟨n8940, gn8940, hn8940, rfl⟩ | ⟨h8941, rfl⟩
      · refine m_istore_n F (lv' := [(2, .int (nI n8940)), (1, .int (nI n8900)), (0, .ref c)]) e_X10_readFee_37 (by decide) rfl ?_
        refine m_aload_n F rfl e_X10_readFee_38 ?_
        refine r_get F e_X10_readFee_39 fl_X10_141 h8937 rfl (fun v hv f8942 => ?_)
        obtain ⟨x8943, hx8943, rfl⟩ := hv
        replace hx8943 : Z = 0 → x8943 ≠ 0 := hx8943
        refine m_if_ne F e_X10_readFee_42 (fun q42 => ?_) (fun q42 => ?_)
        · have h8944 := HS.z0 h8937 (f8942) q42
          have h8945 : HS V c _ [0, 2, 3, 4, 5, 6, 7, 8, 9, 11, 12, 13, 14, 15, 16, 17, 18, 19, 20, 21, 22, 23] _ _ := ⟨HR.mono (Z' := Z) (by intro e; first | rfl | assumption | omega) h8944.1, h8944.2⟩
          exact m_vret F hQ e_X10_readFee_54 (⟨P8939, oP8939, (by unfold RP; omega), h8945, rfl⟩)
        · subst q42
          refine m_aload_n F rfl e_X10_readFee_45 ?_
          refine r_get F e_X10_readFee_46 fl_X10_34 h8937 rfl (fun v hv f8946 => ?_)
          obtain rfl : v = .ref (c + 9) := hv
          refine m_iload_n F rfl e_X10_readFee_49 ?_
          refine m_iload_n F rfl e_X10_readFee_50 ?_
          refine m_iconst F (v := 1) (by decide) e_X10_readFee_51 ?_
          refine m_iadd F e_X10_readFee_52 ?_
          refine Wm.topE (w := nI (n8940 + 1)) (nI_add n8940 1) ?_
          refine r_iast F (g' := (⟨T, Z, u, h, P8939, L⟩ : RG)) (len := 8) (j := n8900) e_X10_readFee_53 h8937 (fun _ h => h) (fun f h => ⟨f, rfl, h⟩) (by decide) (by decide) (nI_clamp (by omega)) (vp_in_nI (by omega) (by decide)) trivial (fun _ _ _ h => h) (fun _ _ _ h => h) (fun σ8947 h8948 g8949 f8950 g8951 => ?_)
          exact m_vret F hQ e_X10_readFee_54 (⟨P8939, oP8939, (by unfold RP; omega), h8948, rfl⟩)
      · have h8952 : HS V c (⟨T, 0, u, h, P8939, L⟩ : RG) [0, 2, 3, 4, 5, 6, 7, 8, 9, 11, 12, 13, 14, 15, 16, 17, 18, 19, 20, 21, 22, 23] _ _ := ⟨h8941, h8937.2⟩
        refine m_istore_n F (lv' := [(2, .int (nI 0)), (1, .int (nI n8900)), (0, .ref c)]) e_X10_readFee_37 (by decide) rfl ?_
        refine m_aload_n F rfl e_X10_readFee_38 ?_
        refine r_get F e_X10_readFee_39 fl_X10_141 h8952 rfl (fun v hv f8953 => ?_)
        obtain ⟨x8954, hx8954, rfl⟩ := hv
        replace hx8954 : 0 = 0 → x8954 ≠ 0 := hx8954
        refine m_if_ne F e_X10_readFee_42 (fun q42 => ?_) (fun q42 => ?_)
        · have h8955 := HS.z0 h8952 (f8953) q42
          have h8956 : HS V c _ [0, 2, 3, 4, 5, 6, 7, 8, 9, 11, 12, 13, 14, 15, 16, 17, 18, 19, 20, 21, 22, 23] _ _ := ⟨HR.mono (Z' := Z) (by intro e; first | rfl | assumption | omega) h8955.1, h8955.2⟩
          exact m_vret F hQ e_X10_readFee_54 (⟨P8939, oP8939, (by unfold RP; omega), h8956, rfl⟩)
        · first | exact absurd q42 (hx8954 rfl) | contradiction
    · refine m_aload_n F rfl e_X10_readFee_21 ?_
      refine m_iconst F (v := 3) (by decide) e_X10_readFee_22 ?_
      refine r_callV F e_X10_readFee_23 (q_X10_wrong (x_l X) V c T Z u h P8901 L _ _ 3 h8899.1 (hob) oP8901 (by first | omega | assumption | decide)) cb_X10_wrong ml_X10_150 im_X10_wrong se_X10_wrong h8899 rfl rfl (rest := []) rfl (Nat.le_of_ble_eq_true rfl) ⟨Nat.le_of_ble_eq_true rfl, Nat.le_of_ble_eq_true rfl⟩ ⟨Nat.le_of_ble_eq_true rfl, Nat.le_of_ble_eq_true rfl⟩ (fun r σ8957 hp => ?_)
      obtain ⟨h8958, rfl⟩ := hp
      have h8959 := HS.trans h8899 h8958 (by decide)
      refine m_aload_n F rfl e_X10_readFee_26 ?_
      refine r_callV F e_X10_readFee_27 (q_X10_goOn (x_l X) V c T 0 u h P8901 L _ _  h8959.1 (hob) oP8901 ) cb_X10_goOn ml_X10_154 im_X10_goOn se_X10_goOn h8959 rfl rfl (rest := []) rfl (Nat.le_of_ble_eq_true rfl) ⟨Nat.le_of_ble_eq_true rfl, Nat.le_of_ble_eq_true rfl⟩ ⟨Nat.le_of_ble_eq_true rfl, Nat.le_of_ble_eq_true rfl⟩ (fun r σ8960 hp => ?_)
      obtain ⟨P8963, oP8963, rP8963, pr8964, h8961, rfl⟩ := hp
      have h8962 := HS.trans h8959 h8961 (by decide)
      have xP8963 := oP8963
      unfold OKP at xP8963
      unfold RA at rP8963
      refine m_aload_n F rfl e_X10_readFee_30 ?_
      refine m_iconst F (v := 0) (by decide) e_X10_readFee_31 ?_
      refine m_ldc F kc_X10_177 e_X10_readFee_32 ?_
      refine r_callV F e_X10_readFee_34 (q_X10_numeral (x_l X) V c T 0 u h P8963 L _ _ 0 99999 h8962.1 (hob) oP8963 (by omega) (by omega)) cb_X10_numeral ml_X10_165 im_X10_numeral se_X10_numeral h8962 rfl rfl (rest := []) rfl (Nat.le_of_ble_eq_true rfl) ⟨Nat.le_of_ble_eq_true rfl, Nat.le_of_ble_eq_true rfl⟩ ⟨Nat.le_of_ble_eq_true rfl, Nat.le_of_ble_eq_true rfl⟩ (fun r σ8965 hp => ?_)
      obtain ⟨P8969, oP8969, rP8969, h8966, c8968⟩ := hp
      have h8967 := HS.trans h8962 h8966 (by decide)
      have xP8969 := oP8969
      unfold OKP at xP8969
      unfold RA at rP8969
      rcases c8968 with ⟨n8970, gn8970, hn8970, rfl⟩ | ⟨h8971, rfl⟩
      · refine m_istore_n F (lv' := [(2, .int (nI n8970)), (1, .int (nI n8900)), (0, .ref c)]) e_X10_readFee_37 (by decide) rfl ?_
        refine m_aload_n F rfl e_X10_readFee_38 ?_
        refine r_get F e_X10_readFee_39 fl_X10_141 h8967 rfl (fun v hv f8972 => ?_)
        obtain ⟨x8973, hx8973, rfl⟩ := hv
        replace hx8973 : 0 = 0 → x8973 ≠ 0 := hx8973
        refine m_if_ne F e_X10_readFee_42 (fun q42 => ?_) (fun q42 => ?_)
        · have h8974 := HS.z0 h8967 (f8972) q42
          have h8975 : HS V c _ [0, 2, 3, 4, 5, 6, 7, 8, 9, 11, 12, 13, 14, 15, 16, 17, 18, 19, 20, 21, 22, 23] _ _ := ⟨HR.mono (Z' := Z) (by intro e; first | rfl | assumption | omega) h8974.1, h8974.2⟩
          exact m_vret F hQ e_X10_readFee_54 (⟨P8969, oP8969, (by unfold RP; omega), h8975, rfl⟩)
        · first | exact absurd q42 (hx8973 rfl) | contradiction
      · have h8976 : HS V c (⟨T, 0, u, h, P8969, L⟩ : RG) [0, 2, 3, 4, 5, 6, 7, 8, 9, 11, 12, 13, 14, 15, 16, 17, 18, 19, 20, 21, 22, 23] _ _ := ⟨h8971, h8967.2⟩
        refine m_istore_n F (lv' := [(2, .int (nI 0)), (1, .int (nI n8900)), (0, .ref c)]) e_X10_readFee_37 (by decide) rfl ?_
        refine m_aload_n F rfl e_X10_readFee_38 ?_
        refine r_get F e_X10_readFee_39 fl_X10_141 h8976 rfl (fun v hv f8977 => ?_)
        obtain ⟨x8978, hx8978, rfl⟩ := hv
        replace hx8978 : 0 = 0 → x8978 ≠ 0 := hx8978
        refine m_if_ne F e_X10_readFee_42 (fun q42 => ?_) (fun q42 => ?_)
        · have h8979 := HS.z0 h8976 (f8977) q42
          have h8980 : HS V c _ [0, 2, 3, 4, 5, 6, 7, 8, 9, 11, 12, 13, 14, 15, 16, 17, 18, 19, 20, 21, 22, 23] _ _ := ⟨HR.mono (Z' := Z) (by intro e; first | rfl | assumption | omega) h8979.1, h8979.2⟩
          exact m_vret F hQ e_X10_readFee_54 (⟨P8969, oP8969, (by unfold RP; omega), h8980, rfl⟩)
        · first | exact absurd q42 (hx8978 rfl) | contradiction
set_option maxRecDepth 20000 in
theorem q_X10_readChange (l : Launch) (V : VX) (c T Z u h : Nat) (P : NP) (L : Nat → LQ) (N : Nat) (σ : Mem)  (h0 : HR V c ⟨T, Z, u, h, P, L⟩ σ) (hob : OKB L) (hP : OKP P)  : Ct l V yX10_readChange cX10_readChange 5 none 8 0 0 N σ [.ref c] (fun r τ => ∃ P9 : NP, OKP P9 ∧ RP P P9 ∧ HS V c (⟨T, Z, u, h, P9, L⟩ : RG) [0, 2, 4, 5, 6, 7, 8, 9, 10, 11, 14, 15, 16, 17, 18, 19, 20, 21, 22, 23] σ τ ∧ r = none) := by
  refine Ct.of (by decide) (Nat.le_of_ble_eq_true rfl) [(0, .ref c)] rfl (fun X hX F hQ => ?_)
  have hPP := hP
  unfold OKP at hPP
  have h1 : HS V c ⟨T, Z, u, h, P, L⟩ [0, 2, 4, 5, 6, 7, 8, 9, 10, 11, 14, 15, 16, 17, 18, 19, 20, 21, 22, 23] σ σ := HS.start h0
  refine m_bipush F (v := 8) (by decide) e_X10_readChange_0 ?_
  refine m_aload_n F rfl e_X10_readChange_2 ?_
  refine m_iconst F (v := 2) (by decide) e_X10_readChange_3 ?_
  refine r_callV F e_X10_readChange_4 (q_X10_reading2 (x_l X) V c T Z u h P L _ _  h1.1 (hob) hP ) cb_X10_reading ml_X10_157 im_X10_reading se_X10_reading h1 rfl rfl (rest := [.int 8]) rfl (Nat.le_of_ble_eq_true rfl) ⟨Nat.le_of_ble_eq_true rfl, Nat.le_of_ble_eq_true rfl⟩ ⟨Nat.le_of_ble_eq_true rfl, Nat.le_of_ble_eq_true rfl⟩ (fun r σ8981 hp => ?_)
  obtain ⟨h8982, rfl⟩ := hp
  have h8983 := HS.trans h1 h8982 (by decide)
  refine m_iadd F e_X10_readChange_7 ?_
  refine Wm.topE (w := nI (8 + P.n7)) (nI_add 8 P.n7) ?_
  refine m_istore_n F (lv' := [(1, .int (nI (8 + P.n7))), (0, .ref c)]) e_X10_readChange_8 (by decide) rfl ?_
  refine m_iload_n F rfl e_X10_readChange_9 ?_
  refine m_bipush F (v := 16) (by decide) e_X10_readChange_10 ?_
  refine m_icmp_ne F e_X10_readChange_12 (fun q12 => ?_) (fun q12 => ?_)
  · have c12 : (8 + P.n7) ≠ 16 := by have hh := mt (nI_eq (a := (8 + P.n7)) (b := 16) (by omega) (by omega)).mpr q12; omega
    refine m_aload_n F rfl e_X10_readChange_20 ?_
    refine r_callV F e_X10_readChange_21 (q_X10_goOn (x_l X) V c T Z u h P L _ _  h8983.1 (hob) hP ) cb_X10_goOn ml_X10_154 im_X10_goOn se_X10_goOn h8983 rfl rfl (rest := []) rfl (Nat.le_of_ble_eq_true rfl) ⟨Nat.le_of_ble_eq_true rfl, Nat.le_of_ble_eq_true rfl⟩ ⟨Nat.le_of_ble_eq_true rfl, Nat.le_of_ble_eq_true rfl⟩ (fun r σ8984 hp => ?_)
    obtain ⟨P8987, oP8987, rP8987, pr8988, h8985, rfl⟩ := hp
    have h8986 := HS.trans h8983 h8985 (by decide)
    have xP8987 := oP8987
    unfold OKP at xP8987
    unfold RA at rP8987
    refine m_aload_n F rfl e_X10_readChange_24 ?_
    refine m_iconst F (v := 2) (by decide) e_X10_readChange_25 ?_
    refine r_callV F e_X10_readChange_26 (q_X10_reading2 (x_l X) V c T Z u h P8987 L _ _  h8986.1 (hob) oP8987 ) cb_X10_reading ml_X10_157 im_X10_reading se_X10_reading h8986 rfl rfl (rest := []) rfl (Nat.le_of_ble_eq_true rfl) ⟨Nat.le_of_ble_eq_true rfl, Nat.le_of_ble_eq_true rfl⟩ ⟨Nat.le_of_ble_eq_true rfl, Nat.le_of_ble_eq_true rfl⟩ (fun r σ8989 hp => ?_)
    obtain ⟨h8990, rfl⟩ := hp
    have h8991 := HS.trans h8986 h8990 (by decide)
    refine m_if_eq F e_X10_readChange_29 (fun q29 => ?_) (fun q29 => ?_)
    · have c29 : P8987.n7 = 0 := (nI_eq (a := P8987.n7) (b := 0) (by omega) (by omega)).mp q29
      refine m_iconst F (v := 0) (by decide) e_X10_readChange_39 ?_
      refine m_goto F e_X10_readChange_40 ?_
      refine m_istore_n F (lv' := [(2, .int 0), (1, .int (nI (8 + P.n7))), (0, .ref c)]) e_X10_readChange_53 (by decide) rfl ?_
      refine m_aload_n F rfl e_X10_readChange_54 ?_
      refine m_iload_n F rfl e_X10_readChange_55 ?_
      refine m_bipush F (v := 99) (by decide) e_X10_readChange_56 ?_
      refine r_callV F e_X10_readChange_58 (q_X10_numeral (x_l X) V c T Z u h P8987 L _ _ 0 99 h8991.1 (hob) oP8987 (by omega) (by omega)) cb_X10_numeral ml_X10_165 im_X10_numeral se_X10_numeral h8991 rfl rfl (rest := []) rfl (Nat.le_of_ble_eq_true rfl) ⟨Nat.le_of_ble_eq_true rfl, Nat.le_of_ble_eq_true rfl⟩ ⟨Nat.le_of_ble_eq_true rfl, Nat.le_of_ble_eq_true rfl⟩ (fun r σ8992 hp => ?_)
      obtain ⟨P8996, oP8996, rP8996, h8993, c8995⟩ := hp
      have h8994 := HS.trans h8991 h8993 (by decide)
      have xP8996 := oP8996
      unfold OKP at xP8996
      unfold RA at rP8996
      rcases c8995 with ⟨n8997, gn8997, hn8997, rfl⟩ | ⟨h8998, rfl⟩
      · refine m_istore_n F (lv' := [(3, .int (nI n8997)), (2, .int 0), (1, .int (nI (8 + P.n7))), (0, .ref c)]) e_X10_readChange_61 (by decide) rfl ?_
        refine m_aload_n F rfl e_X10_readChange_62 ?_
        refine m_sipush F (v := 500) (by decide) e_X10_readChange_63 ?_
        refine m_sipush F (v := 2000) (by decide) e_X10_readChange_66 ?_
        refine r_callV F e_X10_readChange_69 (q_X10_numeral (x_l X) V c T Z u h P8996 L _ _ 500 2000 h8994.1 (hob) oP8996 (by omega) (by omega)) cb_X10_numeral ml_X10_165 im_X10_numeral se_X10_numeral h8994 rfl rfl (rest := []) rfl (Nat.le_of_ble_eq_true rfl) ⟨Nat.le_of_ble_eq_true rfl, Nat.le_of_ble_eq_true rfl⟩ ⟨Nat.le_of_ble_eq_true rfl, Nat.le_of_ble_eq_true rfl⟩ (fun r σ8999 hp => ?_)
        obtain ⟨P9003, oP9003, rP9003, h9000, c9002⟩ := hp
        have h9001 := HS.trans h8994 h9000 (by decide)
        have xP9003 := oP9003
        unfold OKP at xP9003
        unfold RA at rP9003
        rcases c9002 with ⟨n9004, gn9004, hn9004, rfl⟩ | ⟨h9005, rfl⟩
        · refine m_istore F (lv' := [(4, .int (nI n9004)), (3, .int (nI n8997)), (2, .int 0), (1, .int (nI (8 + P.n7))), (0, .ref c)]) e_X10_readChange_72 (by decide) rfl ?_
          refine m_aload_n F rfl e_X10_readChange_74 ?_
          refine r_get F e_X10_readChange_75 fl_X10_141 h9001 rfl (fun v hv f9006 => ?_)
          obtain ⟨x9007, hx9007, rfl⟩ := hv
          replace hx9007 : Z = 0 → x9007 ≠ 0 := hx9007
          refine m_if_eq F e_X10_readChange_78 (fun q78 => ?_) (fun q78 => ?_)
          · subst q78
            refine m_aload_n F rfl e_X10_readChange_82 ?_
            refine r_get F e_X10_readChange_83 fl_X10_40 h9001 rfl (fun v hv f9008 => ?_)
            obtain rfl : v = .ref (c + 11) := hv
            refine m_iload_n F rfl e_X10_readChange_86 ?_
            refine m_iload_n F rfl e_X10_readChange_87 ?_
            refine r_iast F (g' := (⟨T, Z, u, h, P9003, L⟩ : RG)) (len := 16) (j := 8 + P.n7) e_X10_readChange_88 h9001 (fun _ h => h) (fun f h => ⟨f, rfl, h⟩) (by decide) (by decide) (nI_clamp (by omega)) (vp_in_nI (by omega) (by decide)) ⟨n8997, by omega, rfl⟩ (fun _ _ _ h => h) (fun _ _ _ h => h) (fun σ9009 h9010 g9011 f9012 g9013 => ?_)
            refine m_aload_n F rfl e_X10_readChange_89 ?_
            refine r_get F e_X10_readChange_90 fl_X10_43 h9010 rfl (fun v hv f9014 => ?_)
            obtain rfl : v = .ref (c + 12) := hv
            refine m_iload_n F rfl e_X10_readChange_93 ?_
            refine m_iload F rfl e_X10_readChange_94 ?_
            refine r_iast F (g' := (⟨T, Z, u, h, (mkP P9003.n0 P9003.n2 P9003.n5 P9003.n7 P9003.m0 P9003.m5 P9003.w2 (P9003.n7 + 1) P9003.kk P9003.a P9003.b0 P9003.b1 P9003.b2 P9003.b3), L⟩ : RG)) (len := 16) (j := 8 + P.n7) e_X10_readChange_96 h9010 (fun _ h => h) (fun f h => ⟨f, rfl, h⟩) (by decide) (by decide) (nI_clamp (by omega)) (vp_in_nI (by omega) (by decide)) ⟨n9004, by omega, rfl, fun h7 _ => absurd h7 (by omega), fun _ _ => by omega⟩ (fun i hi y hy => by obtain ⟨n9, a9, b9, c9, d9⟩ := hy; exact ⟨n9, a9, b9, c9, fun h7 h8 => d9 h7 (show i < 8 + P9003.w7 by have h6 : i < 8 + (P9003.n7 + 1) := h8; omega)⟩) (CR.chg (by intro k hk i x h; unfold EI at h ⊢; split at h <;> first | exact h | exact absurd rfl hk | trivial) rfl rfl) (fun σ9015 h9016 g9017 f9018 g9019 => ?_)
            obtain ⟨P9020, eP9020⟩ : ∃ P9, P9 = (mkP P9003.n0 P9003.n2 P9003.n5 P9003.n7 P9003.m0 P9003.m5 P9003.w2 (P9003.n7 + 1) P9003.kk P9003.a P9003.b0 P9003.b1 P9003.b2 P9003.b3) := ⟨_, rfl⟩
            rw [← eP9020] at h9016
            have fP9020 : P9020.n0 = P9003.n0 ∧ P9020.n2 = P9003.n2 ∧ P9020.n5 = P9003.n5 ∧ P9020.n7 = P9003.n7 ∧ P9020.m0 = P9003.m0 ∧ P9020.m5 = P9003.m5 ∧ P9020.w2 = P9003.w2 ∧ P9020.w7 = P9003.n7 + 1 ∧ P9020.kk = P9003.kk ∧ P9020.a = P9003.a ∧ P9020.b0 = P9003.b0 ∧ P9020.b1 = P9003.b1 ∧ P9020.b2 = P9003.b2 ∧ P9020.b3 = P9003.b3 := by rw [eP9020]; exact ⟨rfl, rfl, rfl, rfl, rfl, rfl, rfl, rfl, rfl, rfl, rfl, rfl, rfl, rfl⟩
            refine m_aload_n F rfl e_X10_readChange_97 ?_
            refine m_iconst F (v := 2) (by decide) e_X10_readChange_98 ?_
            refine m_aload_n F rfl e_X10_readChange_99 ?_
            refine m_iconst F (v := 2) (by decide) e_X10_readChange_100 ?_
            have oP9024 : OKP P9020 := by unfold OKP; omega
            refine r_callV F e_X10_readChange_101 (q_X10_reading2 (x_l X) V c T Z u h P9020 L _ _  h9016.1 (hob) oP9024 ) cb_X10_reading ml_X10_157 im_X10_reading se_X10_reading h9016 rfl rfl (rest := [.int 2, .ref c]) rfl (Nat.le_of_ble_eq_true rfl) ⟨Nat.le_of_ble_eq_true rfl, Nat.le_of_ble_eq_true rfl⟩ ⟨Nat.le_of_ble_eq_true rfl, Nat.le_of_ble_eq_true rfl⟩ (fun r σ9021 hp => ?_)
            obtain ⟨h9022, rfl⟩ := hp
            have h9023 := HS.trans h9016 h9022 (by decide)
            refine m_iconst F (v := 1) (by decide) e_X10_readChange_104 ?_
            refine m_iadd F e_X10_readChange_105 ?_
            refine Wm.topE (w := nI (P9020.n7 + 1)) (nI_add P9020.n7 1) ?_
            refine r_callV F e_X10_readChange_106 (q_X10_reads2 (x_l X) V c T Z u h P9020 L _ _ (P9020.n7 + 1) h9023.1 (hob) oP9024 (by omega) (by first | omega | assumption | decide)) cb_X10_reads ml_X10_170 im_X10_reads se_X10_reads h9023 rfl rfl (rest := []) rfl (Nat.le_of_ble_eq_true rfl) ⟨Nat.le_of_ble_eq_true rfl, Nat.le_of_ble_eq_true rfl⟩ ⟨Nat.le_of_ble_eq_true rfl, Nat.le_of_ble_eq_true rfl⟩ (fun r σ9025 hp => ?_)
            obtain ⟨h9026, rfl⟩ := hp
            have h9027 := HS.trans h9023 h9026 (by decide)
            obtain ⟨P9028, eP9028⟩ : ∃ P9, P9 = (mkP P9020.n0 P9020.n2 P9020.n5 (P9020.n7 + 1) P9020.m0 P9020.m5 P9020.w2 P9020.w7 P9020.kk P9020.a P9020.b0 P9020.b1 P9020.b2 P9020.b3) := ⟨_, rfl⟩
            rw [← eP9028] at h9027
            have fP9028 : P9028.n0 = P9020.n0 ∧ P9028.n2 = P9020.n2 ∧ P9028.n5 = P9020.n5 ∧ P9028.n7 = P9020.n7 + 1 ∧ P9028.m0 = P9020.m0 ∧ P9028.m5 = P9020.m5 ∧ P9028.w2 = P9020.w2 ∧ P9028.w7 = P9020.w7 ∧ P9028.kk = P9020.kk ∧ P9028.a = P9020.a ∧ P9028.b0 = P9020.b0 ∧ P9028.b1 = P9020.b1 ∧ P9028.b2 = P9020.b2 ∧ P9028.b3 = P9020.b3 := by rw [eP9028]; exact ⟨rfl, rfl, rfl, rfl, rfl, rfl, rfl, rfl, rfl, rfl, rfl, rfl, rfl, rfl⟩
            have oP9029 : OKP P9028 := by unfold OKP; omega
            exact m_vret F hQ e_X10_readChange_109 (⟨P9028, oP9029, (by unfold RP; omega), h9027, rfl⟩)
          · have h9030 := HS.z0 h9001 (f9006) q78
            have h9031 : HS V c _ [0, 2, 4, 5, 6, 7, 8, 9, 10, 11, 14, 15, 16, 17, 18, 19, 20, 21, 22, 23] _ _ := ⟨HR.mono (Z' := Z) (by intro e; first | rfl | assumption | omega) h9030.1, h9030.2⟩
            exact m_vret F hQ e_X10_readChange_81 (⟨P9003, oP9003, (by unfold RP; omega), h9031, rfl⟩)
        · have h9032 : HS V c (⟨T, 0, u, h, P9003, L⟩ : RG) [0, 2, 4, 5, 6, 7, 8, 9, 10, 11, 14, 15, 16, 17, 18, 19, 20, 21, 22, 23] _ _ := ⟨h9005, h9001.2⟩
          refine m_istore F (lv' := [(4, .int (nI 500)), (3, .int (nI n8997)), (2, .int 0), (1, .int (nI (8 + P.n7))), (0, .ref c)]) e_X10_readChange_72 (by decide) rfl ?_
          refine m_aload_n F rfl e_X10_readChange_74 ?_
          refine r_get F e_X10_readChange_75 fl_X10_141 h9032 rfl (fun v hv f9033 => ?_)
          obtain ⟨x9034, hx9034, rfl⟩ := hv
          replace hx9034 : 0 = 0 → x9034 ≠ 0 := hx9034
          refine m_if_eq F e_X10_readChange_78 (fun q78 => ?_) (fun q78 => ?_)
          · first | exact absurd q78 (hx9034 rfl) | contradiction
          · have h9035 := HS.z0 h9032 (f9033) q78
            have h9036 : HS V c _ [0, 2, 4, 5, 6, 7, 8, 9, 10, 11, 14, 15, 16, 17, 18, 19, 20, 21, 22, 23] _ _ := ⟨HR.mono (Z' := Z) (by intro e; first | rfl | assumption | omega) h9035.1, h9035.2⟩
            exact m_vret F hQ e_X10_readChange_81 (⟨P9003, oP9003, (by unfold RP; omega), h9036, rfl⟩)
      · have h9037 : HS V c (⟨T, 0, u, h, P8996, L⟩ : RG) [0, 2, 4, 5, 6, 7, 8, 9, 10, 11, 14, 15, 16, 17, 18, 19, 20, 21, 22, 23] _ _ := ⟨h8998, h8994.2⟩
        refine m_istore_n F (lv' := [(3, .int (nI 0)), (2, .int 0), (1, .int (nI (8 + P.n7))), (0, .ref c)]) e_X10_readChange_61 (by decide) rfl ?_
        refine m_aload_n F rfl e_X10_readChange_62 ?_
        refine m_sipush F (v := 500) (by decide) e_X10_readChange_63 ?_
        refine m_sipush F (v := 2000) (by decide) e_X10_readChange_66 ?_
        refine r_callV F e_X10_readChange_69 (q_X10_numeral (x_l X) V c T 0 u h P8996 L _ _ 500 2000 h9037.1 (hob) oP8996 (by omega) (by omega)) cb_X10_numeral ml_X10_165 im_X10_numeral se_X10_numeral h9037 rfl rfl (rest := []) rfl (Nat.le_of_ble_eq_true rfl) ⟨Nat.le_of_ble_eq_true rfl, Nat.le_of_ble_eq_true rfl⟩ ⟨Nat.le_of_ble_eq_true rfl, Nat.le_of_ble_eq_true rfl⟩ (fun r σ9038 hp => ?_)
        obtain ⟨P9042, oP9042, rP9042, h9039, c9041⟩ := hp
        have h9040 := HS.trans h9037 h9039 (by decide)
        have xP9042 := oP9042
        unfold OKP at xP9042
        unfold RA at rP9042
        rcases c9041 with ⟨n9043, gn9043, hn9043, rfl⟩ | ⟨h9044, rfl⟩
        · refine m_istore F (lv' := [(4, .int (nI n9043)), (3, .int (nI 0)), (2, .int 0), (1, .int (nI (8 + P.n7))), (0, .ref c)]) e_X10_readChange_72 (by decide) rfl ?_
          refine m_aload_n F rfl e_X10_readChange_74 ?_
          refine r_get F e_X10_readChange_75 fl_X10_141 h9040 rfl (fun v hv f9045 => ?_)
          obtain ⟨x9046, hx9046, rfl⟩ := hv
          replace hx9046 : 0 = 0 → x9046 ≠ 0 := hx9046
          refine m_if_eq F e_X10_readChange_78 (fun q78 => ?_) (fun q78 => ?_)
          · first | exact absurd q78 (hx9046 rfl) | contradiction
          · have h9047 := HS.z0 h9040 (f9045) q78
            have h9048 : HS V c _ [0, 2, 4, 5, 6, 7, 8, 9, 10, 11, 14, 15, 16, 17, 18, 19, 20, 21, 22, 23] _ _ := ⟨HR.mono (Z' := Z) (by intro e; first | rfl | assumption | omega) h9047.1, h9047.2⟩
            exact m_vret F hQ e_X10_readChange_81 (⟨P9042, oP9042, (by unfold RP; omega), h9048, rfl⟩)
        · have h9049 : HS V c (⟨T, 0, u, h, P9042, L⟩ : RG) [0, 2, 4, 5, 6, 7, 8, 9, 10, 11, 14, 15, 16, 17, 18, 19, 20, 21, 22, 23] _ _ := ⟨h9044, h9040.2⟩
          refine m_istore F (lv' := [(4, .int (nI 500)), (3, .int (nI 0)), (2, .int 0), (1, .int (nI (8 + P.n7))), (0, .ref c)]) e_X10_readChange_72 (by decide) rfl ?_
          refine m_aload_n F rfl e_X10_readChange_74 ?_
          refine r_get F e_X10_readChange_75 fl_X10_141 h9049 rfl (fun v hv f9050 => ?_)
          obtain ⟨x9051, hx9051, rfl⟩ := hv
          replace hx9051 : 0 = 0 → x9051 ≠ 0 := hx9051
          refine m_if_eq F e_X10_readChange_78 (fun q78 => ?_) (fun q78 => ?_)
          · first | exact absurd q78 (hx9051 rfl) | contradiction
          · have h9052 := HS.z0 h9049 (f9050) q78
            have h9053 : HS V c _ [0, 2, 4, 5, 6, 7, 8, 9, 10, 11, 14, 15, 16, 17, 18, 19, 20, 21, 22, 23] _ _ := ⟨HR.mono (Z' := Z) (by intro e; first | rfl | assumption | omega) h9052.1, h9052.2⟩
            exact m_vret F hQ e_X10_readChange_81 (⟨P9042, oP9042, (by unfold RP; omega), h9053, rfl⟩)
    · have c29 : P8987.n7 ≠ 0 := by have hh := mt (nI_eq (a := P8987.n7) (b := 0) (by omega) (by omega)).mpr q29; omega
      refine m_aload_n F rfl e_X10_readChange_32 ?_
      refine r_get F e_X10_readChange_33 fl_X10_141 h8991 rfl (fun v hv f9054 => ?_)
      obtain ⟨x9055, hx9055, rfl⟩ := hv
      replace hx9055 : Z = 0 → x9055 ≠ 0 := hx9055
      refine m_if_eq F e_X10_readChange_36 (fun q36 => ?_) (fun q36 => ?_)
      · subst q36
        refine m_aload_n F rfl e_X10_readChange_43 ?_
        refine r_get F e_X10_readChange_44 fl_X10_40 h8991 rfl (fun v hv f9056 => ?_)
        obtain rfl : v = .ref (c + 11) := hv
        refine m_iload_n F rfl e_X10_readChange_47 ?_
        refine m_iconst F (v := 1) (by decide) e_X10_readChange_48 ?_
        refine m_isub F e_X10_readChange_49 ?_
        refine Wm.topE (w := nI ((8 + P.n7) - 1)) (pk_sub (a := 8 + P.n7) (b := 1) (by omega)) ?_
        refine r_iald F (len := 16) (j := (8 + P.n7) - 1) e_X10_readChange_50 h8991 (fun _ h => h) (by decide) (nI_clamp (by omega)) (vp_in_nI (by omega) (by decide)) (fun x9057 h9058 f9059 => ?_)
        obtain ⟨n9060, hn9060, rfl⟩ := h9058
        refine m_iconst F (v := 1) (by decide) e_X10_readChange_51 ?_
        refine m_iadd F e_X10_readChange_52 ?_
        refine Wm.topE (w := nI (n9060 + 1)) (nI_add n9060 1) ?_
        refine m_istore_n F (lv' := [(2, .int (nI (n9060 + 1))), (1, .int (nI (8 + P.n7))), (0, .ref c)]) e_X10_readChange_53 (by decide) rfl ?_
        refine m_aload_n F rfl e_X10_readChange_54 ?_
        refine m_iload_n F rfl e_X10_readChange_55 ?_
        refine m_bipush F (v := 99) (by decide) e_X10_readChange_56 ?_
        refine r_callV F e_X10_readChange_58 (q_X10_numeral (x_l X) V c T Z u h P8987 L _ _ (n9060 + 1) 99 h8991.1 (hob) oP8987 (by omega) (by omega)) cb_X10_numeral ml_X10_165 im_X10_numeral se_X10_numeral h8991 rfl rfl (rest := []) rfl (Nat.le_of_ble_eq_true rfl) ⟨Nat.le_of_ble_eq_true rfl, Nat.le_of_ble_eq_true rfl⟩ ⟨Nat.le_of_ble_eq_true rfl, Nat.le_of_ble_eq_true rfl⟩ (fun r σ9061 hp => ?_)
        obtain ⟨P9065, oP9065, rP9065, h9062, c9064⟩ := hp
        have h9063 := HS.trans h8991 h9062 (by decide)
        have xP9065 := oP9065
        unfold OKP at xP9065
        unfold RA at rP9065
        rcases c9064 with ⟨n9066, gn9066, hn9066, rfl⟩ | ⟨h9067, rfl⟩
        · refine m_istore_n F (lv' := [(3, .int (nI n9066)), (2, .int (nI (n9060 + 1))), (1, .int (nI (8 + P.n7))), (0, .ref c)]) e_X10_readChange_61 (by decide) rfl ?_
          refine m_aload_n F rfl e_X10_readChange_62 ?_
          refine m_sipush F (v := 500) (by decide) e_X10_readChange_63 ?_
          refine m_sipush F (v := 2000) (by decide) e_X10_readChange_66 ?_
          refine r_callV F e_X10_readChange_69 (q_X10_numeral (x_l X) V c T Z u h P9065 L _ _ 500 2000 h9063.1 (hob) oP9065 (by omega) (by omega)) cb_X10_numeral ml_X10_165 im_X10_numeral se_X10_numeral h9063 rfl rfl (rest := []) rfl (Nat.le_of_ble_eq_true rfl) ⟨Nat.le_of_ble_eq_true rfl, Nat.le_of_ble_eq_true rfl⟩ ⟨Nat.le_of_ble_eq_true rfl, Nat.le_of_ble_eq_true rfl⟩ (fun r σ9068 hp => ?_)
          obtain ⟨P9072, oP9072, rP9072, h9069, c9071⟩ := hp
          have h9070 := HS.trans h9063 h9069 (by decide)
          have xP9072 := oP9072
          unfold OKP at xP9072
          unfold RA at rP9072
          rcases c9071 with ⟨n9073, gn9073, hn9073, rfl⟩ | ⟨h9074, rfl⟩
          · refine m_istore F (lv' := [(4, .int (nI n9073)), (3, .int (nI n9066)), (2, .int (nI (n9060 + 1))), (1, .int (nI (8 + P.n7))), (0, .ref c)]) e_X10_readChange_72 (by decide) rfl ?_
            refine m_aload_n F rfl e_X10_readChange_74 ?_
            refine r_get F e_X10_readChange_75 fl_X10_141 h9070 rfl (fun v hv f9075 => ?_)
            obtain ⟨x9076, hx9076, rfl⟩ := hv
            replace hx9076 : Z = 0 → x9076 ≠ 0 := hx9076
            refine m_if_eq F e_X10_readChange_78 (fun q78 => ?_) (fun q78 => ?_)
            · subst q78
              refine m_aload_n F rfl e_X10_readChange_82 ?_
              refine r_get F e_X10_readChange_83 fl_X10_40 h9070 rfl (fun v hv f9077 => ?_)
              obtain rfl : v = .ref (c + 11) := hv
              refine m_iload_n F rfl e_X10_readChange_86 ?_
              refine m_iload_n F rfl e_X10_readChange_87 ?_
              refine r_iast F (g' := (⟨T, Z, u, h, P9072, L⟩ : RG)) (len := 16) (j := 8 + P.n7) e_X10_readChange_88 h9070 (fun _ h => h) (fun f h => ⟨f, rfl, h⟩) (by decide) (by decide) (nI_clamp (by omega)) (vp_in_nI (by omega) (by decide)) ⟨n9066, by omega, rfl⟩ (fun _ _ _ h => h) (fun _ _ _ h => h) (fun σ9078 h9079 g9080 f9081 g9082 => ?_)
              refine m_aload_n F rfl e_X10_readChange_89 ?_
              refine r_get F e_X10_readChange_90 fl_X10_43 h9079 rfl (fun v hv f9083 => ?_)
              obtain rfl : v = .ref (c + 12) := hv
              refine m_iload_n F rfl e_X10_readChange_93 ?_
              refine m_iload F rfl e_X10_readChange_94 ?_
              refine r_iast F (g' := (⟨T, Z, u, h, (mkP P9072.n0 P9072.n2 P9072.n5 P9072.n7 P9072.m0 P9072.m5 P9072.w2 (P9072.n7 + 1) P9072.kk P9072.a P9072.b0 P9072.b1 P9072.b2 P9072.b3), L⟩ : RG)) (len := 16) (j := 8 + P.n7) e_X10_readChange_96 h9079 (fun _ h => h) (fun f h => ⟨f, rfl, h⟩) (by decide) (by decide) (nI_clamp (by omega)) (vp_in_nI (by omega) (by decide)) ⟨n9073, by omega, rfl, fun h7 _ => absurd h7 (by omega), fun _ _ => by omega⟩ (fun i hi y hy => by obtain ⟨n9, a9, b9, c9, d9⟩ := hy; exact ⟨n9, a9, b9, c9, fun h7 h8 => d9 h7 (show i < 8 + P9072.w7 by have h6 : i < 8 + (P9072.n7 + 1) := h8; omega)⟩) (CR.chg (by intro k hk i x h; unfold EI at h ⊢; split at h <;> first | exact h | exact absurd rfl hk | trivial) rfl rfl) (fun σ9084 h9085 g9086 f9087 g9088 => ?_)
              obtain ⟨P9089, eP9089⟩ : ∃ P9, P9 = (mkP P9072.n0 P9072.n2 P9072.n5 P9072.n7 P9072.m0 P9072.m5 P9072.w2 (P9072.n7 + 1) P9072.kk P9072.a P9072.b0 P9072.b1 P9072.b2 P9072.b3) := ⟨_, rfl⟩
              rw [← eP9089] at h9085
              have fP9089 : P9089.n0 = P9072.n0 ∧ P9089.n2 = P9072.n2 ∧ P9089.n5 = P9072.n5 ∧ P9089.n7 = P9072.n7 ∧ P9089.m0 = P9072.m0 ∧ P9089.m5 = P9072.m5 ∧ P9089.w2 = P9072.w2 ∧ P9089.w7 = P9072.n7 + 1 ∧ P9089.kk = P9072.kk ∧ P9089.a = P9072.a ∧ P9089.b0 = P9072.b0 ∧ P9089.b1 = P9072.b1 ∧ P9089.b2 = P9072.b2 ∧ P9089.b3 = P9072.b3 := by rw [eP9089]; exact ⟨rfl, rfl, rfl, rfl, rfl, rfl, rfl, rfl, rfl, rfl, rfl, rfl, rfl, rfl⟩
              refine m_aload_n F rfl e_X10_readChange_97 ?_
              refine m_iconst F (v := 2) (by decide) e_X10_readChange_98 ?_
              refine m_aload_n F rfl e_X10_readChange_99 ?_
              refine m_iconst F (v := 2) (by decide) e_X10_readChange_100 ?_
              have oP9093 : OKP P9089 := by unfold OKP; omega
              refine r_callV F e_X10_readChange_101 (q_X10_reading2 (x_l X) V c T Z u h P9089 L _ _  h9085.1 (hob) oP9093 ) cb_X10_reading ml_X10_157 im_X10_reading se_X10_reading h9085 rfl rfl (rest := [.int 2, .ref c]) rfl (Nat.le_of_ble_eq_true rfl) ⟨Nat.le_of_ble_eq_true rfl, Nat.le_of_ble_eq_true rfl⟩ ⟨Nat.le_of_ble_eq_true rfl, Nat.le_of_ble_eq_true rfl⟩ (fun r σ9090 hp => ?_)
              obtain ⟨h9091, rfl⟩ := hp
              have h9092 := HS.trans h9085 h9091 (by decide)
              refine m_iconst F (v := 1) (by decide) e_X10_readChange_104 ?_
              refine m_iadd F e_X10_readChange_105 ?_
              refine Wm.topE (w := nI (P9089.n7 + 1)) (nI_add P9089.n7 1) ?_
              refine r_callV F e_X10_readChange_106 (q_X10_reads2 (x_l X) V c T Z u h P9089 L _ _ (P9089.n7 + 1) h9092.1 (hob) oP9093 (by omega) (by first | omega | assumption | decide)) cb_X10_reads ml_X10_170 im_X10_reads se_X10_reads h9092 rfl rfl (rest := []) rfl (Nat.le_of_ble_eq_true rfl) ⟨Nat.le_of_ble_eq_true rfl, Nat.le_of_ble_eq_true rfl⟩ ⟨Nat.le_of_ble_eq_true rfl, Nat.le_of_ble_eq_true rfl⟩ (fun r σ9094 hp => ?_)
              obtain ⟨h9095, rfl⟩ := hp
              have h9096 := HS.trans h9092 h9095 (by decide)
              obtain ⟨P9097, eP9097⟩ : ∃ P9, P9 = (mkP P9089.n0 P9089.n2 P9089.n5 (P9089.n7 + 1) P9089.m0 P9089.m5 P9089.w2 P9089.w7 P9089.kk P9089.a P9089.b0 P9089.b1 P9089.b2 P9089.b3) := ⟨_, rfl⟩
              rw [← eP9097] at h9096
              have fP9097 : P9097.n0 = P9089.n0 ∧ P9097.n2 = P9089.n2 ∧ P9097.n5 = P9089.n5 ∧ P9097.n7 = P9089.n7 + 1 ∧ P9097.m0 = P9089.m0 ∧ P9097.m5 = P9089.m5 ∧ P9097.w2 = P9089.w2 ∧ P9097.w7 = P9089.w7 ∧ P9097.kk = P9089.kk ∧ P9097.a = P9089.a ∧ P9097.b0 = P9089.b0 ∧ P9097.b1 = P9089.b1 ∧ P9097.b2 = P9089.b2 ∧ P9097.b3 = P9089.b3 := by rw [eP9097]; exact ⟨rfl, rfl, rfl, rfl, rfl, rfl, rfl, rfl, rfl, rfl, rfl, rfl, rfl, rfl⟩
              have oP9098 : OKP P9097 := by unfold OKP; omega
              exact m_vret F hQ e_X10_readChange_109 (⟨P9097, oP9098, (by unfold RP; omega), h9096, rfl⟩)
            · have h9099 := HS.z0 h9070 (f9075) q78
              have h9100 : HS V c _ [0, 2, 4, 5, 6, 7, 8, 9, 10, 11, 14, 15, 16, 17, 18, 19, 20, 21, 22, 23] _ _ := ⟨HR.mono (Z' := Z) (by intro e; first | rfl | assumption | omega) h9099.1, h9099.2⟩
              exact m_vret F hQ e_X10_readChange_81 (⟨P9072, oP9072, (by unfold RP; omega), h9100, rfl⟩)
          · have h9101 : HS V c (⟨T, 0, u, h, P9072, L⟩ : RG) [0, 2, 4, 5, 6, 7, 8, 9, 10, 11, 14, 15, 16, 17, 18, 19, 20, 21, 22, 23] _ _ := ⟨h9074, h9070.2⟩
            refine m_istore F (lv' := [(4, .int (nI 500)), (3, .int (nI n9066)), (2, .int (nI (n9060 + 1))), (1, .int (nI (8 + P.n7))), (0, .ref c)]) e_X10_readChange_72 (by decide) rfl ?_
            refine m_aload_n F rfl e_X10_readChange_74 ?_
            refine r_get F e_X10_readChange_75 fl_X10_141 h9101 rfl (fun v hv f9102 => ?_)
            obtain ⟨x9103, hx9103, rfl⟩ := hv
            replace hx9103 : 0 = 0 → x9103 ≠ 0 := hx9103
            refine m_if_eq F e_X10_readChange_78 (fun q78 => ?_) (fun q78 => ?_)
            · first | exact absurd q78 (hx9103 rfl) | contradiction
            · have h9104 := HS.z0 h9101 (f9102) q78
              have h9105 : HS V c _ [0, 2, 4, 5, 6, 7, 8, 9, 10, 11, 14, 15, 16, 17, 18, 19, 20, 21, 22, 23] _ _ := ⟨HR.mono (Z' := Z) (by intro e; first | rfl | assumption | omega) h9104.1, h9104.2⟩
              exact m_vret F hQ e_X10_readChange_81 (⟨P9072, oP9072, (by unfold RP; omega), h9105, rfl⟩)
        · have h9106 : HS V c (⟨T, 0, u, h, P9065, L⟩ : RG) [0, 2, 4, 5, 6, 7, 8, 9, 10, 11, 14, 15, 16, 17, 18, 19, 20, 21, 22, 23] _ _ := ⟨h9067, h9063.2⟩
          refine m_istore_n F (lv' := [(3, .int (nI (n9060 + 1))), (2, .int (nI (n9060 + 1))), (1, .int (nI (8 + P.n7))), (0, .ref c)]) e_X10_readChange_61 (by decide) rfl ?_
          refine m_aload_n F rfl e_X10_readChange_62 ?_
          refine m_sipush F (v := 500) (by decide) e_X10_readChange_63 ?_
          refine m_sipush F (v := 2000) (by decide) e_X10_readChange_66 ?_
          refine r_callV F e_X10_readChange_69 (q_X10_numeral (x_l X) V c T 0 u h P9065 L _ _ 500 2000 h9106.1 (hob) oP9065 (by omega) (by omega)) cb_X10_numeral ml_X10_165 im_X10_numeral se_X10_numeral h9106 rfl rfl (rest := []) rfl (Nat.le_of_ble_eq_true rfl) ⟨Nat.le_of_ble_eq_true rfl, Nat.le_of_ble_eq_true rfl⟩ ⟨Nat.le_of_ble_eq_true rfl, Nat.le_of_ble_eq_true rfl⟩ (fun r σ9107 hp => ?_)
          obtain ⟨P9111, oP9111, rP9111, h9108, c9110⟩ := hp
          have h9109 := HS.trans h9106 h9108 (by decide)
          have xP9111 := oP9111
          unfold OKP at xP9111
          unfold RA at rP9111
          rcases c9110 with ⟨n9112, gn9112, hn9112, rfl⟩ | ⟨h9113, rfl⟩
          · refine m_istore F (lv' := [(4, .int (nI n9112)), (3, .int (nI (n9060 + 1))), (2, .int (nI (n9060 + 1))), (1, .int (nI (8 + P.n7))), (0, .ref c)]) e_X10_readChange_72 (by decide) rfl ?_
            refine m_aload_n F rfl e_X10_readChange_74 ?_
            refine r_get F e_X10_readChange_75 fl_X10_141 h9109 rfl (fun v hv f9114 => ?_)
            obtain ⟨x9115, hx9115, rfl⟩ := hv
            replace hx9115 : 0 = 0 → x9115 ≠ 0 := hx9115
            refine m_if_eq F e_X10_readChange_78 (fun q78 => ?_) (fun q78 => ?_)
            · first | exact absurd q78 (hx9115 rfl) | contradiction
            · have h9116 := HS.z0 h9109 (f9114) q78
              have h9117 : HS V c _ [0, 2, 4, 5, 6, 7, 8, 9, 10, 11, 14, 15, 16, 17, 18, 19, 20, 21, 22, 23] _ _ := ⟨HR.mono (Z' := Z) (by intro e; first | rfl | assumption | omega) h9116.1, h9116.2⟩
              exact m_vret F hQ e_X10_readChange_81 (⟨P9111, oP9111, (by unfold RP; omega), h9117, rfl⟩)
          · have h9118 : HS V c (⟨T, 0, u, h, P9111, L⟩ : RG) [0, 2, 4, 5, 6, 7, 8, 9, 10, 11, 14, 15, 16, 17, 18, 19, 20, 21, 22, 23] _ _ := ⟨h9113, h9109.2⟩
            refine m_istore F (lv' := [(4, .int (nI 500)), (3, .int (nI (n9060 + 1))), (2, .int (nI (n9060 + 1))), (1, .int (nI (8 + P.n7))), (0, .ref c)]) e_X10_readChange_72 (by decide) rfl ?_
            refine m_aload_n F rfl e_X10_readChange_74 ?_
            refine r_get F e_X10_readChange_75 fl_X10_141 h9118 rfl (fun v hv f9119 => ?_)
            obtain ⟨x9120, hx9120, rfl⟩ := hv
            replace hx9120 : 0 = 0 → x9120 ≠ 0 := hx9120
            refine m_if_eq F e_X10_readChange_78 (fun q78 => ?_) (fun q78 => ?_)
            · first | exact absurd q78 (hx9120 rfl) | contradiction
            · have h9121 := HS.z0 h9118 (f9119) q78
              have h9122 : HS V c _ [0, 2, 4, 5, 6, 7, 8, 9, 10, 11, 14, 15, 16, 17, 18, 19, 20, 21, 22, 23] _ _ := ⟨HR.mono (Z' := Z) (by intro e; first | rfl | assumption | omega) h9121.1, h9121.2⟩
              exact m_vret F hQ e_X10_readChange_81 (⟨P9111, oP9111, (by unfold RP; omega), h9122, rfl⟩)
      · have h9123 := HS.z0 h8991 (f9054) q36
        refine m_iconst F (v := 0) (by decide) e_X10_readChange_39 ?_
        refine m_goto F e_X10_readChange_40 ?_
        refine m_istore_n F (lv' := [(2, .int 0), (1, .int (nI (8 + P.n7))), (0, .ref c)]) e_X10_readChange_53 (by decide) rfl ?_
        refine m_aload_n F rfl e_X10_readChange_54 ?_
        refine m_iload_n F rfl e_X10_readChange_55 ?_
        refine m_bipush F (v := 99) (by decide) e_X10_readChange_56 ?_
        refine r_callV F e_X10_readChange_58 (q_X10_numeral (x_l X) V c T 0 u h P8987 L _ _ 0 99 h9123.1 (hob) oP8987 (by omega) (by omega)) cb_X10_numeral ml_X10_165 im_X10_numeral se_X10_numeral h9123 rfl rfl (rest := []) rfl (Nat.le_of_ble_eq_true rfl) ⟨Nat.le_of_ble_eq_true rfl, Nat.le_of_ble_eq_true rfl⟩ ⟨Nat.le_of_ble_eq_true rfl, Nat.le_of_ble_eq_true rfl⟩ (fun r σ9124 hp => ?_)
        obtain ⟨P9128, oP9128, rP9128, h9125, c9127⟩ := hp
        have h9126 := HS.trans h9123 h9125 (by decide)
        have xP9128 := oP9128
        unfold OKP at xP9128
        unfold RA at rP9128
        rcases c9127 with ⟨n9129, gn9129, hn9129, rfl⟩ | ⟨h9130, rfl⟩
        · refine m_istore_n F (lv' := [(3, .int (nI n9129)), (2, .int 0), (1, .int (nI (8 + P.n7))), (0, .ref c)]) e_X10_readChange_61 (by decide) rfl ?_
          refine m_aload_n F rfl e_X10_readChange_62 ?_
          refine m_sipush F (v := 500) (by decide) e_X10_readChange_63 ?_
          refine m_sipush F (v := 2000) (by decide) e_X10_readChange_66 ?_
          refine r_callV F e_X10_readChange_69 (q_X10_numeral (x_l X) V c T 0 u h P9128 L _ _ 500 2000 h9126.1 (hob) oP9128 (by omega) (by omega)) cb_X10_numeral ml_X10_165 im_X10_numeral se_X10_numeral h9126 rfl rfl (rest := []) rfl (Nat.le_of_ble_eq_true rfl) ⟨Nat.le_of_ble_eq_true rfl, Nat.le_of_ble_eq_true rfl⟩ ⟨Nat.le_of_ble_eq_true rfl, Nat.le_of_ble_eq_true rfl⟩ (fun r σ9131 hp => ?_)
          obtain ⟨P9135, oP9135, rP9135, h9132, c9134⟩ := hp
          have h9133 := HS.trans h9126 h9132 (by decide)
          have xP9135 := oP9135
          unfold OKP at xP9135
          unfold RA at rP9135
          rcases c9134 with ⟨n9136, gn9136, hn9136, rfl⟩ | ⟨h9137, rfl⟩
          · refine m_istore F (lv' := [(4, .int (nI n9136)), (3, .int (nI n9129)), (2, .int 0), (1, .int (nI (8 + P.n7))), (0, .ref c)]) e_X10_readChange_72 (by decide) rfl ?_
            refine m_aload_n F rfl e_X10_readChange_74 ?_
            refine r_get F e_X10_readChange_75 fl_X10_141 h9133 rfl (fun v hv f9138 => ?_)
            obtain ⟨x9139, hx9139, rfl⟩ := hv
            replace hx9139 : 0 = 0 → x9139 ≠ 0 := hx9139
            refine m_if_eq F e_X10_readChange_78 (fun q78 => ?_) (fun q78 => ?_)
            · first | exact absurd q78 (hx9139 rfl) | contradiction
            · have h9140 := HS.z0 h9133 (f9138) q78
              have h9141 : HS V c _ [0, 2, 4, 5, 6, 7, 8, 9, 10, 11, 14, 15, 16, 17, 18, 19, 20, 21, 22, 23] _ _ := ⟨HR.mono (Z' := Z) (by intro e; first | rfl | assumption | omega) h9140.1, h9140.2⟩
              exact m_vret F hQ e_X10_readChange_81 (⟨P9135, oP9135, (by unfold RP; omega), h9141, rfl⟩)
          · have h9142 : HS V c (⟨T, 0, u, h, P9135, L⟩ : RG) [0, 2, 4, 5, 6, 7, 8, 9, 10, 11, 14, 15, 16, 17, 18, 19, 20, 21, 22, 23] _ _ := ⟨h9137, h9133.2⟩
            refine m_istore F (lv' := [(4, .int (nI 500)), (3, .int (nI n9129)), (2, .int 0), (1, .int (nI (8 + P.n7))), (0, .ref c)]) e_X10_readChange_72 (by decide) rfl ?_
            refine m_aload_n F rfl e_X10_readChange_74 ?_
            refine r_get F e_X10_readChange_75 fl_X10_141 h9142 rfl (fun v hv f9143 => ?_)
            obtain ⟨x9144, hx9144, rfl⟩ := hv
            replace hx9144 : 0 = 0 → x9144 ≠ 0 := hx9144
            refine m_if_eq F e_X10_readChange_78 (fun q78 => ?_) (fun q78 => ?_)
            · first | exact absurd q78 (hx9144 rfl) | contradiction
            · have h9145 := HS.z0 h9142 (f9143) q78
              have h9146 : HS V c _ [0, 2, 4, 5, 6, 7, 8, 9, 10, 11, 14, 15, 16, 17, 18, 19, 20, 21, 22, 23] _ _ := ⟨HR.mono (Z' := Z) (by intro e; first | rfl | assumption | omega) h9145.1, h9145.2⟩
              exact m_vret F hQ e_X10_readChange_81 (⟨P9135, oP9135, (by unfold RP; omega), h9146, rfl⟩)
        · have h9147 : HS V c (⟨T, 0, u, h, P9128, L⟩ : RG) [0, 2, 4, 5, 6, 7, 8, 9, 10, 11, 14, 15, 16, 17, 18, 19, 20, 21, 22, 23] _ _ := ⟨h9130, h9126.2⟩
          refine m_istore_n F (lv' := [(3, .int (nI 0)), (2, .int 0), (1, .int (nI (8 + P.n7))), (0, .ref c)]) e_X10_readChange_61 (by decide) rfl ?_
          refine m_aload_n F rfl e_X10_readChange_62 ?_
          refine m_sipush F (v := 500) (by decide) e_X10_readChange_63 ?_
          refine m_sipush F (v := 2000) (by decide) e_X10_readChange_66 ?_
          refine r_callV F e_X10_readChange_69 (q_X10_numeral (x_l X) V c T 0 u h P9128 L _ _ 500 2000 h9147.1 (hob) oP9128 (by omega) (by omega)) cb_X10_numeral ml_X10_165 im_X10_numeral se_X10_numeral h9147 rfl rfl (rest := []) rfl (Nat.le_of_ble_eq_true rfl) ⟨Nat.le_of_ble_eq_true rfl, Nat.le_of_ble_eq_true rfl⟩ ⟨Nat.le_of_ble_eq_true rfl, Nat.le_of_ble_eq_true rfl⟩ (fun r σ9148 hp => ?_)
          obtain ⟨P9152, oP9152, rP9152, h9149, c9151⟩ := hp
          have h9150 := HS.trans h9147 h9149 (by decide)
          have xP9152 := oP9152
          unfold OKP at xP9152
          unfold RA at rP9152
          rcases c9151 with ⟨n9153, gn9153, hn9153, rfl⟩ | ⟨h9154, rfl⟩
          · refine m_istore F (lv' := [(4, .int (nI n9153)), (3, .int (nI 0)), (2, .int 0), (1, .int (nI (8 + P.n7))), (0, .ref c)]) e_X10_readChange_72 (by decide) rfl ?_
            refine m_aload_n F rfl e_X10_readChange_74 ?_
            refine r_get F e_X10_readChange_75 fl_X10_141 h9150 rfl (fun v hv f9155 => ?_)
            obtain ⟨x9156, hx9156, rfl⟩ := hv
            replace hx9156 : 0 = 0 → x9156 ≠ 0 := hx9156
            refine m_if_eq F e_X10_readChange_78 (fun q78 => ?_) (fun q78 => ?_)
            · first | exact absurd q78 (hx9156 rfl) | contradiction
            · have h9157 := HS.z0 h9150 (f9155) q78
              have h9158 : HS V c _ [0, 2, 4, 5, 6, 7, 8, 9, 10, 11, 14, 15, 16, 17, 18, 19, 20, 21, 22, 23] _ _ := ⟨HR.mono (Z' := Z) (by intro e; first | rfl | assumption | omega) h9157.1, h9157.2⟩
              exact m_vret F hQ e_X10_readChange_81 (⟨P9152, oP9152, (by unfold RP; omega), h9158, rfl⟩)
          · have h9159 : HS V c (⟨T, 0, u, h, P9152, L⟩ : RG) [0, 2, 4, 5, 6, 7, 8, 9, 10, 11, 14, 15, 16, 17, 18, 19, 20, 21, 22, 23] _ _ := ⟨h9154, h9150.2⟩
            refine m_istore F (lv' := [(4, .int (nI 500)), (3, .int (nI 0)), (2, .int 0), (1, .int (nI (8 + P.n7))), (0, .ref c)]) e_X10_readChange_72 (by decide) rfl ?_
            refine m_aload_n F rfl e_X10_readChange_74 ?_
            refine r_get F e_X10_readChange_75 fl_X10_141 h9159 rfl (fun v hv f9160 => ?_)
            obtain ⟨x9161, hx9161, rfl⟩ := hv
            replace hx9161 : 0 = 0 → x9161 ≠ 0 := hx9161
            refine m_if_eq F e_X10_readChange_78 (fun q78 => ?_) (fun q78 => ?_)
            · first | exact absurd q78 (hx9161 rfl) | contradiction
            · have h9162 := HS.z0 h9159 (f9160) q78
              have h9163 : HS V c _ [0, 2, 4, 5, 6, 7, 8, 9, 10, 11, 14, 15, 16, 17, 18, 19, 20, 21, 22, 23] _ _ := ⟨HR.mono (Z' := Z) (by intro e; first | rfl | assumption | omega) h9162.1, h9162.2⟩
              exact m_vret F hQ e_X10_readChange_81 (⟨P9152, oP9152, (by unfold RP; omega), h9163, rfl⟩)
  · have c12 : (8 + P.n7) = 16 := (nI_eq (a := (8 + P.n7)) (b := 16) (by omega) (by omega)).mp q12
    refine m_aload_n F rfl e_X10_readChange_15 ?_
    refine m_iconst F (v := 2) (by decide) e_X10_readChange_16 ?_
    refine r_callV F e_X10_readChange_17 (q_X10_wrong (x_l X) V c T Z u h P L _ _ 2 h8983.1 (hob) hP (by first | omega | assumption | decide)) cb_X10_wrong ml_X10_150 im_X10_wrong se_X10_wrong h8983 rfl rfl (rest := []) rfl (Nat.le_of_ble_eq_true rfl) ⟨Nat.le_of_ble_eq_true rfl, Nat.le_of_ble_eq_true rfl⟩ ⟨Nat.le_of_ble_eq_true rfl, Nat.le_of_ble_eq_true rfl⟩ (fun r σ9164 hp => ?_)
    obtain ⟨h9165, rfl⟩ := hp
    have h9166 := HS.trans h8983 h9165 (by decide)
    refine m_aload_n F rfl e_X10_readChange_20 ?_
    refine r_callV F e_X10_readChange_21 (q_X10_goOn (x_l X) V c T 0 u h P L _ _  h9166.1 (hob) hP ) cb_X10_goOn ml_X10_154 im_X10_goOn se_X10_goOn h9166 rfl rfl (rest := []) rfl (Nat.le_of_ble_eq_true rfl) ⟨Nat.le_of_ble_eq_true rfl, Nat.le_of_ble_eq_true rfl⟩ ⟨Nat.le_of_ble_eq_true rfl, Nat.le_of_ble_eq_true rfl⟩ (fun r σ9167 hp => ?_)
    obtain ⟨P9170, oP9170, rP9170, pr9171, h9168, rfl⟩ := hp
    have h9169 := HS.trans h9166 h9168 (by decide)
    have xP9170 := oP9170
    unfold OKP at xP9170
    unfold RA at rP9170
    refine m_aload_n F rfl e_X10_readChange_24 ?_
    refine m_iconst F (v := 2) (by decide) e_X10_readChange_25 ?_
    refine r_callV F e_X10_readChange_26 (q_X10_reading2 (x_l X) V c T 0 u h P9170 L _ _  h9169.1 (hob) oP9170 ) cb_X10_reading ml_X10_157 im_X10_reading se_X10_reading h9169 rfl rfl (rest := []) rfl (Nat.le_of_ble_eq_true rfl) ⟨Nat.le_of_ble_eq_true rfl, Nat.le_of_ble_eq_true rfl⟩ ⟨Nat.le_of_ble_eq_true rfl, Nat.le_of_ble_eq_true rfl⟩ (fun r σ9172 hp => ?_)
    obtain ⟨h9173, rfl⟩ := hp
    have h9174 := HS.trans h9169 h9173 (by decide)
    refine m_if_eq F e_X10_readChange_29 (fun q29 => ?_) (fun q29 => ?_)
    · have c29 : P9170.n7 = 0 := (nI_eq (a := P9170.n7) (b := 0) (by omega) (by omega)).mp q29
      refine m_iconst F (v := 0) (by decide) e_X10_readChange_39 ?_
      refine m_goto F e_X10_readChange_40 ?_
      refine m_istore_n F (lv' := [(2, .int 0), (1, .int (nI (8 + P.n7))), (0, .ref c)]) e_X10_readChange_53 (by decide) rfl ?_
      refine m_aload_n F rfl e_X10_readChange_54 ?_
      refine m_iload_n F rfl e_X10_readChange_55 ?_
      refine m_bipush F (v := 99) (by decide) e_X10_readChange_56 ?_
      refine r_callV F e_X10_readChange_58 (q_X10_numeral (x_l X) V c T 0 u h P9170 L _ _ 0 99 h9174.1 (hob) oP9170 (by omega) (by omega)) cb_X10_numeral ml_X10_165 im_X10_numeral se_X10_numeral h9174 rfl rfl (rest := []) rfl (Nat.le_of_ble_eq_true rfl) ⟨Nat.le_of_ble_eq_true rfl, Nat.le_of_ble_eq_true rfl⟩ ⟨Nat.le_of_ble_eq_true rfl, Nat.le_of_ble_eq_true rfl⟩ (fun r σ9175 hp => ?_)
      obtain ⟨P9179, oP9179, rP9179, h9176, c9178⟩ := hp
      have h9177 := HS.trans h9174 h9176 (by decide)
      have xP9179 := oP9179
      unfold OKP at xP9179
      unfold RA at rP9179
      rcases c9178 with ⟨n9180, gn9180, hn9180, rfl⟩ | ⟨h9181, rfl⟩
      · refine m_istore_n F (lv' := [(3, .int (nI n9180)), (2, .int 0), (1, .int (nI (8 + P.n7))), (0, .ref c)]) e_X10_readChange_61 (by decide) rfl ?_
        refine m_aload_n F rfl e_X10_readChange_62 ?_
        refine m_sipush F (v := 500) (by decide) e_X10_readChange_63 ?_
        refine m_sipush F (v := 2000) (by decide) e_X10_readChange_66 ?_
        refine r_callV F e_X10_readChange_69 (q_X10_numeral (x_l X) V c T 0 u h P9179 L _ _ 500 2000 h9177.1 (hob) oP9179 (by omega) (by omega)) cb_X10_numeral ml_X10_165 im_X10_numeral se_X10_numeral h9177 rfl rfl (rest := []) rfl (Nat.le_of_ble_eq_true rfl) ⟨Nat.le_of_ble_eq_true rfl, Nat.le_of_ble_eq_true rfl⟩ ⟨Nat.le_of_ble_eq_true rfl, Nat.le_of_ble_eq_true rfl⟩ (fun r σ9182 hp => ?_)
        obtain ⟨P9186, oP9186, rP9186, h9183, c9185⟩ := hp
        have h9184 := HS.trans h9177 h9183 (by decide)
        have xP9186 := oP9186
        unfold OKP at xP9186
        unfold RA at rP9186
        rcases c9185 with ⟨n9187, gn9187, hn9187, rfl⟩ | ⟨h9188, rfl⟩
        · refine m_istore F (lv' := [(4, .int (nI n9187)), (3, .int (nI n9180)), (2, .int 0), (1, .int (nI (8 + P.n7))), (0, .ref c)]) e_X10_readChange_72 (by decide) rfl ?_
          refine m_aload_n F rfl e_X10_readChange_74 ?_
          refine r_get F e_X10_readChange_75 fl_X10_141 h9184 rfl (fun v hv f9189 => ?_)
          obtain ⟨x9190, hx9190, rfl⟩ := hv
          replace hx9190 : 0 = 0 → x9190 ≠ 0 := hx9190
          refine m_if_eq F e_X10_readChange_78 (fun q78 => ?_) (fun q78 => ?_)
          · first | exact absurd q78 (hx9190 rfl) | contradiction
          · have h9191 := HS.z0 h9184 (f9189) q78
            have h9192 : HS V c _ [0, 2, 4, 5, 6, 7, 8, 9, 10, 11, 14, 15, 16, 17, 18, 19, 20, 21, 22, 23] _ _ := ⟨HR.mono (Z' := Z) (by intro e; first | rfl | assumption | omega) h9191.1, h9191.2⟩
            exact m_vret F hQ e_X10_readChange_81 (⟨P9186, oP9186, (by unfold RP; omega), h9192, rfl⟩)
        · have h9193 : HS V c (⟨T, 0, u, h, P9186, L⟩ : RG) [0, 2, 4, 5, 6, 7, 8, 9, 10, 11, 14, 15, 16, 17, 18, 19, 20, 21, 22, 23] _ _ := ⟨h9188, h9184.2⟩
          refine m_istore F (lv' := [(4, .int (nI 500)), (3, .int (nI n9180)), (2, .int 0), (1, .int (nI (8 + P.n7))), (0, .ref c)]) e_X10_readChange_72 (by decide) rfl ?_
          refine m_aload_n F rfl e_X10_readChange_74 ?_
          refine r_get F e_X10_readChange_75 fl_X10_141 h9193 rfl (fun v hv f9194 => ?_)
          obtain ⟨x9195, hx9195, rfl⟩ := hv
          replace hx9195 : 0 = 0 → x9195 ≠ 0 := hx9195
          refine m_if_eq F e_X10_readChange_78 (fun q78 => ?_) (fun q78 => ?_)
          · first | exact absurd q78 (hx9195 rfl) | contradiction
          · have h9196 := HS.z0 h9193 (f9194) q78
            have h9197 : HS V c _ [0, 2, 4, 5, 6, 7, 8, 9, 10, 11, 14, 15, 16, 17, 18, 19, 20, 21, 22, 23] _ _ := ⟨HR.mono (Z' := Z) (by intro e; first | rfl | assumption | omega) h9196.1, h9196.2⟩
            exact m_vret F hQ e_X10_readChange_81 (⟨P9186, oP9186, (by unfold RP; omega), h9197, rfl⟩)
      · have h9198 : HS V c (⟨T, 0, u, h, P9179, L⟩ : RG) [0, 2, 4, 5, 6, 7, 8, 9, 10, 11, 14, 15, 16, 17, 18, 19, 20, 21, 22, 23] _ _ := ⟨h9181, h9177.2⟩
        refine m_istore_n F (lv' := [(3, .int (nI 0)), (2, .int 0), (1, .int (nI (8 + P.n7))), (0, .ref c)]) e_X10_readChange_61 (by decide) rfl ?_
        refine m_aload_n F rfl e_X10_readChange_62 ?_
        refine m_sipush F (v := 500) (by decide) e_X10_readChange_63 ?_
        refine m_sipush F (v := 2000) (by decide) e_X10_readChange_66 ?_
        refine r_callV F e_X10_readChange_69 (q_X10_numeral (x_l X) V c T 0 u h P9179 L _ _ 500 2000 h9198.1 (hob) oP9179 (by omega) (by omega)) cb_X10_numeral ml_X10_165 im_X10_numeral se_X10_numeral h9198 rfl rfl (rest := []) rfl (Nat.le_of_ble_eq_true rfl) ⟨Nat.le_of_ble_eq_true rfl, Nat.le_of_ble_eq_true rfl⟩ ⟨Nat.le_of_ble_eq_true rfl, Nat.le_of_ble_eq_true rfl⟩ (fun r σ9199 hp => ?_)
        obtain ⟨P9203, oP9203, rP9203, h9200, c9202⟩ := hp
        have h9201 := HS.trans h9198 h9200 (by decide)
        have xP9203 := oP9203
        unfold OKP at xP9203
        unfold RA at rP9203
        rcases c9202 with ⟨n9204, gn9204, hn9204, rfl⟩ | ⟨h9205, rfl⟩
        · refine m_istore F (lv' := [(4, .int (nI n9204)), (3, .int (nI 0)), (2, .int 0), (1, .int (nI (8 + P.n7))), (0, .ref c)]) e_X10_readChange_72 (by decide) rfl ?_
          refine m_aload_n F rfl e_X10_readChange_74 ?_
          refine r_get F e_X10_readChange_75 fl_X10_141 h9201 rfl (fun v hv f9206 => ?_)
          obtain ⟨x9207, hx9207, rfl⟩ := hv
          replace hx9207 : 0 = 0 → x9207 ≠ 0 := hx9207
          refine m_if_eq F e_X10_readChange_78 (fun q78 => ?_) (fun q78 => ?_)
          · first | exact absurd q78 (hx9207 rfl) | contradiction
          · have h9208 := HS.z0 h9201 (f9206) q78
            have h9209 : HS V c _ [0, 2, 4, 5, 6, 7, 8, 9, 10, 11, 14, 15, 16, 17, 18, 19, 20, 21, 22, 23] _ _ := ⟨HR.mono (Z' := Z) (by intro e; first | rfl | assumption | omega) h9208.1, h9208.2⟩
            exact m_vret F hQ e_X10_readChange_81 (⟨P9203, oP9203, (by unfold RP; omega), h9209, rfl⟩)
        · have h9210 : HS V c (⟨T, 0, u, h, P9203, L⟩ : RG) [0, 2, 4, 5, 6, 7, 8, 9, 10, 11, 14, 15, 16, 17, 18, 19, 20, 21, 22, 23] _ _ := ⟨h9205, h9201.2⟩
          refine m_istore F (lv' := [(4, .int (nI 500)), (3, .int (nI 0)), (2, .int 0), (1, .int (nI (8 + P.n7))), (0, .ref c)]) e_X10_readChange_72 (by decide) rfl ?_
          refine m_aload_n F rfl e_X10_readChange_74 ?_
          refine r_get F e_X10_readChange_75 fl_X10_141 h9210 rfl (fun v hv f9211 => ?_)
          obtain ⟨x9212, hx9212, rfl⟩ := hv
          replace hx9212 : 0 = 0 → x9212 ≠ 0 := hx9212
          refine m_if_eq F e_X10_readChange_78 (fun q78 => ?_) (fun q78 => ?_)
          · first | exact absurd q78 (hx9212 rfl) | contradiction
          · have h9213 := HS.z0 h9210 (f9211) q78
            have h9214 : HS V c _ [0, 2, 4, 5, 6, 7, 8, 9, 10, 11, 14, 15, 16, 17, 18, 19, 20, 21, 22, 23] _ _ := ⟨HR.mono (Z' := Z) (by intro e; first | rfl | assumption | omega) h9213.1, h9213.2⟩
            exact m_vret F hQ e_X10_readChange_81 (⟨P9203, oP9203, (by unfold RP; omega), h9214, rfl⟩)
    · have c29 : P9170.n7 ≠ 0 := by have hh := mt (nI_eq (a := P9170.n7) (b := 0) (by omega) (by omega)).mpr q29; omega
      refine m_aload_n F rfl e_X10_readChange_32 ?_
      refine r_get F e_X10_readChange_33 fl_X10_141 h9174 rfl (fun v hv f9215 => ?_)
      obtain ⟨x9216, hx9216, rfl⟩ := hv
      replace hx9216 : 0 = 0 → x9216 ≠ 0 := hx9216
      refine m_if_eq F e_X10_readChange_36 (fun q36 => ?_) (fun q36 => ?_)
      · first | exact absurd q36 (hx9216 rfl) | contradiction
      · have h9217 := HS.z0 h9174 (f9215) q36
        refine m_iconst F (v := 0) (by decide) e_X10_readChange_39 ?_
        refine m_goto F e_X10_readChange_40 ?_
        refine m_istore_n F (lv' := [(2, .int 0), (1, .int (nI (8 + P.n7))), (0, .ref c)]) e_X10_readChange_53 (by decide) rfl ?_
        refine m_aload_n F rfl e_X10_readChange_54 ?_
        refine m_iload_n F rfl e_X10_readChange_55 ?_
        refine m_bipush F (v := 99) (by decide) e_X10_readChange_56 ?_
        refine r_callV F e_X10_readChange_58 (q_X10_numeral (x_l X) V c T 0 u h P9170 L _ _ 0 99 h9217.1 (hob) oP9170 (by omega) (by omega)) cb_X10_numeral ml_X10_165 im_X10_numeral se_X10_numeral h9217 rfl rfl (rest := []) rfl (Nat.le_of_ble_eq_true rfl) ⟨Nat.le_of_ble_eq_true rfl, Nat.le_of_ble_eq_true rfl⟩ ⟨Nat.le_of_ble_eq_true rfl, Nat.le_of_ble_eq_true rfl⟩ (fun r σ9218 hp => ?_)
        obtain ⟨P9222, oP9222, rP9222, h9219, c9221⟩ := hp
        have h9220 := HS.trans h9217 h9219 (by decide)
        have xP9222 := oP9222
        unfold OKP at xP9222
        unfold RA at rP9222
        rcases c9221 with ⟨n9223, gn9223, hn9223, rfl⟩ | ⟨h9224, rfl⟩
        · refine m_istore_n F (lv' := [(3, .int (nI n9223)), (2, .int 0), (1, .int (nI (8 + P.n7))), (0, .ref c)]) e_X10_readChange_61 (by decide) rfl ?_
          refine m_aload_n F rfl e_X10_readChange_62 ?_
          refine m_sipush F (v := 500) (by decide) e_X10_readChange_63 ?_
          refine m_sipush F (v := 2000) (by decide) e_X10_readChange_66 ?_
          refine r_callV F e_X10_readChange_69 (q_X10_numeral (x_l X) V c T 0 u h P9222 L _ _ 500 2000 h9220.1 (hob) oP9222 (by omega) (by omega)) cb_X10_numeral ml_X10_165 im_X10_numeral se_X10_numeral h9220 rfl rfl (rest := []) rfl (Nat.le_of_ble_eq_true rfl) ⟨Nat.le_of_ble_eq_true rfl, Nat.le_of_ble_eq_true rfl⟩ ⟨Nat.le_of_ble_eq_true rfl, Nat.le_of_ble_eq_true rfl⟩ (fun r σ9225 hp => ?_)
          obtain ⟨P9229, oP9229, rP9229, h9226, c9228⟩ := hp
          have h9227 := HS.trans h9220 h9226 (by decide)
          have xP9229 := oP9229
          unfold OKP at xP9229
          unfold RA at rP9229
          rcases c9228 with ⟨n9230, gn9230, hn9230, rfl⟩ | ⟨h9231, rfl⟩
          · refine m_istore F (lv' := [(4, .int (nI n9230)), (3, .int (nI n9223)), (2, .int 0), (1, .int (nI (8 + P.n7))), (0, .ref c)]) e_X10_readChange_72 (by decide) rfl ?_
            refine m_aload_n F rfl e_X10_readChange_74 ?_
            refine r_get F e_X10_readChange_75 fl_X10_141 h9227 rfl (fun v hv f9232 => ?_)
            obtain ⟨x9233, hx9233, rfl⟩ := hv
            replace hx9233 : 0 = 0 → x9233 ≠ 0 := hx9233
            refine m_if_eq F e_X10_readChange_78 (fun q78 => ?_) (fun q78 => ?_)
            · first | exact absurd q78 (hx9233 rfl) | contradiction
            · have h9234 := HS.z0 h9227 (f9232) q78
              have h9235 : HS V c _ [0, 2, 4, 5, 6, 7, 8, 9, 10, 11, 14, 15, 16, 17, 18, 19, 20, 21, 22, 23] _ _ := ⟨HR.mono (Z' := Z) (by intro e; first | rfl | assumption | omega) h9234.1, h9234.2⟩
              exact m_vret F hQ e_X10_readChange_81 (⟨P9229, oP9229, (by unfold RP; omega), h9235, rfl⟩)
          · have h9236 : HS V c (⟨T, 0, u, h, P9229, L⟩ : RG) [0, 2, 4, 5, 6, 7, 8, 9, 10, 11, 14, 15, 16, 17, 18, 19, 20, 21, 22, 23] _ _ := ⟨h9231, h9227.2⟩
            refine m_istore F (lv' := [(4, .int (nI 500)), (3, .int (nI n9223)), (2, .int 0), (1, .int (nI (8 + P.n7))), (0, .ref c)]) e_X10_readChange_72 (by decide) rfl ?_
            refine m_aload_n F rfl e_X10_readChange_74 ?_
            refine r_get F e_X10_readChange_75 fl_X10_141 h9236 rfl (fun v hv f9237 => ?_)
            obtain ⟨x9238, hx9238, rfl⟩ := hv
            replace hx9238 : 0 = 0 → x9238 ≠ 0 := hx9238
            refine m_if_eq F e_X10_readChange_78 (fun q78 => ?_) (fun q78 => ?_)
            · first | exact absurd q78 (hx9238 rfl) | contradiction
            · have h9239 := HS.z0 h9236 (f9237) q78
              have h9240 : HS V c _ [0, 2, 4, 5, 6, 7, 8, 9, 10, 11, 14, 15, 16, 17, 18, 19, 20, 21, 22, 23] _ _ := ⟨HR.mono (Z' := Z) (by intro e; first | rfl | assumption | omega) h9239.1, h9239.2⟩
              exact m_vret F hQ e_X10_readChange_81 (⟨P9229, oP9229, (by unfold RP; omega), h9240, rfl⟩)
        · have h9241 : HS V c (⟨T, 0, u, h, P9222, L⟩ : RG) [0, 2, 4, 5, 6, 7, 8, 9, 10, 11, 14, 15, 16, 17, 18, 19, 20, 21, 22, 23] _ _ := ⟨h9224, h9220.2⟩
          refine m_istore_n F (lv' := [(3, .int (nI 0)), (2, .int 0), (1, .int (nI (8 + P.n7))), (0, .ref c)]) e_X10_readChange_61 (by decide) rfl ?_
          refine m_aload_n F rfl e_X10_readChange_62 ?_
          refine m_sipush F (v := 500) (by decide) e_X10_readChange_63 ?_
          refine m_sipush F (v := 2000) (by decide) e_X10_readChange_66 ?_
          refine r_callV F e_X10_readChange_69 (q_X10_numeral (x_l X) V c T 0 u h P9222 L _ _ 500 2000 h9241.1 (hob) oP9222 (by omega) (by omega)) cb_X10_numeral ml_X10_165 im_X10_numeral se_X10_numeral h9241 rfl rfl (rest := []) rfl (Nat.le_of_ble_eq_true rfl) ⟨Nat.le_of_ble_eq_true rfl, Nat.le_of_ble_eq_true rfl⟩ ⟨Nat.le_of_ble_eq_true rfl, Nat.le_of_ble_eq_true rfl⟩ (fun r σ9242 hp => ?_)
          obtain ⟨P9246, oP9246, rP9246, h9243, c9245⟩ := hp
          have h9244 := HS.trans h9241 h9243 (by decide)
          have xP9246 := oP9246
          unfold OKP at xP9246
          unfold RA at rP9246
          rcases c9245 with ⟨n9247, gn9247, hn9247, rfl⟩ | ⟨h9248, rfl⟩
          · refine m_istore F (lv' := [(4, .int (nI n9247)), (3, .int (nI 0)), (2, .int 0), (1, .int (nI (8 + P.n7))), (0, .ref c)]) e_X10_readChange_72 (by decide) rfl ?_
            refine m_aload_n F rfl e_X10_readChange_74 ?_
            refine r_get F e_X10_readChange_75 fl_X10_141 h9244 rfl (fun v hv f9249 => ?_)
            obtain ⟨x9250, hx9250, rfl⟩ := hv
            replace hx9250 : 0 = 0 → x9250 ≠ 0 := hx9250
            refine m_if_eq F e_X10_readChange_78 (fun q78 => ?_) (fun q78 => ?_)
            · first | exact absurd q78 (hx9250 rfl) | contradiction
            · have h9251 := HS.z0 h9244 (f9249) q78
              have h9252 : HS V c _ [0, 2, 4, 5, 6, 7, 8, 9, 10, 11, 14, 15, 16, 17, 18, 19, 20, 21, 22, 23] _ _ := ⟨HR.mono (Z' := Z) (by intro e; first | rfl | assumption | omega) h9251.1, h9251.2⟩
              exact m_vret F hQ e_X10_readChange_81 (⟨P9246, oP9246, (by unfold RP; omega), h9252, rfl⟩)
          · have h9253 : HS V c (⟨T, 0, u, h, P9246, L⟩ : RG) [0, 2, 4, 5, 6, 7, 8, 9, 10, 11, 14, 15, 16, 17, 18, 19, 20, 21, 22, 23] _ _ := ⟨h9248, h9244.2⟩
            refine m_istore F (lv' := [(4, .int (nI 500)), (3, .int (nI 0)), (2, .int 0), (1, .int (nI (8 + P.n7))), (0, .ref c)]) e_X10_readChange_72 (by decide) rfl ?_
            refine m_aload_n F rfl e_X10_readChange_74 ?_
            refine r_get F e_X10_readChange_75 fl_X10_141 h9253 rfl (fun v hv f9254 => ?_)
            obtain ⟨x9255, hx9255, rfl⟩ := hv
            replace hx9255 : 0 = 0 → x9255 ≠ 0 := hx9255
            refine m_if_eq F e_X10_readChange_78 (fun q78 => ?_) (fun q78 => ?_)
            · first | exact absurd q78 (hx9255 rfl) | contradiction
            · have h9256 := HS.z0 h9253 (f9254) q78
              have h9257 : HS V c _ [0, 2, 4, 5, 6, 7, 8, 9, 10, 11, 14, 15, 16, 17, 18, 19, 20, 21, 22, 23] _ _ := ⟨HR.mono (Z' := Z) (by intro e; first | rfl | assumption | omega) h9256.1, h9256.2⟩
              exact m_vret F hQ e_X10_readChange_81 (⟨P9246, oP9246, (by unfold RP; omega), h9257, rfl⟩)
set_option maxRecDepth 20000 in
theorem q_X10_readOption (l : Launch) (V : VX) (c T Z u h : Nat) (P : NP) (L : Nat → LQ) (N : Nat) (σ : Mem)  (h0 : HR V c ⟨T, Z, u, h, P, L⟩ σ) (hob : OKB L) (hP : OKP P)  : Ct l V yX10_readOption cX10_readOption 5 none 8 0 0 N σ [.ref c] (fun r τ => ∃ P9 : NP, OKP P9 ∧ RP P P9 ∧ HS V c (⟨T, Z, u, h, P9, L⟩ : RG) [0, 2, 4, 5, 6, 7, 8, 9, 10, 11, 12, 13, 17, 18, 19, 20, 21, 22, 23] σ τ ∧ r = none) := by
  refine Ct.of (by decide) (Nat.le_of_ble_eq_true rfl) [(0, .ref c)] rfl (fun X hX F hQ => ?_)
  have hPP := hP
  unfold OKP at hPP
  have h1 : HS V c ⟨T, Z, u, h, P, L⟩ [0, 2, 4, 5, 6, 7, 8, 9, 10, 11, 12, 13, 17, 18, 19, 20, 21, 22, 23] σ σ := HS.start h0
  refine m_iconst F (v := 4) (by decide) e_X10_readOption_0 ?_
  refine m_aload_n F rfl e_X10_readOption_1 ?_
  refine m_iconst F (v := 3) (by decide) e_X10_readOption_2 ?_
  refine r_callV F e_X10_readOption_3 (q_X10_reading3 (x_l X) V c T Z u h P L _ _  h1.1 (hob) hP ) cb_X10_reading ml_X10_157 im_X10_reading se_X10_reading h1 rfl rfl (rest := [.int 4]) rfl (Nat.le_of_ble_eq_true rfl) ⟨Nat.le_of_ble_eq_true rfl, Nat.le_of_ble_eq_true rfl⟩ ⟨Nat.le_of_ble_eq_true rfl, Nat.le_of_ble_eq_true rfl⟩ (fun r σ9258 hp => ?_)
  obtain ⟨h9259, n9261, hn9261, f9262, rfl⟩ := hp
  have h9260 := HS.trans h1 h9259 (by decide)
  refine m_iadd F e_X10_readOption_6 ?_
  refine Wm.topE (w := nI (4 + n9261)) (nI_add 4 n9261) ?_
  refine m_istore_n F (lv' := [(1, .int (nI (4 + n9261))), (0, .ref c)]) e_X10_readOption_7 (by decide) rfl ?_
  refine m_iload_n F rfl e_X10_readOption_8 ?_
  refine m_bipush F (v := 8) (by decide) e_X10_readOption_9 ?_
  refine m_icmp_ne F e_X10_readOption_11 (fun q11 => ?_) (fun q11 => ?_)
  · have c11 : (4 + n9261) ≠ 8 := by have hh := mt (nI_eq (a := (4 + n9261)) (b := 8) (by omega) (by omega)).mpr q11; omega
    refine m_aload_n F rfl e_X10_readOption_19 ?_
    refine r_callV F e_X10_readOption_20 (q_X10_atHand (x_l X) V c T Z u h P L _ _  h9260.1 (hob) hP ) cb_X10_atHand ml_X10_174 im_X10_atHand se_X10_atHand h9260 rfl rfl (rest := []) rfl (Nat.le_of_ble_eq_true rfl) ⟨Nat.le_of_ble_eq_true rfl, Nat.le_of_ble_eq_true rfl⟩ ⟨Nat.le_of_ble_eq_true rfl, Nat.le_of_ble_eq_true rfl⟩ (fun r σ9263 hp => ?_)
    obtain ⟨P9267, oP9267, rP9267, h9264, n9266, gn9266, hn9266, rfl⟩ := hp
    have h9265 := HS.trans h9260 h9264 (by decide)
    have xP9267 := oP9267
    unfold OKP at xP9267
    unfold RA at rP9267
    refine m_istore_n F (lv' := [(2, .int (nI n9266)), (1, .int (nI (4 + n9261))), (0, .ref c)]) e_X10_readOption_23 (by decide) rfl ?_
    refine m_aload_n F rfl e_X10_readOption_24 ?_
    refine r_callV F e_X10_readOption_25 (q_X10_goOn (x_l X) V c T Z u h P9267 L _ _  h9265.1 (hob) oP9267 ) cb_X10_goOn ml_X10_154 im_X10_goOn se_X10_goOn h9265 rfl rfl (rest := []) rfl (Nat.le_of_ble_eq_true rfl) ⟨Nat.le_of_ble_eq_true rfl, Nat.le_of_ble_eq_true rfl⟩ ⟨Nat.le_of_ble_eq_true rfl, Nat.le_of_ble_eq_true rfl⟩ (fun r σ9268 hp => ?_)
    obtain ⟨P9271, oP9271, rP9271, pr9272, h9269, rfl⟩ := hp
    have h9270 := HS.trans h9265 h9269 (by decide)
    have xP9271 := oP9271
    unfold OKP at xP9271
    unfold RA at rP9271
    refine m_aload_n F rfl e_X10_readOption_28 ?_
    refine m_iconst F (v := 1) (by decide) e_X10_readOption_29 ?_
    refine m_bipush F (v := 24) (by decide) e_X10_readOption_30 ?_
    refine r_callV F e_X10_readOption_32 (q_X10_numeral (x_l X) V c T Z u h P9271 L _ _ 1 24 h9270.1 (hob) oP9271 (by omega) (by omega)) cb_X10_numeral ml_X10_165 im_X10_numeral se_X10_numeral h9270 rfl rfl (rest := []) rfl (Nat.le_of_ble_eq_true rfl) ⟨Nat.le_of_ble_eq_true rfl, Nat.le_of_ble_eq_true rfl⟩ ⟨Nat.le_of_ble_eq_true rfl, Nat.le_of_ble_eq_true rfl⟩ (fun r σ9273 hp => ?_)
    obtain ⟨P9277, oP9277, rP9277, h9274, c9276⟩ := hp
    have h9275 := HS.trans h9270 h9274 (by decide)
    have xP9277 := oP9277
    unfold OKP at xP9277
    unfold RA at rP9277
    rcases c9276 with ⟨n9278, gn9278, hn9278, rfl⟩ | ⟨h9279, rfl⟩
    · refine m_istore_n F (lv' := [(3, .int (nI n9278)), (2, .int (nI n9266)), (1, .int (nI (4 + n9261))), (0, .ref c)]) e_X10_readOption_35 (by decide) rfl ?_
      refine m_aload_n F rfl e_X10_readOption_36 ?_
      refine m_iconst F (v := 0) (by decide) e_X10_readOption_37 ?_
      refine m_ldc F kc_X10_177 e_X10_readOption_38 ?_
      refine r_callV F e_X10_readOption_40 (q_X10_numeral (x_l X) V c T Z u h P9277 L _ _ 0 99999 h9275.1 (hob) oP9277 (by omega) (by omega)) cb_X10_numeral ml_X10_165 im_X10_numeral se_X10_numeral h9275 rfl rfl (rest := []) rfl (Nat.le_of_ble_eq_true rfl) ⟨Nat.le_of_ble_eq_true rfl, Nat.le_of_ble_eq_true rfl⟩ ⟨Nat.le_of_ble_eq_true rfl, Nat.le_of_ble_eq_true rfl⟩ (fun r σ9280 hp => ?_)
      obtain ⟨P9284, oP9284, rP9284, h9281, c9283⟩ := hp
      have h9282 := HS.trans h9275 h9281 (by decide)
      have xP9284 := oP9284
      unfold OKP at xP9284
      unfold RA at rP9284
      rcases c9283 with ⟨n9285, gn9285, hn9285, rfl⟩ | ⟨h9286, rfl⟩
      · refine m_istore F (lv' := [(4, .int (nI n9285)), (3, .int (nI n9278)), (2, .int (nI n9266)), (1, .int (nI (4 + n9261))), (0, .ref c)]) e_X10_readOption_43 (by decide) rfl ?_
        refine m_aload_n F rfl e_X10_readOption_45 ?_
        refine r_get F e_X10_readOption_46 fl_X10_141 h9282 rfl (fun v hv f9287 => ?_)
        obtain ⟨x9288, hx9288, rfl⟩ := hv
        replace hx9288 : Z = 0 → x9288 ≠ 0 := hx9288
        refine m_if_eq F e_X10_readOption_49 (fun q49 => ?_) (fun q49 => ?_)
        · subst q49
          refine m_aload_n F rfl e_X10_readOption_53 ?_
          refine r_get F e_X10_readOption_54 fl_X10_46 h9282 rfl (fun v hv f9289 => ?_)
          obtain rfl : v = .ref (c + 13) := hv
          refine m_iload_n F rfl e_X10_readOption_57 ?_
          refine m_iload_n F rfl e_X10_readOption_58 ?_
          refine m_iconst F (v := 4) (by decide) e_X10_readOption_59 ?_
          refine m_isub F e_X10_readOption_60 ?_
          refine Wm.topE (w := nI (n9266 - 4)) (pk_sub (a := n9266) (b := 4) (by omega)) ?_
          refine r_iast F (g' := (⟨T, Z, u, h, P9284, L⟩ : RG)) (len := 8) (j := 4 + n9261) e_X10_readOption_61 h9282 (fun _ h => h) (fun f h => ⟨f, rfl, h⟩) (by decide) (by decide) (nI_clamp (by omega)) (vp_in_nI (by omega) (by decide)) ⟨n9266 - 4, by omega, rfl⟩ (fun _ _ _ h => h) (fun _ _ _ h => h) (fun σ9290 h9291 g9292 f9293 g9294 => ?_)
          refine m_aload_n F rfl e_X10_readOption_62 ?_
          refine r_get F e_X10_readOption_63 fl_X10_49 h9291 rfl (fun v hv f9295 => ?_)
          obtain rfl : v = .ref (c + 14) := hv
          refine m_iload_n F rfl e_X10_readOption_66 ?_
          refine m_iload_n F rfl e_X10_readOption_67 ?_
          refine r_iast F (g' := (⟨T, Z, u, h, P9284, L⟩ : RG)) (len := 8) (j := 4 + n9261) e_X10_readOption_68 h9291 (fun _ h => h) (fun f h => ⟨f, rfl, h⟩) (by decide) (by decide) (nI_clamp (by omega)) (vp_in_nI (by omega) (by decide)) ⟨n9278, by omega, rfl⟩ (fun _ _ _ h => h) (fun _ _ _ h => h) (fun σ9296 h9297 g9298 f9299 g9300 => ?_)
          refine m_aload_n F rfl e_X10_readOption_69 ?_
          refine r_get F e_X10_readOption_70 fl_X10_52 h9297 rfl (fun v hv f9301 => ?_)
          obtain rfl : v = .ref (c + 15) := hv
          refine m_iload_n F rfl e_X10_readOption_73 ?_
          refine m_iload F rfl e_X10_readOption_74 ?_
          refine r_iast F (g' := (⟨T, Z, u, h, P9284, L⟩ : RG)) (len := 8) (j := 4 + n9261) e_X10_readOption_76 h9297 (fun _ h => h) (fun f h => ⟨f, rfl, h⟩) (by decide) (by decide) (nI_clamp (by omega)) (vp_in_nI (by omega) (by decide)) trivial (fun _ _ _ h => h) (fun _ _ _ h => h) (fun σ9302 h9303 g9304 f9305 g9306 => ?_)
          refine m_aload_n F rfl e_X10_readOption_77 ?_
          refine m_iconst F (v := 3) (by decide) e_X10_readOption_78 ?_
          refine m_aload_n F rfl e_X10_readOption_79 ?_
          refine m_iconst F (v := 3) (by decide) e_X10_readOption_80 ?_
          refine r_callV F e_X10_readOption_81 (q_X10_reading3 (x_l X) V c T Z u h P9284 L _ _  h9303.1 (hob) oP9284 ) cb_X10_reading ml_X10_157 im_X10_reading se_X10_reading h9303 rfl rfl (rest := [.int 3, .ref c]) rfl (Nat.le_of_ble_eq_true rfl) ⟨Nat.le_of_ble_eq_true rfl, Nat.le_of_ble_eq_true rfl⟩ ⟨Nat.le_of_ble_eq_true rfl, Nat.le_of_ble_eq_true rfl⟩ (fun r σ9307 hp => ?_)
          obtain ⟨h9308, n9310, hn9310, f9311, rfl⟩ := hp
          have h9309 := HS.trans h9303 h9308 (by decide)
          have gn9310 := nI_inj (by omega) (by omega) (Option.some.inj ((f9311).symm.trans ((elI_eq (h9308.2 (c + 2) (by rw [kC_at (k := 2) (by decide)]; decide))).trans ((elI_eq (g9304 _ (by omega))).trans ((elI_eq (g9298 _ (by omega))).trans ((elI_eq (g9292 _ (by omega))).trans ((elI_eq (h9281.2 (c + 2) (by rw [kC_at (k := 2) (by decide)]; decide))).trans ((elI_eq (h9274.2 (c + 2) (by rw [kC_at (k := 2) (by decide)]; decide))).trans ((elI_eq (h9269.2 (c + 2) (by rw [kC_at (k := 2) (by decide)]; decide))).trans ((elI_eq (h9264.2 (c + 2) (by rw [kC_at (k := 2) (by decide)]; decide))).trans f9262))))))))))
          refine m_iconst F (v := 1) (by decide) e_X10_readOption_84 ?_
          refine m_iadd F e_X10_readOption_85 ?_
          refine Wm.topE (w := nI (n9310 + 1)) (nI_add n9310 1) ?_
          refine r_callV F e_X10_readOption_86 (q_X10_reads3 (x_l X) V c T Z u h P9284 L _ _ (n9310 + 1) h9309.1 (hob) oP9284 (by omega)) cb_X10_reads ml_X10_170 im_X10_reads se_X10_reads h9309 rfl rfl (rest := []) rfl (Nat.le_of_ble_eq_true rfl) ⟨Nat.le_of_ble_eq_true rfl, Nat.le_of_ble_eq_true rfl⟩ ⟨Nat.le_of_ble_eq_true rfl, Nat.le_of_ble_eq_true rfl⟩ (fun r σ9312 hp => ?_)
          obtain ⟨h9313, rfl⟩ := hp
          have h9314 := HS.trans h9309 h9313 (by decide)
          exact m_vret F hQ e_X10_readOption_89 (⟨P9284, oP9284, (by unfold RP; omega), h9314, rfl⟩)
        · have h9315 := HS.z0 h9282 (f9287) q49
          have h9316 : HS V c _ [0, 2, 4, 5, 6, 7, 8, 9, 10, 11, 12, 13, 17, 18, 19, 20, 21, 22, 23] _ _ := ⟨HR.mono (Z' := Z) (by intro e; first | rfl | assumption | omega) h9315.1, h9315.2⟩
          exact m_vret F hQ e_X10_readOption_52 (⟨P9284, oP9284, (by unfold RP; omega), h9316, rfl⟩)
      · have h9317 : HS V c (⟨T, 0, u, h, P9284, L⟩ : RG) [0, 2, 4, 5, 6, 7, 8, 9, 10, 11, 12, 13, 17, 18, 19, 20, 21, 22, 23] _ _ := ⟨h9286, h9282.2⟩
        refine m_istore F (lv' := [(4, .int (nI 0)), (3, .int (nI n9278)), (2, .int (nI n9266)), (1, .int (nI (4 + n9261))), (0, .ref c)]) e_X10_readOption_43 (by decide) rfl ?_
        refine m_aload_n F rfl e_X10_readOption_45 ?_
        refine r_get F e_X10_readOption_46 fl_X10_141 h9317 rfl (fun v hv f9318 => ?_)
        obtain ⟨x9319, hx9319, rfl⟩ := hv
        replace hx9319 : 0 = 0 → x9319 ≠ 0 := hx9319
        refine m_if_eq F e_X10_readOption_49 (fun q49 => ?_) (fun q49 => ?_)
        · first | exact absurd q49 (hx9319 rfl) | contradiction
        · have h9320 := HS.z0 h9317 (f9318) q49
          have h9321 : HS V c _ [0, 2, 4, 5, 6, 7, 8, 9, 10, 11, 12, 13, 17, 18, 19, 20, 21, 22, 23] _ _ := ⟨HR.mono (Z' := Z) (by intro e; first | rfl | assumption | omega) h9320.1, h9320.2⟩
          exact m_vret F hQ e_X10_readOption_52 (⟨P9284, oP9284, (by unfold RP; omega), h9321, rfl⟩)
    · have h9322 : HS V c (⟨T, 0, u, h, P9277, L⟩ : RG) [0, 2, 4, 5, 6, 7, 8, 9, 10, 11, 12, 13, 17, 18, 19, 20, 21, 22, 23] _ _ := ⟨h9279, h9275.2⟩
      refine m_istore_n F (lv' := [(3, .int (nI 1)), (2, .int (nI n9266)), (1, .int (nI (4 + n9261))), (0, .ref c)]) e_X10_readOption_35 (by decide) rfl ?_
      refine m_aload_n F rfl e_X10_readOption_36 ?_
      refine m_iconst F (v := 0) (by decide) e_X10_readOption_37 ?_
      refine m_ldc F kc_X10_177 e_X10_readOption_38 ?_
      refine r_callV F e_X10_readOption_40 (q_X10_numeral (x_l X) V c T 0 u h P9277 L _ _ 0 99999 h9322.1 (hob) oP9277 (by omega) (by omega)) cb_X10_numeral ml_X10_165 im_X10_numeral se_X10_numeral h9322 rfl rfl (rest := []) rfl (Nat.le_of_ble_eq_true rfl) ⟨Nat.le_of_ble_eq_true rfl, Nat.le_of_ble_eq_true rfl⟩ ⟨Nat.le_of_ble_eq_true rfl, Nat.le_of_ble_eq_true rfl⟩ (fun r σ9323 hp => ?_)
      obtain ⟨P9327, oP9327, rP9327, h9324, c9326⟩ := hp
      have h9325 := HS.trans h9322 h9324 (by decide)
      have xP9327 := oP9327
      unfold OKP at xP9327
      unfold RA at rP9327
      rcases c9326 with ⟨n9328, gn9328, hn9328, rfl⟩ | ⟨h9329, rfl⟩
      · refine m_istore F (lv' := [(4, .int (nI n9328)), (3, .int (nI 1)), (2, .int (nI n9266)), (1, .int (nI (4 + n9261))), (0, .ref c)]) e_X10_readOption_43 (by decide) rfl ?_
        refine m_aload_n F rfl e_X10_readOption_45 ?_
        refine r_get F e_X10_readOption_46 fl_X10_141 h9325 rfl (fun v hv f9330 => ?_)
        obtain ⟨x9331, hx9331, rfl⟩ := hv
        replace hx9331 : 0 = 0 → x9331 ≠ 0 := hx9331
        refine m_if_eq F e_X10_readOption_49 (fun q49 => ?_) (fun q49 => ?_)
        · first | exact absurd q49 (hx9331 rfl) | contradiction
        · have h9332 := HS.z0 h9325 (f9330) q49
          have h9333 : HS V c _ [0, 2, 4, 5, 6, 7, 8, 9, 10, 11, 12, 13, 17, 18, 19, 20, 21, 22, 23] _ _ := ⟨HR.mono (Z' := Z) (by intro e; first | rfl | assumption | omega) h9332.1, h9332.2⟩
          exact m_vret F hQ e_X10_readOption_52 (⟨P9327, oP9327, (by unfold RP; omega), h9333, rfl⟩)
      · have h9334 : HS V c (⟨T, 0, u, h, P9327, L⟩ : RG) [0, 2, 4, 5, 6, 7, 8, 9, 10, 11, 12, 13, 17, 18, 19, 20, 21, 22, 23] _ _ := ⟨h9329, h9325.2⟩
        refine m_istore F (lv' := [(4, .int (nI 0)), (3, .int (nI 1)), (2, .int (nI n9266)), (1, .int (nI (4 + n9261))), (0, .ref c)]) e_X10_readOption_43 (by decide) rfl ?_
        refine m_aload_n F rfl e_X10_readOption_45 ?_
        refine r_get F e_X10_readOption_46 fl_X10_141 h9334 rfl (fun v hv f9335 => ?_)
        obtain ⟨x9336, hx9336, rfl⟩ := hv
        replace hx9336 : 0 = 0 → x9336 ≠ 0 := hx9336
        refine m_if_eq F e_X10_readOption_49 (fun q49 => ?_) (fun q49 => ?_)
        · first | exact absurd q49 (hx9336 rfl) | contradiction
        · have h9337 := HS.z0 h9334 (f9335) q49
          have h9338 : HS V c _ [0, 2, 4, 5, 6, 7, 8, 9, 10, 11, 12, 13, 17, 18, 19, 20, 21, 22, 23] _ _ := ⟨HR.mono (Z' := Z) (by intro e; first | rfl | assumption | omega) h9337.1, h9337.2⟩
          exact m_vret F hQ e_X10_readOption_52 (⟨P9327, oP9327, (by unfold RP; omega), h9338, rfl⟩)
  · have c11 : (4 + n9261) = 8 := (nI_eq (a := (4 + n9261)) (b := 8) (by omega) (by omega)).mp q11
    refine m_aload_n F rfl e_X10_readOption_14 ?_
    refine m_iconst F (v := 2) (by decide) e_X10_readOption_15 ?_
    refine r_callV F e_X10_readOption_16 (q_X10_wrong (x_l X) V c T Z u h P L _ _ 2 h9260.1 (hob) hP (by first | omega | assumption | decide)) cb_X10_wrong ml_X10_150 im_X10_wrong se_X10_wrong h9260 rfl rfl (rest := []) rfl (Nat.le_of_ble_eq_true rfl) ⟨Nat.le_of_ble_eq_true rfl, Nat.le_of_ble_eq_true rfl⟩ ⟨Nat.le_of_ble_eq_true rfl, Nat.le_of_ble_eq_true rfl⟩ (fun r σ9339 hp => ?_)
    obtain ⟨h9340, rfl⟩ := hp
    have h9341 := HS.trans h9260 h9340 (by decide)
    refine m_aload_n F rfl e_X10_readOption_19 ?_
    refine r_callV F e_X10_readOption_20 (q_X10_atHand (x_l X) V c T 0 u h P L _ _  h9341.1 (hob) hP ) cb_X10_atHand ml_X10_174 im_X10_atHand se_X10_atHand h9341 rfl rfl (rest := []) rfl (Nat.le_of_ble_eq_true rfl) ⟨Nat.le_of_ble_eq_true rfl, Nat.le_of_ble_eq_true rfl⟩ ⟨Nat.le_of_ble_eq_true rfl, Nat.le_of_ble_eq_true rfl⟩ (fun r σ9342 hp => ?_)
    obtain ⟨P9346, oP9346, rP9346, h9343, n9345, gn9345, hn9345, rfl⟩ := hp
    have h9344 := HS.trans h9341 h9343 (by decide)
    have xP9346 := oP9346
    unfold OKP at xP9346
    unfold RA at rP9346
    refine m_istore_n F (lv' := [(2, .int (nI n9345)), (1, .int (nI (4 + n9261))), (0, .ref c)]) e_X10_readOption_23 (by decide) rfl ?_
    refine m_aload_n F rfl e_X10_readOption_24 ?_
    refine r_callV F e_X10_readOption_25 (q_X10_goOn (x_l X) V c T 0 u h P9346 L _ _  h9344.1 (hob) oP9346 ) cb_X10_goOn ml_X10_154 im_X10_goOn se_X10_goOn h9344 rfl rfl (rest := []) rfl (Nat.le_of_ble_eq_true rfl) ⟨Nat.le_of_ble_eq_true rfl, Nat.le_of_ble_eq_true rfl⟩ ⟨Nat.le_of_ble_eq_true rfl, Nat.le_of_ble_eq_true rfl⟩ (fun r σ9347 hp => ?_)
    obtain ⟨P9350, oP9350, rP9350, pr9351, h9348, rfl⟩ := hp
    have h9349 := HS.trans h9344 h9348 (by decide)
    have xP9350 := oP9350
    unfold OKP at xP9350
    unfold RA at rP9350
    refine m_aload_n F rfl e_X10_readOption_28 ?_
    refine m_iconst F (v := 1) (by decide) e_X10_readOption_29 ?_
    refine m_bipush F (v := 24) (by decide) e_X10_readOption_30 ?_
    refine r_callV F e_X10_readOption_32 (q_X10_numeral (x_l X) V c T 0 u h P9350 L _ _ 1 24 h9349.1 (hob) oP9350 (by omega) (by omega)) cb_X10_numeral ml_X10_165 im_X10_numeral se_X10_numeral h9349 rfl rfl (rest := []) rfl (Nat.le_of_ble_eq_true rfl) ⟨Nat.le_of_ble_eq_true rfl, Nat.le_of_ble_eq_true rfl⟩ ⟨Nat.le_of_ble_eq_true rfl, Nat.le_of_ble_eq_true rfl⟩ (fun r σ9352 hp => ?_)
    obtain ⟨P9356, oP9356, rP9356, h9353, c9355⟩ := hp
    have h9354 := HS.trans h9349 h9353 (by decide)
    have xP9356 := oP9356
    unfold OKP at xP9356
    unfold RA at rP9356
    rcases c9355 with ⟨n9357, gn9357, hn9357, rfl⟩ | ⟨h9358, rfl⟩
    · refine m_istore_n F (lv' := [(3, .int (nI n9357)), (2, .int (nI n9345)), (1, .int (nI (4 + n9261))), (0, .ref c)]) e_X10_readOption_35 (by decide) rfl ?_
      refine m_aload_n F rfl e_X10_readOption_36 ?_
      refine m_iconst F (v := 0) (by decide) e_X10_readOption_37 ?_
      refine m_ldc F kc_X10_177 e_X10_readOption_38 ?_
      refine r_callV F e_X10_readOption_40 (q_X10_numeral (x_l X) V c T 0 u h P9356 L _ _ 0 99999 h9354.1 (hob) oP9356 (by omega) (by omega)) cb_X10_numeral ml_X10_165 im_X10_numeral se_X10_numeral h9354 rfl rfl (rest := []) rfl (Nat.le_of_ble_eq_true rfl) ⟨Nat.le_of_ble_eq_true rfl, Nat.le_of_ble_eq_true rfl⟩ ⟨Nat.le_of_ble_eq_true rfl, Nat.le_of_ble_eq_true rfl⟩ (fun r σ9359 hp => ?_)
      obtain ⟨P9363, oP9363, rP9363, h9360, c9362⟩ := hp
      have h9361 := HS.trans h9354 h9360 (by decide)
      have xP9363 := oP9363
      unfold OKP at xP9363
      unfold RA at rP9363
      rcases c9362 with ⟨n9364, gn9364, hn9364, rfl⟩ | ⟨h9365, rfl⟩
      · refine m_istore F (lv' := [(4, .int (nI n9364)), (3, .int (nI n9357)), (2, .int (nI n9345)), (1, .int (nI (4 + n9261))), (0, .ref c)]) e_X10_readOption_43 (by decide) rfl ?_
        refine m_aload_n F rfl e_X10_readOption_45 ?_
        refine r_get F e_X10_readOption_46 fl_X10_141 h9361 rfl (fun v hv f9366 => ?_)
        obtain ⟨x9367, hx9367, rfl⟩ := hv
        replace hx9367 : 0 = 0 → x9367 ≠ 0 := hx9367
        refine m_if_eq F e_X10_readOption_49 (fun q49 => ?_) (fun q49 => ?_)
        · first | exact absurd q49 (hx9367 rfl) | contradiction
        · have h9368 := HS.z0 h9361 (f9366) q49
          have h9369 : HS V c _ [0, 2, 4, 5, 6, 7, 8, 9, 10, 11, 12, 13, 17, 18, 19, 20, 21, 22, 23] _ _ := ⟨HR.mono (Z' := Z) (by intro e; first | rfl | assumption | omega) h9368.1, h9368.2⟩
          exact m_vret F hQ e_X10_readOption_52 (⟨P9363, oP9363, (by unfold RP; omega), h9369, rfl⟩)
      · have h9370 : HS V c (⟨T, 0, u, h, P9363, L⟩ : RG) [0, 2, 4, 5, 6, 7, 8, 9, 10, 11, 12, 13, 17, 18, 19, 20, 21, 22, 23] _ _ := ⟨h9365, h9361.2⟩
        refine m_istore F (lv' := [(4, .int (nI 0)), (3, .int (nI n9357)), (2, .int (nI n9345)), (1, .int (nI (4 + n9261))), (0, .ref c)]) e_X10_readOption_43 (by decide) rfl ?_
        refine m_aload_n F rfl e_X10_readOption_45 ?_
        refine r_get F e_X10_readOption_46 fl_X10_141 h9370 rfl (fun v hv f9371 => ?_)
        obtain ⟨x9372, hx9372, rfl⟩ := hv
        replace hx9372 : 0 = 0 → x9372 ≠ 0 := hx9372
        refine m_if_eq F e_X10_readOption_49 (fun q49 => ?_) (fun q49 => ?_)
        · first | exact absurd q49 (hx9372 rfl) | contradiction
        · have h9373 := HS.z0 h9370 (f9371) q49
          have h9374 : HS V c _ [0, 2, 4, 5, 6, 7, 8, 9, 10, 11, 12, 13, 17, 18, 19, 20, 21, 22, 23] _ _ := ⟨HR.mono (Z' := Z) (by intro e; first | rfl | assumption | omega) h9373.1, h9373.2⟩
          exact m_vret F hQ e_X10_readOption_52 (⟨P9363, oP9363, (by unfold RP; omega), h9374, rfl⟩)
    · have h9375 : HS V c (⟨T, 0, u, h, P9356, L⟩ : RG) [0, 2, 4, 5, 6, 7, 8, 9, 10, 11, 12, 13, 17, 18, 19, 20, 21, 22, 23] _ _ := ⟨h9358, h9354.2⟩
      refine m_istore_n F (lv' := [(3, .int (nI 1)), (2, .int (nI n9345)), (1, .int (nI (4 + n9261))), (0, .ref c)]) e_X10_readOption_35 (by decide) rfl ?_
      refine m_aload_n F rfl e_X10_readOption_36 ?_
      refine m_iconst F (v := 0) (by decide) e_X10_readOption_37 ?_
      refine m_ldc F kc_X10_177 e_X10_readOption_38 ?_
      refine r_callV F e_X10_readOption_40 (q_X10_numeral (x_l X) V c T 0 u h P9356 L _ _ 0 99999 h9375.1 (hob) oP9356 (by omega) (by omega)) cb_X10_numeral ml_X10_165 im_X10_numeral se_X10_numeral h9375 rfl rfl (rest := []) rfl (Nat.le_of_ble_eq_true rfl) ⟨Nat.le_of_ble_eq_true rfl, Nat.le_of_ble_eq_true rfl⟩ ⟨Nat.le_of_ble_eq_true rfl, Nat.le_of_ble_eq_true rfl⟩ (fun r σ9376 hp => ?_)
      obtain ⟨P9380, oP9380, rP9380, h9377, c9379⟩ := hp
      have h9378 := HS.trans h9375 h9377 (by decide)
      have xP9380 := oP9380
      unfold OKP at xP9380
      unfold RA at rP9380
      rcases c9379 with ⟨n9381, gn9381, hn9381, rfl⟩ | ⟨h9382, rfl⟩
      · refine m_istore F (lv' := [(4, .int (nI n9381)), (3, .int (nI 1)), (2, .int (nI n9345)), (1, .int (nI (4 + n9261))), (0, .ref c)]) e_X10_readOption_43 (by decide) rfl ?_
        refine m_aload_n F rfl e_X10_readOption_45 ?_
        refine r_get F e_X10_readOption_46 fl_X10_141 h9378 rfl (fun v hv f9383 => ?_)
        obtain ⟨x9384, hx9384, rfl⟩ := hv
        replace hx9384 : 0 = 0 → x9384 ≠ 0 := hx9384
        refine m_if_eq F e_X10_readOption_49 (fun q49 => ?_) (fun q49 => ?_)
        · first | exact absurd q49 (hx9384 rfl) | contradiction
        · have h9385 := HS.z0 h9378 (f9383) q49
          have h9386 : HS V c _ [0, 2, 4, 5, 6, 7, 8, 9, 10, 11, 12, 13, 17, 18, 19, 20, 21, 22, 23] _ _ := ⟨HR.mono (Z' := Z) (by intro e; first | rfl | assumption | omega) h9385.1, h9385.2⟩
          exact m_vret F hQ e_X10_readOption_52 (⟨P9380, oP9380, (by unfold RP; omega), h9386, rfl⟩)
      · have h9387 : HS V c (⟨T, 0, u, h, P9380, L⟩ : RG) [0, 2, 4, 5, 6, 7, 8, 9, 10, 11, 12, 13, 17, 18, 19, 20, 21, 22, 23] _ _ := ⟨h9382, h9378.2⟩
        refine m_istore F (lv' := [(4, .int (nI 0)), (3, .int (nI 1)), (2, .int (nI n9345)), (1, .int (nI (4 + n9261))), (0, .ref c)]) e_X10_readOption_43 (by decide) rfl ?_
        refine m_aload_n F rfl e_X10_readOption_45 ?_
        refine r_get F e_X10_readOption_46 fl_X10_141 h9387 rfl (fun v hv f9388 => ?_)
        obtain ⟨x9389, hx9389, rfl⟩ := hv
        replace hx9389 : 0 = 0 → x9389 ≠ 0 := hx9389
        refine m_if_eq F e_X10_readOption_49 (fun q49 => ?_) (fun q49 => ?_)
        · first | exact absurd q49 (hx9389 rfl) | contradiction
        · have h9390 := HS.z0 h9387 (f9388) q49
          have h9391 : HS V c _ [0, 2, 4, 5, 6, 7, 8, 9, 10, 11, 12, 13, 17, 18, 19, 20, 21, 22, 23] _ _ := ⟨HR.mono (Z' := Z) (by intro e; first | rfl | assumption | omega) h9390.1, h9390.2⟩
          exact m_vret F hQ e_X10_readOption_52 (⟨P9380, oP9380, (by unfold RP; omega), h9391, rfl⟩)
set_option maxRecDepth 20000 in
theorem q_X10_readSeed (l : Launch) (V : VX) (c T Z u h : Nat) (P : NP) (L : Nat → LQ) (N : Nat) (σ : Mem)  (h0 : HR V c ⟨T, Z, u, h, P, L⟩ σ) (hob : OKB L) (hP : OKP P)  : Ct l V yX10_readSeed cX10_readSeed 1 none 8 0 0 N σ [.ref c] (fun r τ => ∃ P9 : NP, OKP P9 ∧ RP P P9 ∧ HS V c (⟨T, Z, u, h, P9, L⟩ : RG) [0, 2, 4, 5, 6, 7, 8, 9, 10, 11, 12, 13, 14, 15, 16, 17, 18, 19, 20, 21, 22, 23] σ τ ∧ r = none) := by
  refine Ct.of (by decide) (Nat.le_of_ble_eq_true rfl) [(0, .ref c)] rfl (fun X hX F hQ => ?_)
  have hPP := hP
  unfold OKP at hPP
  have h1 : HS V c ⟨T, Z, u, h, P, L⟩ [0, 2, 4, 5, 6, 7, 8, 9, 10, 11, 12, 13, 14, 15, 16, 17, 18, 19, 20, 21, 22, 23] σ σ := HS.start h0
  refine m_aload_n F rfl e_X10_readSeed_0 ?_
  refine m_iconst F (v := 4) (by decide) e_X10_readSeed_1 ?_
  refine r_callV F e_X10_readSeed_2 (q_X10_reading4 (x_l X) V c T Z u h P L _ _  h1.1 (hob) hP ) cb_X10_reading ml_X10_157 im_X10_reading se_X10_reading h1 rfl rfl (rest := []) rfl (Nat.le_of_ble_eq_true rfl) ⟨Nat.le_of_ble_eq_true rfl, Nat.le_of_ble_eq_true rfl⟩ ⟨Nat.le_of_ble_eq_true rfl, Nat.le_of_ble_eq_true rfl⟩ (fun r σ9392 hp => ?_)
  obtain ⟨h9393, x9395, rfl⟩ := hp
  have h9394 := HS.trans h1 h9393 (by decide)
  refine m_if_eq F e_X10_readSeed_5 (fun q5 => ?_) (fun q5 => ?_)
  · subst q5
    refine m_aload_n F rfl e_X10_readSeed_13 ?_
    refine r_callV F e_X10_readSeed_14 (q_X10_goOn (x_l X) V c T Z u h P L _ _  h9394.1 (hob) hP ) cb_X10_goOn ml_X10_154 im_X10_goOn se_X10_goOn h9394 rfl rfl (rest := []) rfl (Nat.le_of_ble_eq_true rfl) ⟨Nat.le_of_ble_eq_true rfl, Nat.le_of_ble_eq_true rfl⟩ ⟨Nat.le_of_ble_eq_true rfl, Nat.le_of_ble_eq_true rfl⟩ (fun r σ9396 hp => ?_)
    obtain ⟨P9399, oP9399, rP9399, pr9400, h9397, rfl⟩ := hp
    have h9398 := HS.trans h9394 h9397 (by decide)
    have xP9399 := oP9399
    unfold OKP at xP9399
    unfold RA at rP9399
    refine m_aload_n F rfl e_X10_readSeed_17 ?_
    refine m_iconst F (v := 4) (by decide) e_X10_readSeed_18 ?_
    refine m_aload_n F rfl e_X10_readSeed_19 ?_
    refine m_iconst F (v := 0) (by decide) e_X10_readSeed_20 ?_
    refine m_ldc F kc_X10_177 e_X10_readSeed_21 ?_
    refine r_callV F e_X10_readSeed_23 (q_X10_numeral (x_l X) V c T Z u h P9399 L _ _ 0 99999 h9398.1 (hob) oP9399 (by omega) (by omega)) cb_X10_numeral ml_X10_165 im_X10_numeral se_X10_numeral h9398 rfl rfl (rest := [.int 4, .ref c]) rfl (Nat.le_of_ble_eq_true rfl) ⟨Nat.le_of_ble_eq_true rfl, Nat.le_of_ble_eq_true rfl⟩ ⟨Nat.le_of_ble_eq_true rfl, Nat.le_of_ble_eq_true rfl⟩ (fun r σ9401 hp => ?_)
    obtain ⟨P9405, oP9405, rP9405, h9402, c9404⟩ := hp
    have h9403 := HS.trans h9398 h9402 (by decide)
    have xP9405 := oP9405
    unfold OKP at xP9405
    unfold RA at rP9405
    rcases c9404 with ⟨n9406, gn9406, hn9406, rfl⟩ | ⟨h9407, rfl⟩
    · refine m_iconst F (v := 1) (by decide) e_X10_readSeed_26 ?_
      refine m_iadd F e_X10_readSeed_27 ?_
      refine Wm.topE (w := nI (n9406 + 1)) (nI_add n9406 1) ?_
      refine r_callV F e_X10_readSeed_28 (q_X10_reads4 (x_l X) V c T Z u h P9405 L _ _ (nI (n9406 + 1)) h9403.1 (hob) oP9405 ) cb_X10_reads ml_X10_170 im_X10_reads se_X10_reads h9403 rfl rfl (rest := []) rfl (Nat.le_of_ble_eq_true rfl) ⟨Nat.le_of_ble_eq_true rfl, Nat.le_of_ble_eq_true rfl⟩ ⟨Nat.le_of_ble_eq_true rfl, Nat.le_of_ble_eq_true rfl⟩ (fun r σ9408 hp => ?_)
      obtain ⟨h9409, rfl⟩ := hp
      have h9410 := HS.trans h9403 h9409 (by decide)
      exact m_vret F hQ e_X10_readSeed_31 (⟨P9405, oP9405, (by unfold RP; omega), h9410, rfl⟩)
    · have h9411 : HS V c (⟨T, 0, u, h, P9405, L⟩ : RG) [0, 2, 4, 5, 6, 7, 8, 9, 10, 11, 12, 13, 14, 15, 16, 17, 18, 19, 20, 21, 22, 23] _ _ := ⟨h9407, h9403.2⟩
      refine m_iconst F (v := 1) (by decide) e_X10_readSeed_26 ?_
      refine m_iadd F e_X10_readSeed_27 ?_
      refine Wm.topE (w := nI (0 + 1)) (nI_add 0 1) ?_
      refine r_callV F e_X10_readSeed_28 (q_X10_reads4 (x_l X) V c T 0 u h P9405 L _ _ (nI (0 + 1)) h9411.1 (hob) oP9405 ) cb_X10_reads ml_X10_170 im_X10_reads se_X10_reads h9411 rfl rfl (rest := []) rfl (Nat.le_of_ble_eq_true rfl) ⟨Nat.le_of_ble_eq_true rfl, Nat.le_of_ble_eq_true rfl⟩ ⟨Nat.le_of_ble_eq_true rfl, Nat.le_of_ble_eq_true rfl⟩ (fun r σ9412 hp => ?_)
      obtain ⟨h9413, rfl⟩ := hp
      have h9414 := HS.trans h9411 h9413 (by decide)
      have h9415 : HS V c _ [0, 2, 4, 5, 6, 7, 8, 9, 10, 11, 12, 13, 14, 15, 16, 17, 18, 19, 20, 21, 22, 23] _ _ := ⟨HR.mono (Z' := Z) (by intro e; first | rfl | assumption | omega) h9414.1, h9414.2⟩
      exact m_vret F hQ e_X10_readSeed_31 (⟨P9405, oP9405, (by unfold RP; omega), h9415, rfl⟩)
  · refine m_aload_n F rfl e_X10_readSeed_8 ?_
    refine m_iconst F (v := 3) (by decide) e_X10_readSeed_9 ?_
    refine r_callV F e_X10_readSeed_10 (q_X10_wrong (x_l X) V c T Z u h P L _ _ 3 h9394.1 (hob) hP (by first | omega | assumption | decide)) cb_X10_wrong ml_X10_150 im_X10_wrong se_X10_wrong h9394 rfl rfl (rest := []) rfl (Nat.le_of_ble_eq_true rfl) ⟨Nat.le_of_ble_eq_true rfl, Nat.le_of_ble_eq_true rfl⟩ ⟨Nat.le_of_ble_eq_true rfl, Nat.le_of_ble_eq_true rfl⟩ (fun r σ9416 hp => ?_)
    obtain ⟨h9417, rfl⟩ := hp
    have h9418 := HS.trans h9394 h9417 (by decide)
    refine m_aload_n F rfl e_X10_readSeed_13 ?_
    refine r_callV F e_X10_readSeed_14 (q_X10_goOn (x_l X) V c T 0 u h P L _ _  h9418.1 (hob) hP ) cb_X10_goOn ml_X10_154 im_X10_goOn se_X10_goOn h9418 rfl rfl (rest := []) rfl (Nat.le_of_ble_eq_true rfl) ⟨Nat.le_of_ble_eq_true rfl, Nat.le_of_ble_eq_true rfl⟩ ⟨Nat.le_of_ble_eq_true rfl, Nat.le_of_ble_eq_true rfl⟩ (fun r σ9419 hp => ?_)
    obtain ⟨P9422, oP9422, rP9422, pr9423, h9420, rfl⟩ := hp
    have h9421 := HS.trans h9418 h9420 (by decide)
    have xP9422 := oP9422
    unfold OKP at xP9422
    unfold RA at rP9422
    refine m_aload_n F rfl e_X10_readSeed_17 ?_
    refine m_iconst F (v := 4) (by decide) e_X10_readSeed_18 ?_
    refine m_aload_n F rfl e_X10_readSeed_19 ?_
    refine m_iconst F (v := 0) (by decide) e_X10_readSeed_20 ?_
    refine m_ldc F kc_X10_177 e_X10_readSeed_21 ?_
    refine r_callV F e_X10_readSeed_23 (q_X10_numeral (x_l X) V c T 0 u h P9422 L _ _ 0 99999 h9421.1 (hob) oP9422 (by omega) (by omega)) cb_X10_numeral ml_X10_165 im_X10_numeral se_X10_numeral h9421 rfl rfl (rest := [.int 4, .ref c]) rfl (Nat.le_of_ble_eq_true rfl) ⟨Nat.le_of_ble_eq_true rfl, Nat.le_of_ble_eq_true rfl⟩ ⟨Nat.le_of_ble_eq_true rfl, Nat.le_of_ble_eq_true rfl⟩ (fun r σ9424 hp => ?_)
    obtain ⟨P9428, oP9428, rP9428, h9425, c9427⟩ := hp
    have h9426 := HS.trans h9421 h9425 (by decide)
    have xP9428 := oP9428
    unfold OKP at xP9428
    unfold RA at rP9428
    rcases c9427 with ⟨n9429, gn9429, hn9429, rfl⟩ | ⟨h9430, rfl⟩
    · refine m_iconst F (v := 1) (by decide) e_X10_readSeed_26 ?_
      refine m_iadd F e_X10_readSeed_27 ?_
      refine Wm.topE (w := nI (n9429 + 1)) (nI_add n9429 1) ?_
      refine r_callV F e_X10_readSeed_28 (q_X10_reads4 (x_l X) V c T 0 u h P9428 L _ _ (nI (n9429 + 1)) h9426.1 (hob) oP9428 ) cb_X10_reads ml_X10_170 im_X10_reads se_X10_reads h9426 rfl rfl (rest := []) rfl (Nat.le_of_ble_eq_true rfl) ⟨Nat.le_of_ble_eq_true rfl, Nat.le_of_ble_eq_true rfl⟩ ⟨Nat.le_of_ble_eq_true rfl, Nat.le_of_ble_eq_true rfl⟩ (fun r σ9431 hp => ?_)
      obtain ⟨h9432, rfl⟩ := hp
      have h9433 := HS.trans h9426 h9432 (by decide)
      have h9434 : HS V c _ [0, 2, 4, 5, 6, 7, 8, 9, 10, 11, 12, 13, 14, 15, 16, 17, 18, 19, 20, 21, 22, 23] _ _ := ⟨HR.mono (Z' := Z) (by intro e; first | rfl | assumption | omega) h9433.1, h9433.2⟩
      exact m_vret F hQ e_X10_readSeed_31 (⟨P9428, oP9428, (by unfold RP; omega), h9434, rfl⟩)
    · have h9435 : HS V c (⟨T, 0, u, h, P9428, L⟩ : RG) [0, 2, 4, 5, 6, 7, 8, 9, 10, 11, 12, 13, 14, 15, 16, 17, 18, 19, 20, 21, 22, 23] _ _ := ⟨h9430, h9426.2⟩
      refine m_iconst F (v := 1) (by decide) e_X10_readSeed_26 ?_
      refine m_iadd F e_X10_readSeed_27 ?_
      refine Wm.topE (w := nI (0 + 1)) (nI_add 0 1) ?_
      refine r_callV F e_X10_readSeed_28 (q_X10_reads4 (x_l X) V c T 0 u h P9428 L _ _ (nI (0 + 1)) h9435.1 (hob) oP9428 ) cb_X10_reads ml_X10_170 im_X10_reads se_X10_reads h9435 rfl rfl (rest := []) rfl (Nat.le_of_ble_eq_true rfl) ⟨Nat.le_of_ble_eq_true rfl, Nat.le_of_ble_eq_true rfl⟩ ⟨Nat.le_of_ble_eq_true rfl, Nat.le_of_ble_eq_true rfl⟩ (fun r σ9436 hp => ?_)
      obtain ⟨h9437, rfl⟩ := hp
      have h9438 := HS.trans h9435 h9437 (by decide)
      have h9439 : HS V c _ [0, 2, 4, 5, 6, 7, 8, 9, 10, 11, 12, 13, 14, 15, 16, 17, 18, 19, 20, 21, 22, 23] _ _ := ⟨HR.mono (Z' := Z) (by intro e; first | rfl | assumption | omega) h9438.1, h9438.2⟩
      exact m_vret F hQ e_X10_readSeed_31 (⟨P9428, oP9428, (by unfold RP; omega), h9439, rfl⟩)
set_option maxRecDepth 20000 in
theorem q_X10_readLine (l : Launch) (V : VX) (c T Z u h : Nat) (P : NP) (L : Nat → LQ) (N : Nat) (σ : Mem)  (h0 : HR V c ⟨T, Z, u, h, P, L⟩ σ) (hob : OKB L) (hP : OKP P)  : Ct l V yX10_readLine cX10_readLine 1 none 9 0 0 N σ [.ref c] (fun r τ => ∃ P9 : NP, OKP P9 ∧ RP P P9 ∧ PG c P.a P9.a τ ∧ HS V c (⟨T, Z, u, h, P9, L⟩ : RG) [0, 2, 17, 18, 19, 20, 21, 22, 23] σ τ ∧ r = none) := by
  refine Ct.of (by decide) (Nat.le_of_ble_eq_true rfl) [(0, .ref c)] rfl (fun X hX F hQ => ?_)
  have hPP := hP
  unfold OKP at hPP
  have h1 : HS V c ⟨T, Z, u, h, P, L⟩ [0, 2, 17, 18, 19, 20, 21, 22, 23] σ σ := HS.start h0
  refine m_aload_n F rfl e_X10_readLine_0 ?_
  refine r_get F e_X10_readLine_1 fl_X10_110 h1 rfl (fun v hv f9440 => ?_)
  obtain ⟨x9441, rfl⟩ := hv
  refine m_if_eq F e_X10_readLine_4 (fun q4 => ?_) (fun q4 => ?_)
  · subst q4
    refine m_aload_n F rfl e_X10_readLine_15 ?_
    refine r_get F e_X10_readLine_16 fl_X10_120 h1 rfl (fun v hv f9442 => ?_)
    obtain ⟨x9443, rfl⟩ := hv
    refine m_if_ne F e_X10_readLine_19 (fun q19 => ?_) (fun q19 => ?_)
    · refine m_aload_n F rfl e_X10_readLine_29 ?_
      refine r_getC F e_X10_readLine_30 fl_X10_120 h1 (f9442) ?_
      refine m_iconst F (v := 1) (by decide) e_X10_readLine_33 ?_
      refine m_icmp_ne F e_X10_readLine_34 (fun q34 => ?_) (fun q34 => ?_)
      · refine m_aload_n F rfl e_X10_readLine_44 ?_
        refine r_getC F e_X10_readLine_45 fl_X10_120 h1 (f9442) ?_
        refine m_iconst F (v := 2) (by decide) e_X10_readLine_48 ?_
        refine m_icmp_eq F e_X10_readLine_49 (fun q49 => ?_) (fun q49 => ?_)
        · subst q49
          refine m_aload_n F rfl e_X10_readLine_60 ?_
          refine m_aload_n F rfl e_X10_readLine_61 ?_
          refine r_getC F e_X10_readLine_62 fl_X10_120 h1 (f9442) ?_
          refine m_iconst F (v := 2) (by decide) e_X10_readLine_65 ?_
          refine m_icmp_ne F e_X10_readLine_66 (fun q => absurd (by decide) q) (fun _ => ?_)
          refine m_iconst F (v := 1) (by decide) e_X10_readLine_69 ?_
          refine m_goto F e_X10_readLine_70 ?_
          refine r_callV F e_X10_readLine_74 (q_X10_readMark (x_l X) V c T Z u h P L _ _ 1 h1.1 (hob) hP ) cb_X10_readMark ml_X10_184 im_X10_readMark se_X10_readMark h1 rfl rfl (rest := []) rfl (Nat.le_of_ble_eq_true rfl) ⟨Nat.le_of_ble_eq_true rfl, Nat.le_of_ble_eq_true rfl⟩ ⟨Nat.le_of_ble_eq_true rfl, Nat.le_of_ble_eq_true rfl⟩ (fun r σ9444 hp => ?_)
          obtain ⟨P9447, oP9447, rP9447, h9445, rfl⟩ := hp
          have h9446 := HS.trans h1 h9445 (by decide)
          have xP9447 := oP9447
          unfold OKP at xP9447
          unfold RP at rP9447
          refine m_goto F e_X10_readLine_77 ?_
          refine m_aload_n F rfl e_X10_readLine_146 ?_
          refine r_get F e_X10_readLine_147 fl_X10_141 h9446 rfl (fun v hv f9448 => ?_)
          obtain ⟨x9449, hx9449, rfl⟩ := hv
          replace hx9449 : Z = 0 → x9449 ≠ 0 := hx9449
          refine m_if_ne F e_X10_readLine_150 (fun q150 => ?_) (fun q150 => ?_)
          · have h9450 := HS.z0 h9446 (f9448) q150
            refine m_aload_n F rfl e_X10_readLine_166 ?_
            refine r_callV F e_X10_readLine_167 (q_X10_goOn (x_l X) V c T 0 u h P9447 L _ _  h9450.1 (hob) oP9447 ) cb_X10_goOn ml_X10_154 im_X10_goOn se_X10_goOn h9450 rfl rfl (rest := []) rfl (Nat.le_of_ble_eq_true rfl) ⟨Nat.le_of_ble_eq_true rfl, Nat.le_of_ble_eq_true rfl⟩ ⟨Nat.le_of_ble_eq_true rfl, Nat.le_of_ble_eq_true rfl⟩ (fun r σ9451 hp => ?_)
            obtain ⟨P9454, oP9454, rP9454, pr9455, h9452, rfl⟩ := hp
            have h9453 := HS.trans h9450 h9452 (by decide)
            have xP9454 := oP9454
            unfold OKP at xP9454
            unfold RA at rP9454
            refine m_aload_n F rfl e_X10_readLine_170 ?_
            refine m_dup F rfl e_X10_readLine_171 ?_
            refine r_get F e_X10_readLine_172 fl_X10_202 h9453 rfl (fun v hv f9456 => ?_)
            obtain ⟨x9457, rfl⟩ := hv
            refine m_iconst F (v := 1) (by decide) e_X10_readLine_175 ?_
            refine m_iadd F e_X10_readLine_176 ?_
            refine Wm.top (fun x9458 _ => ?_)
            refine r_put F (g' := (⟨T, 0, u, h, P9454, L⟩ : RG)) e_X10_readLine_177 fp_X10_202 h9453 (by decide) ⟨_, rfl⟩ (fun _ _ _ _ q => q) (fun _ _ _ q => q) rfl rfl (by decide) (fun σ9459 h9460 g9461 g9462 f9463 => ?_)
            have pg9464 := pr9455.of (g9462 23 (by decide)) (g9462 21 (by decide))
            have h9465 : HS V c _ [0, 2, 17, 18, 19, 20, 21, 22, 23] _ _ := ⟨HR.mono (Z' := Z) (by intro e; first | rfl | assumption | omega) h9460.1, h9460.2⟩
            exact m_vret F hQ e_X10_readLine_180 (⟨P9454, oP9454, (by unfold RP; omega), (pg9464.mono (by omega)), h9465, rfl⟩)
          · subst q150
            refine m_aload_n F rfl e_X10_readLine_153 ?_
            refine r_get F e_X10_readLine_154 fl_X10_110 h9446 rfl (fun v hv f9466 => ?_)
            obtain ⟨x9467, rfl⟩ := hv
            refine m_iconst F (v := 3) (by decide) e_X10_readLine_157 ?_
            refine m_icmp_eq F e_X10_readLine_158 (fun q158 => ?_) (fun q158 => ?_)
            · subst q158
              refine m_aload_n F rfl e_X10_readLine_166 ?_
              refine r_callV F e_X10_readLine_167 (q_X10_goOn (x_l X) V c T Z u h P9447 L _ _  h9446.1 (hob) oP9447 ) cb_X10_goOn ml_X10_154 im_X10_goOn se_X10_goOn h9446 rfl rfl (rest := []) rfl (Nat.le_of_ble_eq_true rfl) ⟨Nat.le_of_ble_eq_true rfl, Nat.le_of_ble_eq_true rfl⟩ ⟨Nat.le_of_ble_eq_true rfl, Nat.le_of_ble_eq_true rfl⟩ (fun r σ9468 hp => ?_)
              obtain ⟨P9471, oP9471, rP9471, pr9472, h9469, rfl⟩ := hp
              have h9470 := HS.trans h9446 h9469 (by decide)
              have xP9471 := oP9471
              unfold OKP at xP9471
              unfold RA at rP9471
              refine m_aload_n F rfl e_X10_readLine_170 ?_
              refine m_dup F rfl e_X10_readLine_171 ?_
              refine r_get F e_X10_readLine_172 fl_X10_202 h9470 rfl (fun v hv f9473 => ?_)
              obtain ⟨x9474, rfl⟩ := hv
              refine m_iconst F (v := 1) (by decide) e_X10_readLine_175 ?_
              refine m_iadd F e_X10_readLine_176 ?_
              refine Wm.top (fun x9475 _ => ?_)
              refine r_put F (g' := (⟨T, Z, u, h, P9471, L⟩ : RG)) e_X10_readLine_177 fp_X10_202 h9470 (by decide) ⟨_, rfl⟩ (fun _ _ _ _ q => q) (fun _ _ _ q => q) rfl rfl (by decide) (fun σ9476 h9477 g9478 g9479 f9480 => ?_)
              have pg9481 := pr9472.of (g9479 23 (by decide)) (g9479 21 (by decide))
              exact m_vret F hQ e_X10_readLine_180 (⟨P9471, oP9471, (by unfold RP; omega), (pg9481.mono (by omega)), h9477, rfl⟩)
            · refine m_aload_n F rfl e_X10_readLine_161 ?_
              refine m_iconst F (v := 1) (by decide) e_X10_readLine_162 ?_
              refine r_callV F e_X10_readLine_163 (q_X10_wrong (x_l X) V c T Z u h P9447 L _ _ 1 h9446.1 (hob) oP9447 (by first | omega | assumption | decide)) cb_X10_wrong ml_X10_150 im_X10_wrong se_X10_wrong h9446 rfl rfl (rest := []) rfl (Nat.le_of_ble_eq_true rfl) ⟨Nat.le_of_ble_eq_true rfl, Nat.le_of_ble_eq_true rfl⟩ ⟨Nat.le_of_ble_eq_true rfl, Nat.le_of_ble_eq_true rfl⟩ (fun r σ9482 hp => ?_)
              obtain ⟨h9483, rfl⟩ := hp
              have h9484 := HS.trans h9446 h9483 (by decide)
              refine m_aload_n F rfl e_X10_readLine_166 ?_
              refine r_callV F e_X10_readLine_167 (q_X10_goOn (x_l X) V c T 0 u h P9447 L _ _  h9484.1 (hob) oP9447 ) cb_X10_goOn ml_X10_154 im_X10_goOn se_X10_goOn h9484 rfl rfl (rest := []) rfl (Nat.le_of_ble_eq_true rfl) ⟨Nat.le_of_ble_eq_true rfl, Nat.le_of_ble_eq_true rfl⟩ ⟨Nat.le_of_ble_eq_true rfl, Nat.le_of_ble_eq_true rfl⟩ (fun r σ9485 hp => ?_)
              obtain ⟨P9488, oP9488, rP9488, pr9489, h9486, rfl⟩ := hp
              have h9487 := HS.trans h9484 h9486 (by decide)
              have xP9488 := oP9488
              unfold OKP at xP9488
              unfold RA at rP9488
              refine m_aload_n F rfl e_X10_readLine_170 ?_
              refine m_dup F rfl e_X10_readLine_171 ?_
              refine r_get F e_X10_readLine_172 fl_X10_202 h9487 rfl (fun v hv f9490 => ?_)
              obtain ⟨x9491, rfl⟩ := hv
              refine m_iconst F (v := 1) (by decide) e_X10_readLine_175 ?_
              refine m_iadd F e_X10_readLine_176 ?_
              refine Wm.top (fun x9492 _ => ?_)
              refine r_put F (g' := (⟨T, 0, u, h, P9488, L⟩ : RG)) e_X10_readLine_177 fp_X10_202 h9487 (by decide) ⟨_, rfl⟩ (fun _ _ _ _ q => q) (fun _ _ _ q => q) rfl rfl (by decide) (fun σ9493 h9494 g9495 g9496 f9497 => ?_)
              have pg9498 := pr9489.of (g9496 23 (by decide)) (g9496 21 (by decide))
              have h9499 : HS V c _ [0, 2, 17, 18, 19, 20, 21, 22, 23] _ _ := ⟨HR.mono (Z' := Z) (by intro e; first | rfl | assumption | omega) h9494.1, h9494.2⟩
              exact m_vret F hQ e_X10_readLine_180 (⟨P9488, oP9488, (by unfold RP; omega), (pg9498.mono (by omega)), h9499, rfl⟩)
        · refine m_aload_n F rfl e_X10_readLine_52 ?_
          refine r_getC F e_X10_readLine_53 fl_X10_120 h1 (f9442) ?_
          refine m_iconst F (v := 5) (by decide) e_X10_readLine_56 ?_
          refine m_icmp_ne F e_X10_readLine_57 (fun q57 => ?_) (fun q57 => ?_)
          · refine m_aload_n F rfl e_X10_readLine_80 ?_
            refine r_getC F e_X10_readLine_81 fl_X10_120 h1 (f9442) ?_
            refine m_iconst F (v := 3) (by decide) e_X10_readLine_84 ?_
            refine m_icmp_ne F e_X10_readLine_85 (fun q85 => ?_) (fun q85 => ?_)
            · refine m_aload_n F rfl e_X10_readLine_95 ?_
              refine r_getC F e_X10_readLine_96 fl_X10_120 h1 (f9442) ?_
              refine m_iconst F (v := 4) (by decide) e_X10_readLine_99 ?_
              refine m_icmp_ne F e_X10_readLine_100 (fun q100 => ?_) (fun q100 => ?_)
              · refine m_aload_n F rfl e_X10_readLine_110 ?_
                refine r_getC F e_X10_readLine_111 fl_X10_120 h1 (f9442) ?_
                refine m_bipush F (v := 6) (by decide) e_X10_readLine_114 ?_
                refine m_icmp_ne F e_X10_readLine_116 (fun q116 => ?_) (fun q116 => ?_)
                · refine m_aload_n F rfl e_X10_readLine_126 ?_
                  refine r_getC F e_X10_readLine_127 fl_X10_120 h1 (f9442) ?_
                  refine m_bipush F (v := 7) (by decide) e_X10_readLine_130 ?_
                  refine m_icmp_ne F e_X10_readLine_132 (fun q132 => ?_) (fun q132 => ?_)
                  · refine m_aload_n F rfl e_X10_readLine_142 ?_
                    refine r_callV F e_X10_readLine_143 (q_X10_readSeed (x_l X) V c T Z u h P L _ _  h1.1 (hob) hP ) cb_X10_readSeed ml_X10_199 im_X10_readSeed se_X10_readSeed h1 rfl rfl (rest := []) rfl (Nat.le_of_ble_eq_true rfl) ⟨Nat.le_of_ble_eq_true rfl, Nat.le_of_ble_eq_true rfl⟩ ⟨Nat.le_of_ble_eq_true rfl, Nat.le_of_ble_eq_true rfl⟩ (fun r σ9500 hp => ?_)
                    obtain ⟨P9503, oP9503, rP9503, h9501, rfl⟩ := hp
                    have h9502 := HS.trans h1 h9501 (by decide)
                    have xP9503 := oP9503
                    unfold OKP at xP9503
                    unfold RP at rP9503
                    refine m_aload_n F rfl e_X10_readLine_146 ?_
                    refine r_get F e_X10_readLine_147 fl_X10_141 h9502 rfl (fun v hv f9504 => ?_)
                    obtain ⟨x9505, hx9505, rfl⟩ := hv
                    replace hx9505 : Z = 0 → x9505 ≠ 0 := hx9505
                    refine m_if_ne F e_X10_readLine_150 (fun q150 => ?_) (fun q150 => ?_)
                    · have h9506 := HS.z0 h9502 (f9504) q150
                      refine m_aload_n F rfl e_X10_readLine_166 ?_
                      refine r_callV F e_X10_readLine_167 (q_X10_goOn (x_l X) V c T 0 u h P9503 L _ _  h9506.1 (hob) oP9503 ) cb_X10_goOn ml_X10_154 im_X10_goOn se_X10_goOn h9506 rfl rfl (rest := []) rfl (Nat.le_of_ble_eq_true rfl) ⟨Nat.le_of_ble_eq_true rfl, Nat.le_of_ble_eq_true rfl⟩ ⟨Nat.le_of_ble_eq_true rfl, Nat.le_of_ble_eq_true rfl⟩ (fun r σ9507 hp => ?_)
                      obtain ⟨P9510, oP9510, rP9510, pr9511, h9508, rfl⟩ := hp
                      have h9509 := HS.trans h9506 h9508 (by decide)
                      have xP9510 := oP9510
                      unfold OKP at xP9510
                      unfold RA at rP9510
                      refine m_aload_n F rfl e_X10_readLine_170 ?_
                      refine m_dup F rfl e_X10_readLine_171 ?_
                      refine r_get F e_X10_readLine_172 fl_X10_202 h9509 rfl (fun v hv f9512 => ?_)
                      obtain ⟨x9513, rfl⟩ := hv
                      refine m_iconst F (v := 1) (by decide) e_X10_readLine_175 ?_
                      refine m_iadd F e_X10_readLine_176 ?_
                      refine Wm.top (fun x9514 _ => ?_)
                      refine r_put F (g' := (⟨T, 0, u, h, P9510, L⟩ : RG)) e_X10_readLine_177 fp_X10_202 h9509 (by decide) ⟨_, rfl⟩ (fun _ _ _ _ q => q) (fun _ _ _ q => q) rfl rfl (by decide) (fun σ9515 h9516 g9517 g9518 f9519 => ?_)
                      have pg9520 := pr9511.of (g9518 23 (by decide)) (g9518 21 (by decide))
                      have h9521 : HS V c _ [0, 2, 17, 18, 19, 20, 21, 22, 23] _ _ := ⟨HR.mono (Z' := Z) (by intro e; first | rfl | assumption | omega) h9516.1, h9516.2⟩
                      exact m_vret F hQ e_X10_readLine_180 (⟨P9510, oP9510, (by unfold RP; omega), (pg9520.mono (by omega)), h9521, rfl⟩)
                    · subst q150
                      refine m_aload_n F rfl e_X10_readLine_153 ?_
                      refine r_get F e_X10_readLine_154 fl_X10_110 h9502 rfl (fun v hv f9522 => ?_)
                      obtain ⟨x9523, rfl⟩ := hv
                      refine m_iconst F (v := 3) (by decide) e_X10_readLine_157 ?_
                      refine m_icmp_eq F e_X10_readLine_158 (fun q158 => ?_) (fun q158 => ?_)
                      · subst q158
                        refine m_aload_n F rfl e_X10_readLine_166 ?_
                        refine r_callV F e_X10_readLine_167 (q_X10_goOn (x_l X) V c T Z u h P9503 L _ _  h9502.1 (hob) oP9503 ) cb_X10_goOn ml_X10_154 im_X10_goOn se_X10_goOn h9502 rfl rfl (rest := []) rfl (Nat.le_of_ble_eq_true rfl) ⟨Nat.le_of_ble_eq_true rfl, Nat.le_of_ble_eq_true rfl⟩ ⟨Nat.le_of_ble_eq_true rfl, Nat.le_of_ble_eq_true rfl⟩ (fun r σ9524 hp => ?_)
                        obtain ⟨P9527, oP9527, rP9527, pr9528, h9525, rfl⟩ := hp
                        have h9526 := HS.trans h9502 h9525 (by decide)
                        have xP9527 := oP9527
                        unfold OKP at xP9527
                        unfold RA at rP9527
                        refine m_aload_n F rfl e_X10_readLine_170 ?_
                        refine m_dup F rfl e_X10_readLine_171 ?_
                        refine r_get F e_X10_readLine_172 fl_X10_202 h9526 rfl (fun v hv f9529 => ?_)
                        obtain ⟨x9530, rfl⟩ := hv
                        refine m_iconst F (v := 1) (by decide) e_X10_readLine_175 ?_
                        refine m_iadd F e_X10_readLine_176 ?_
                        refine Wm.top (fun x9531 _ => ?_)
                        refine r_put F (g' := (⟨T, Z, u, h, P9527, L⟩ : RG)) e_X10_readLine_177 fp_X10_202 h9526 (by decide) ⟨_, rfl⟩ (fun _ _ _ _ q => q) (fun _ _ _ q => q) rfl rfl (by decide) (fun σ9532 h9533 g9534 g9535 f9536 => ?_)
                        have pg9537 := pr9528.of (g9535 23 (by decide)) (g9535 21 (by decide))
                        exact m_vret F hQ e_X10_readLine_180 (⟨P9527, oP9527, (by unfold RP; omega), (pg9537.mono (by omega)), h9533, rfl⟩)
                      · refine m_aload_n F rfl e_X10_readLine_161 ?_
                        refine m_iconst F (v := 1) (by decide) e_X10_readLine_162 ?_
                        refine r_callV F e_X10_readLine_163 (q_X10_wrong (x_l X) V c T Z u h P9503 L _ _ 1 h9502.1 (hob) oP9503 (by first | omega | assumption | decide)) cb_X10_wrong ml_X10_150 im_X10_wrong se_X10_wrong h9502 rfl rfl (rest := []) rfl (Nat.le_of_ble_eq_true rfl) ⟨Nat.le_of_ble_eq_true rfl, Nat.le_of_ble_eq_true rfl⟩ ⟨Nat.le_of_ble_eq_true rfl, Nat.le_of_ble_eq_true rfl⟩ (fun r σ9538 hp => ?_)
                        obtain ⟨h9539, rfl⟩ := hp
                        have h9540 := HS.trans h9502 h9539 (by decide)
                        refine m_aload_n F rfl e_X10_readLine_166 ?_
                        refine r_callV F e_X10_readLine_167 (q_X10_goOn (x_l X) V c T 0 u h P9503 L _ _  h9540.1 (hob) oP9503 ) cb_X10_goOn ml_X10_154 im_X10_goOn se_X10_goOn h9540 rfl rfl (rest := []) rfl (Nat.le_of_ble_eq_true rfl) ⟨Nat.le_of_ble_eq_true rfl, Nat.le_of_ble_eq_true rfl⟩ ⟨Nat.le_of_ble_eq_true rfl, Nat.le_of_ble_eq_true rfl⟩ (fun r σ9541 hp => ?_)
                        obtain ⟨P9544, oP9544, rP9544, pr9545, h9542, rfl⟩ := hp
                        have h9543 := HS.trans h9540 h9542 (by decide)
                        have xP9544 := oP9544
                        unfold OKP at xP9544
                        unfold RA at rP9544
                        refine m_aload_n F rfl e_X10_readLine_170 ?_
                        refine m_dup F rfl e_X10_readLine_171 ?_
                        refine r_get F e_X10_readLine_172 fl_X10_202 h9543 rfl (fun v hv f9546 => ?_)
                        obtain ⟨x9547, rfl⟩ := hv
                        refine m_iconst F (v := 1) (by decide) e_X10_readLine_175 ?_
                        refine m_iadd F e_X10_readLine_176 ?_
                        refine Wm.top (fun x9548 _ => ?_)
                        refine r_put F (g' := (⟨T, 0, u, h, P9544, L⟩ : RG)) e_X10_readLine_177 fp_X10_202 h9543 (by decide) ⟨_, rfl⟩ (fun _ _ _ _ q => q) (fun _ _ _ q => q) rfl rfl (by decide) (fun σ9549 h9550 g9551 g9552 f9553 => ?_)
                        have pg9554 := pr9545.of (g9552 23 (by decide)) (g9552 21 (by decide))
                        have h9555 : HS V c _ [0, 2, 17, 18, 19, 20, 21, 22, 23] _ _ := ⟨HR.mono (Z' := Z) (by intro e; first | rfl | assumption | omega) h9550.1, h9550.2⟩
                        exact m_vret F hQ e_X10_readLine_180 (⟨P9544, oP9544, (by unfold RP; omega), (pg9554.mono (by omega)), h9555, rfl⟩)
                  · subst q132
                    refine m_aload_n F rfl e_X10_readLine_135 ?_
                    refine r_callV F e_X10_readLine_136 (q_X10_readOption (x_l X) V c T Z u h P L _ _  h1.1 (hob) hP ) cb_X10_readOption ml_X10_196 im_X10_readOption se_X10_readOption h1 rfl rfl (rest := []) rfl (Nat.le_of_ble_eq_true rfl) ⟨Nat.le_of_ble_eq_true rfl, Nat.le_of_ble_eq_true rfl⟩ ⟨Nat.le_of_ble_eq_true rfl, Nat.le_of_ble_eq_true rfl⟩ (fun r σ9556 hp => ?_)
                    obtain ⟨P9559, oP9559, rP9559, h9557, rfl⟩ := hp
                    have h9558 := HS.trans h1 h9557 (by decide)
                    have xP9559 := oP9559
                    unfold OKP at xP9559
                    unfold RP at rP9559
                    refine m_goto F e_X10_readLine_139 ?_
                    refine m_aload_n F rfl e_X10_readLine_146 ?_
                    refine r_get F e_X10_readLine_147 fl_X10_141 h9558 rfl (fun v hv f9560 => ?_)
                    obtain ⟨x9561, hx9561, rfl⟩ := hv
                    replace hx9561 : Z = 0 → x9561 ≠ 0 := hx9561
                    refine m_if_ne F e_X10_readLine_150 (fun q150 => ?_) (fun q150 => ?_)
                    · have h9562 := HS.z0 h9558 (f9560) q150
                      refine m_aload_n F rfl e_X10_readLine_166 ?_
                      refine r_callV F e_X10_readLine_167 (q_X10_goOn (x_l X) V c T 0 u h P9559 L _ _  h9562.1 (hob) oP9559 ) cb_X10_goOn ml_X10_154 im_X10_goOn se_X10_goOn h9562 rfl rfl (rest := []) rfl (Nat.le_of_ble_eq_true rfl) ⟨Nat.le_of_ble_eq_true rfl, Nat.le_of_ble_eq_true rfl⟩ ⟨Nat.le_of_ble_eq_true rfl, Nat.le_of_ble_eq_true rfl⟩ (fun r σ9563 hp => ?_)
                      obtain ⟨P9566, oP9566, rP9566, pr9567, h9564, rfl⟩ := hp
                      have h9565 := HS.trans h9562 h9564 (by decide)
                      have xP9566 := oP9566
                      unfold OKP at xP9566
                      unfold RA at rP9566
                      refine m_aload_n F rfl e_X10_readLine_170 ?_
                      refine m_dup F rfl e_X10_readLine_171 ?_
                      refine r_get F e_X10_readLine_172 fl_X10_202 h9565 rfl (fun v hv f9568 => ?_)
                      obtain ⟨x9569, rfl⟩ := hv
                      refine m_iconst F (v := 1) (by decide) e_X10_readLine_175 ?_
                      refine m_iadd F e_X10_readLine_176 ?_
                      refine Wm.top (fun x9570 _ => ?_)
                      refine r_put F (g' := (⟨T, 0, u, h, P9566, L⟩ : RG)) e_X10_readLine_177 fp_X10_202 h9565 (by decide) ⟨_, rfl⟩ (fun _ _ _ _ q => q) (fun _ _ _ q => q) rfl rfl (by decide) (fun σ9571 h9572 g9573 g9574 f9575 => ?_)
                      have pg9576 := pr9567.of (g9574 23 (by decide)) (g9574 21 (by decide))
                      have h9577 : HS V c _ [0, 2, 17, 18, 19, 20, 21, 22, 23] _ _ := ⟨HR.mono (Z' := Z) (by intro e; first | rfl | assumption | omega) h9572.1, h9572.2⟩
                      exact m_vret F hQ e_X10_readLine_180 (⟨P9566, oP9566, (by unfold RP; omega), (pg9576.mono (by omega)), h9577, rfl⟩)
                    · subst q150
                      refine m_aload_n F rfl e_X10_readLine_153 ?_
                      refine r_get F e_X10_readLine_154 fl_X10_110 h9558 rfl (fun v hv f9578 => ?_)
                      obtain ⟨x9579, rfl⟩ := hv
                      refine m_iconst F (v := 3) (by decide) e_X10_readLine_157 ?_
                      refine m_icmp_eq F e_X10_readLine_158 (fun q158 => ?_) (fun q158 => ?_)
                      · subst q158
                        refine m_aload_n F rfl e_X10_readLine_166 ?_
                        refine r_callV F e_X10_readLine_167 (q_X10_goOn (x_l X) V c T Z u h P9559 L _ _  h9558.1 (hob) oP9559 ) cb_X10_goOn ml_X10_154 im_X10_goOn se_X10_goOn h9558 rfl rfl (rest := []) rfl (Nat.le_of_ble_eq_true rfl) ⟨Nat.le_of_ble_eq_true rfl, Nat.le_of_ble_eq_true rfl⟩ ⟨Nat.le_of_ble_eq_true rfl, Nat.le_of_ble_eq_true rfl⟩ (fun r σ9580 hp => ?_)
                        obtain ⟨P9583, oP9583, rP9583, pr9584, h9581, rfl⟩ := hp
                        have h9582 := HS.trans h9558 h9581 (by decide)
                        have xP9583 := oP9583
                        unfold OKP at xP9583
                        unfold RA at rP9583
                        refine m_aload_n F rfl e_X10_readLine_170 ?_
                        refine m_dup F rfl e_X10_readLine_171 ?_
                        refine r_get F e_X10_readLine_172 fl_X10_202 h9582 rfl (fun v hv f9585 => ?_)
                        obtain ⟨x9586, rfl⟩ := hv
                        refine m_iconst F (v := 1) (by decide) e_X10_readLine_175 ?_
                        refine m_iadd F e_X10_readLine_176 ?_
                        refine Wm.top (fun x9587 _ => ?_)
                        refine r_put F (g' := (⟨T, Z, u, h, P9583, L⟩ : RG)) e_X10_readLine_177 fp_X10_202 h9582 (by decide) ⟨_, rfl⟩ (fun _ _ _ _ q => q) (fun _ _ _ q => q) rfl rfl (by decide) (fun σ9588 h9589 g9590 g9591 f9592 => ?_)
                        have pg9593 := pr9584.of (g9591 23 (by decide)) (g9591 21 (by decide))
                        exact m_vret F hQ e_X10_readLine_180 (⟨P9583, oP9583, (by unfold RP; omega), (pg9593.mono (by omega)), h9589, rfl⟩)
                      · refine m_aload_n F rfl e_X10_readLine_161 ?_
                        refine m_iconst F (v := 1) (by decide) e_X10_readLine_162 ?_
                        refine r_callV F e_X10_readLine_163 (q_X10_wrong (x_l X) V c T Z u h P9559 L _ _ 1 h9558.1 (hob) oP9559 (by first | omega | assumption | decide)) cb_X10_wrong ml_X10_150 im_X10_wrong se_X10_wrong h9558 rfl rfl (rest := []) rfl (Nat.le_of_ble_eq_true rfl) ⟨Nat.le_of_ble_eq_true rfl, Nat.le_of_ble_eq_true rfl⟩ ⟨Nat.le_of_ble_eq_true rfl, Nat.le_of_ble_eq_true rfl⟩ (fun r σ9594 hp => ?_)
                        obtain ⟨h9595, rfl⟩ := hp
                        have h9596 := HS.trans h9558 h9595 (by decide)
                        refine m_aload_n F rfl e_X10_readLine_166 ?_
                        refine r_callV F e_X10_readLine_167 (q_X10_goOn (x_l X) V c T 0 u h P9559 L _ _  h9596.1 (hob) oP9559 ) cb_X10_goOn ml_X10_154 im_X10_goOn se_X10_goOn h9596 rfl rfl (rest := []) rfl (Nat.le_of_ble_eq_true rfl) ⟨Nat.le_of_ble_eq_true rfl, Nat.le_of_ble_eq_true rfl⟩ ⟨Nat.le_of_ble_eq_true rfl, Nat.le_of_ble_eq_true rfl⟩ (fun r σ9597 hp => ?_)
                        obtain ⟨P9600, oP9600, rP9600, pr9601, h9598, rfl⟩ := hp
                        have h9599 := HS.trans h9596 h9598 (by decide)
                        have xP9600 := oP9600
                        unfold OKP at xP9600
                        unfold RA at rP9600
                        refine m_aload_n F rfl e_X10_readLine_170 ?_
                        refine m_dup F rfl e_X10_readLine_171 ?_
                        refine r_get F e_X10_readLine_172 fl_X10_202 h9599 rfl (fun v hv f9602 => ?_)
                        obtain ⟨x9603, rfl⟩ := hv
                        refine m_iconst F (v := 1) (by decide) e_X10_readLine_175 ?_
                        refine m_iadd F e_X10_readLine_176 ?_
                        refine Wm.top (fun x9604 _ => ?_)
                        refine r_put F (g' := (⟨T, 0, u, h, P9600, L⟩ : RG)) e_X10_readLine_177 fp_X10_202 h9599 (by decide) ⟨_, rfl⟩ (fun _ _ _ _ q => q) (fun _ _ _ q => q) rfl rfl (by decide) (fun σ9605 h9606 g9607 g9608 f9609 => ?_)
                        have pg9610 := pr9601.of (g9608 23 (by decide)) (g9608 21 (by decide))
                        have h9611 : HS V c _ [0, 2, 17, 18, 19, 20, 21, 22, 23] _ _ := ⟨HR.mono (Z' := Z) (by intro e; first | rfl | assumption | omega) h9606.1, h9606.2⟩
                        exact m_vret F hQ e_X10_readLine_180 (⟨P9600, oP9600, (by unfold RP; omega), (pg9610.mono (by omega)), h9611, rfl⟩)
                · subst q116
                  refine m_aload_n F rfl e_X10_readLine_119 ?_
                  refine r_callV F e_X10_readLine_120 (q_X10_readChange (x_l X) V c T Z u h P L _ _  h1.1 (hob) hP ) cb_X10_readChange ml_X10_193 im_X10_readChange se_X10_readChange h1 rfl rfl (rest := []) rfl (Nat.le_of_ble_eq_true rfl) ⟨Nat.le_of_ble_eq_true rfl, Nat.le_of_ble_eq_true rfl⟩ ⟨Nat.le_of_ble_eq_true rfl, Nat.le_of_ble_eq_true rfl⟩ (fun r σ9612 hp => ?_)
                  obtain ⟨P9615, oP9615, rP9615, h9613, rfl⟩ := hp
                  have h9614 := HS.trans h1 h9613 (by decide)
                  have xP9615 := oP9615
                  unfold OKP at xP9615
                  unfold RP at rP9615
                  refine m_goto F e_X10_readLine_123 ?_
                  refine m_aload_n F rfl e_X10_readLine_146 ?_
                  refine r_get F e_X10_readLine_147 fl_X10_141 h9614 rfl (fun v hv f9616 => ?_)
                  obtain ⟨x9617, hx9617, rfl⟩ := hv
                  replace hx9617 : Z = 0 → x9617 ≠ 0 := hx9617
                  refine m_if_ne F e_X10_readLine_150 (fun q150 => ?_) (fun q150 => ?_)
                  · have h9618 := HS.z0 h9614 (f9616) q150
                    refine m_aload_n F rfl e_X10_readLine_166 ?_
                    refine r_callV F e_X10_readLine_167 (q_X10_goOn (x_l X) V c T 0 u h P9615 L _ _  h9618.1 (hob) oP9615 ) cb_X10_goOn ml_X10_154 im_X10_goOn se_X10_goOn h9618 rfl rfl (rest := []) rfl (Nat.le_of_ble_eq_true rfl) ⟨Nat.le_of_ble_eq_true rfl, Nat.le_of_ble_eq_true rfl⟩ ⟨Nat.le_of_ble_eq_true rfl, Nat.le_of_ble_eq_true rfl⟩ (fun r σ9619 hp => ?_)
                    obtain ⟨P9622, oP9622, rP9622, pr9623, h9620, rfl⟩ := hp
                    have h9621 := HS.trans h9618 h9620 (by decide)
                    have xP9622 := oP9622
                    unfold OKP at xP9622
                    unfold RA at rP9622
                    refine m_aload_n F rfl e_X10_readLine_170 ?_
                    refine m_dup F rfl e_X10_readLine_171 ?_
                    refine r_get F e_X10_readLine_172 fl_X10_202 h9621 rfl (fun v hv f9624 => ?_)
                    obtain ⟨x9625, rfl⟩ := hv
                    refine m_iconst F (v := 1) (by decide) e_X10_readLine_175 ?_
                    refine m_iadd F e_X10_readLine_176 ?_
                    refine Wm.top (fun x9626 _ => ?_)
                    refine r_put F (g' := (⟨T, 0, u, h, P9622, L⟩ : RG)) e_X10_readLine_177 fp_X10_202 h9621 (by decide) ⟨_, rfl⟩ (fun _ _ _ _ q => q) (fun _ _ _ q => q) rfl rfl (by decide) (fun σ9627 h9628 g9629 g9630 f9631 => ?_)
                    have pg9632 := pr9623.of (g9630 23 (by decide)) (g9630 21 (by decide))
                    have h9633 : HS V c _ [0, 2, 17, 18, 19, 20, 21, 22, 23] _ _ := ⟨HR.mono (Z' := Z) (by intro e; first | rfl | assumption | omega) h9628.1, h9628.2⟩
                    exact m_vret F hQ e_X10_readLine_180 (⟨P9622, oP9622, (by unfold RP; omega), (pg9632.mono (by omega)), h9633, rfl⟩)
                  · subst q150
                    refine m_aload_n F rfl e_X10_readLine_153 ?_
                    refine r_get F e_X10_readLine_154 fl_X10_110 h9614 rfl (fun v hv f9634 => ?_)
                    obtain ⟨x9635, rfl⟩ := hv
                    refine m_iconst F (v := 3) (by decide) e_X10_readLine_157 ?_
                    refine m_icmp_eq F e_X10_readLine_158 (fun q158 => ?_) (fun q158 => ?_)
                    · subst q158
                      refine m_aload_n F rfl e_X10_readLine_166 ?_
                      refine r_callV F e_X10_readLine_167 (q_X10_goOn (x_l X) V c T Z u h P9615 L _ _  h9614.1 (hob) oP9615 ) cb_X10_goOn ml_X10_154 im_X10_goOn se_X10_goOn h9614 rfl rfl (rest := []) rfl (Nat.le_of_ble_eq_true rfl) ⟨Nat.le_of_ble_eq_true rfl, Nat.le_of_ble_eq_true rfl⟩ ⟨Nat.le_of_ble_eq_true rfl, Nat.le_of_ble_eq_true rfl⟩ (fun r σ9636 hp => ?_)
                      obtain ⟨P9639, oP9639, rP9639, pr9640, h9637, rfl⟩ := hp
                      have h9638 := HS.trans h9614 h9637 (by decide)
                      have xP9639 := oP9639
                      unfold OKP at xP9639
                      unfold RA at rP9639
                      refine m_aload_n F rfl e_X10_readLine_170 ?_
                      refine m_dup F rfl e_X10_readLine_171 ?_
                      refine r_get F e_X10_readLine_172 fl_X10_202 h9638 rfl (fun v hv f9641 => ?_)
                      obtain ⟨x9642, rfl⟩ := hv
                      refine m_iconst F (v := 1) (by decide) e_X10_readLine_175 ?_
                      refine m_iadd F e_X10_readLine_176 ?_
                      refine Wm.top (fun x9643 _ => ?_)
                      refine r_put F (g' := (⟨T, Z, u, h, P9639, L⟩ : RG)) e_X10_readLine_177 fp_X10_202 h9638 (by decide) ⟨_, rfl⟩ (fun _ _ _ _ q => q) (fun _ _ _ q => q) rfl rfl (by decide) (fun σ9644 h9645 g9646 g9647 f9648 => ?_)
                      have pg9649 := pr9640.of (g9647 23 (by decide)) (g9647 21 (by decide))
                      exact m_vret F hQ e_X10_readLine_180 (⟨P9639, oP9639, (by unfold RP; omega), (pg9649.mono (by omega)), h9645, rfl⟩)
                    · refine m_aload_n F rfl e_X10_readLine_161 ?_
                      refine m_iconst F (v := 1) (by decide) e_X10_readLine_162 ?_
                      refine r_callV F e_X10_readLine_163 (q_X10_wrong (x_l X) V c T Z u h P9615 L _ _ 1 h9614.1 (hob) oP9615 (by first | omega | assumption | decide)) cb_X10_wrong ml_X10_150 im_X10_wrong se_X10_wrong h9614 rfl rfl (rest := []) rfl (Nat.le_of_ble_eq_true rfl) ⟨Nat.le_of_ble_eq_true rfl, Nat.le_of_ble_eq_true rfl⟩ ⟨Nat.le_of_ble_eq_true rfl, Nat.le_of_ble_eq_true rfl⟩ (fun r σ9650 hp => ?_)
                      obtain ⟨h9651, rfl⟩ := hp
                      have h9652 := HS.trans h9614 h9651 (by decide)
                      refine m_aload_n F rfl e_X10_readLine_166 ?_
                      refine r_callV F e_X10_readLine_167 (q_X10_goOn (x_l X) V c T 0 u h P9615 L _ _  h9652.1 (hob) oP9615 ) cb_X10_goOn ml_X10_154 im_X10_goOn se_X10_goOn h9652 rfl rfl (rest := []) rfl (Nat.le_of_ble_eq_true rfl) ⟨Nat.le_of_ble_eq_true rfl, Nat.le_of_ble_eq_true rfl⟩ ⟨Nat.le_of_ble_eq_true rfl, Nat.le_of_ble_eq_true rfl⟩ (fun r σ9653 hp => ?_)
                      obtain ⟨P9656, oP9656, rP9656, pr9657, h9654, rfl⟩ := hp
                      have h9655 := HS.trans h9652 h9654 (by decide)
                      have xP9656 := oP9656
                      unfold OKP at xP9656
                      unfold RA at rP9656
                      refine m_aload_n F rfl e_X10_readLine_170 ?_
                      refine m_dup F rfl e_X10_readLine_171 ?_
                      refine r_get F e_X10_readLine_172 fl_X10_202 h9655 rfl (fun v hv f9658 => ?_)
                      obtain ⟨x9659, rfl⟩ := hv
                      refine m_iconst F (v := 1) (by decide) e_X10_readLine_175 ?_
                      refine m_iadd F e_X10_readLine_176 ?_
                      refine Wm.top (fun x9660 _ => ?_)
                      refine r_put F (g' := (⟨T, 0, u, h, P9656, L⟩ : RG)) e_X10_readLine_177 fp_X10_202 h9655 (by decide) ⟨_, rfl⟩ (fun _ _ _ _ q => q) (fun _ _ _ q => q) rfl rfl (by decide) (fun σ9661 h9662 g9663 g9664 f9665 => ?_)
                      have pg9666 := pr9657.of (g9664 23 (by decide)) (g9664 21 (by decide))
                      have h9667 : HS V c _ [0, 2, 17, 18, 19, 20, 21, 22, 23] _ _ := ⟨HR.mono (Z' := Z) (by intro e; first | rfl | assumption | omega) h9662.1, h9662.2⟩
                      exact m_vret F hQ e_X10_readLine_180 (⟨P9656, oP9656, (by unfold RP; omega), (pg9666.mono (by omega)), h9667, rfl⟩)
              · subst q100
                refine m_aload_n F rfl e_X10_readLine_103 ?_
                refine r_callV F e_X10_readLine_104 (q_X10_readFee (x_l X) V c T Z u h P L _ _  h1.1 (hob) hP ) cb_X10_readFee ml_X10_190 im_X10_readFee se_X10_readFee h1 rfl rfl (rest := []) rfl (Nat.le_of_ble_eq_true rfl) ⟨Nat.le_of_ble_eq_true rfl, Nat.le_of_ble_eq_true rfl⟩ ⟨Nat.le_of_ble_eq_true rfl, Nat.le_of_ble_eq_true rfl⟩ (fun r σ9668 hp => ?_)
                obtain ⟨P9671, oP9671, rP9671, h9669, rfl⟩ := hp
                have h9670 := HS.trans h1 h9669 (by decide)
                have xP9671 := oP9671
                unfold OKP at xP9671
                unfold RP at rP9671
                refine m_goto F e_X10_readLine_107 ?_
                refine m_aload_n F rfl e_X10_readLine_146 ?_
                refine r_get F e_X10_readLine_147 fl_X10_141 h9670 rfl (fun v hv f9672 => ?_)
                obtain ⟨x9673, hx9673, rfl⟩ := hv
                replace hx9673 : Z = 0 → x9673 ≠ 0 := hx9673
                refine m_if_ne F e_X10_readLine_150 (fun q150 => ?_) (fun q150 => ?_)
                · have h9674 := HS.z0 h9670 (f9672) q150
                  refine m_aload_n F rfl e_X10_readLine_166 ?_
                  refine r_callV F e_X10_readLine_167 (q_X10_goOn (x_l X) V c T 0 u h P9671 L _ _  h9674.1 (hob) oP9671 ) cb_X10_goOn ml_X10_154 im_X10_goOn se_X10_goOn h9674 rfl rfl (rest := []) rfl (Nat.le_of_ble_eq_true rfl) ⟨Nat.le_of_ble_eq_true rfl, Nat.le_of_ble_eq_true rfl⟩ ⟨Nat.le_of_ble_eq_true rfl, Nat.le_of_ble_eq_true rfl⟩ (fun r σ9675 hp => ?_)
                  obtain ⟨P9678, oP9678, rP9678, pr9679, h9676, rfl⟩ := hp
                  have h9677 := HS.trans h9674 h9676 (by decide)
                  have xP9678 := oP9678
                  unfold OKP at xP9678
                  unfold RA at rP9678
                  refine m_aload_n F rfl e_X10_readLine_170 ?_
                  refine m_dup F rfl e_X10_readLine_171 ?_
                  refine r_get F e_X10_readLine_172 fl_X10_202 h9677 rfl (fun v hv f9680 => ?_)
                  obtain ⟨x9681, rfl⟩ := hv
                  refine m_iconst F (v := 1) (by decide) e_X10_readLine_175 ?_
                  refine m_iadd F e_X10_readLine_176 ?_
                  refine Wm.top (fun x9682 _ => ?_)
                  refine r_put F (g' := (⟨T, 0, u, h, P9678, L⟩ : RG)) e_X10_readLine_177 fp_X10_202 h9677 (by decide) ⟨_, rfl⟩ (fun _ _ _ _ q => q) (fun _ _ _ q => q) rfl rfl (by decide) (fun σ9683 h9684 g9685 g9686 f9687 => ?_)
                  have pg9688 := pr9679.of (g9686 23 (by decide)) (g9686 21 (by decide))
                  have h9689 : HS V c _ [0, 2, 17, 18, 19, 20, 21, 22, 23] _ _ := ⟨HR.mono (Z' := Z) (by intro e; first | rfl | assumption | omega) h9684.1, h9684.2⟩
                  exact m_vret F hQ e_X10_readLine_180 (⟨P9678, oP9678, (by unfold RP; omega), (pg9688.mono (by omega)), h9689, rfl⟩)
                · subst q150
                  refine m_aload_n F rfl e_X10_readLine_153 ?_
                  refine r_get F e_X10_readLine_154 fl_X10_110 h9670 rfl (fun v hv f9690 => ?_)
                  obtain ⟨x9691, rfl⟩ := hv
                  refine m_iconst F (v := 3) (by decide) e_X10_readLine_157 ?_
                  refine m_icmp_eq F e_X10_readLine_158 (fun q158 => ?_) (fun q158 => ?_)
                  · subst q158
                    refine m_aload_n F rfl e_X10_readLine_166 ?_
                    refine r_callV F e_X10_readLine_167 (q_X10_goOn (x_l X) V c T Z u h P9671 L _ _  h9670.1 (hob) oP9671 ) cb_X10_goOn ml_X10_154 im_X10_goOn se_X10_goOn h9670 rfl rfl (rest := []) rfl (Nat.le_of_ble_eq_true rfl) ⟨Nat.le_of_ble_eq_true rfl, Nat.le_of_ble_eq_true rfl⟩ ⟨Nat.le_of_ble_eq_true rfl, Nat.le_of_ble_eq_true rfl⟩ (fun r σ9692 hp => ?_)
                    obtain ⟨P9695, oP9695, rP9695, pr9696, h9693, rfl⟩ := hp
                    have h9694 := HS.trans h9670 h9693 (by decide)
                    have xP9695 := oP9695
                    unfold OKP at xP9695
                    unfold RA at rP9695
                    refine m_aload_n F rfl e_X10_readLine_170 ?_
                    refine m_dup F rfl e_X10_readLine_171 ?_
                    refine r_get F e_X10_readLine_172 fl_X10_202 h9694 rfl (fun v hv f9697 => ?_)
                    obtain ⟨x9698, rfl⟩ := hv
                    refine m_iconst F (v := 1) (by decide) e_X10_readLine_175 ?_
                    refine m_iadd F e_X10_readLine_176 ?_
                    refine Wm.top (fun x9699 _ => ?_)
                    refine r_put F (g' := (⟨T, Z, u, h, P9695, L⟩ : RG)) e_X10_readLine_177 fp_X10_202 h9694 (by decide) ⟨_, rfl⟩ (fun _ _ _ _ q => q) (fun _ _ _ q => q) rfl rfl (by decide) (fun σ9700 h9701 g9702 g9703 f9704 => ?_)
                    have pg9705 := pr9696.of (g9703 23 (by decide)) (g9703 21 (by decide))
                    exact m_vret F hQ e_X10_readLine_180 (⟨P9695, oP9695, (by unfold RP; omega), (pg9705.mono (by omega)), h9701, rfl⟩)
                  · refine m_aload_n F rfl e_X10_readLine_161 ?_
                    refine m_iconst F (v := 1) (by decide) e_X10_readLine_162 ?_
                    refine r_callV F e_X10_readLine_163 (q_X10_wrong (x_l X) V c T Z u h P9671 L _ _ 1 h9670.1 (hob) oP9671 (by first | omega | assumption | decide)) cb_X10_wrong ml_X10_150 im_X10_wrong se_X10_wrong h9670 rfl rfl (rest := []) rfl (Nat.le_of_ble_eq_true rfl) ⟨Nat.le_of_ble_eq_true rfl, Nat.le_of_ble_eq_true rfl⟩ ⟨Nat.le_of_ble_eq_true rfl, Nat.le_of_ble_eq_true rfl⟩ (fun r σ9706 hp => ?_)
                    obtain ⟨h9707, rfl⟩ := hp
                    have h9708 := HS.trans h9670 h9707 (by decide)
                    refine m_aload_n F rfl e_X10_readLine_166 ?_
                    refine r_callV F e_X10_readLine_167 (q_X10_goOn (x_l X) V c T 0 u h P9671 L _ _  h9708.1 (hob) oP9671 ) cb_X10_goOn ml_X10_154 im_X10_goOn se_X10_goOn h9708 rfl rfl (rest := []) rfl (Nat.le_of_ble_eq_true rfl) ⟨Nat.le_of_ble_eq_true rfl, Nat.le_of_ble_eq_true rfl⟩ ⟨Nat.le_of_ble_eq_true rfl, Nat.le_of_ble_eq_true rfl⟩ (fun r σ9709 hp => ?_)
                    obtain ⟨P9712, oP9712, rP9712, pr9713, h9710, rfl⟩ := hp
                    have h9711 := HS.trans h9708 h9710 (by decide)
                    have xP9712 := oP9712
                    unfold OKP at xP9712
                    unfold RA at rP9712
                    refine m_aload_n F rfl e_X10_readLine_170 ?_
                    refine m_dup F rfl e_X10_readLine_171 ?_
                    refine r_get F e_X10_readLine_172 fl_X10_202 h9711 rfl (fun v hv f9714 => ?_)
                    obtain ⟨x9715, rfl⟩ := hv
                    refine m_iconst F (v := 1) (by decide) e_X10_readLine_175 ?_
                    refine m_iadd F e_X10_readLine_176 ?_
                    refine Wm.top (fun x9716 _ => ?_)
                    refine r_put F (g' := (⟨T, 0, u, h, P9712, L⟩ : RG)) e_X10_readLine_177 fp_X10_202 h9711 (by decide) ⟨_, rfl⟩ (fun _ _ _ _ q => q) (fun _ _ _ q => q) rfl rfl (by decide) (fun σ9717 h9718 g9719 g9720 f9721 => ?_)
                    have pg9722 := pr9713.of (g9720 23 (by decide)) (g9720 21 (by decide))
                    have h9723 : HS V c _ [0, 2, 17, 18, 19, 20, 21, 22, 23] _ _ := ⟨HR.mono (Z' := Z) (by intro e; first | rfl | assumption | omega) h9718.1, h9718.2⟩
                    exact m_vret F hQ e_X10_readLine_180 (⟨P9712, oP9712, (by unfold RP; omega), (pg9722.mono (by omega)), h9723, rfl⟩)
            · subst q85
              refine m_aload_n F rfl e_X10_readLine_88 ?_
              refine r_callV F e_X10_readLine_89 (q_X10_readFair (x_l X) V c T Z u h P L _ _  h1.1 (hob) hP ) cb_X10_readFair ml_X10_187 im_X10_readFair se_X10_readFair h1 rfl rfl (rest := []) rfl (Nat.le_of_ble_eq_true rfl) ⟨Nat.le_of_ble_eq_true rfl, Nat.le_of_ble_eq_true rfl⟩ ⟨Nat.le_of_ble_eq_true rfl, Nat.le_of_ble_eq_true rfl⟩ (fun r σ9724 hp => ?_)
              obtain ⟨P9727, oP9727, rP9727, h9725, rfl⟩ := hp
              have h9726 := HS.trans h1 h9725 (by decide)
              have xP9727 := oP9727
              unfold OKP at xP9727
              unfold RP at rP9727
              refine m_goto F e_X10_readLine_92 ?_
              refine m_aload_n F rfl e_X10_readLine_146 ?_
              refine r_get F e_X10_readLine_147 fl_X10_141 h9726 rfl (fun v hv f9728 => ?_)
              obtain ⟨x9729, hx9729, rfl⟩ := hv
              replace hx9729 : Z = 0 → x9729 ≠ 0 := hx9729
              refine m_if_ne F e_X10_readLine_150 (fun q150 => ?_) (fun q150 => ?_)
              · have h9730 := HS.z0 h9726 (f9728) q150
                refine m_aload_n F rfl e_X10_readLine_166 ?_
                refine r_callV F e_X10_readLine_167 (q_X10_goOn (x_l X) V c T 0 u h P9727 L _ _  h9730.1 (hob) oP9727 ) cb_X10_goOn ml_X10_154 im_X10_goOn se_X10_goOn h9730 rfl rfl (rest := []) rfl (Nat.le_of_ble_eq_true rfl) ⟨Nat.le_of_ble_eq_true rfl, Nat.le_of_ble_eq_true rfl⟩ ⟨Nat.le_of_ble_eq_true rfl, Nat.le_of_ble_eq_true rfl⟩ (fun r σ9731 hp => ?_)
                obtain ⟨P9734, oP9734, rP9734, pr9735, h9732, rfl⟩ := hp
                have h9733 := HS.trans h9730 h9732 (by decide)
                have xP9734 := oP9734
                unfold OKP at xP9734
                unfold RA at rP9734
                refine m_aload_n F rfl e_X10_readLine_170 ?_
                refine m_dup F rfl e_X10_readLine_171 ?_
                refine r_get F e_X10_readLine_172 fl_X10_202 h9733 rfl (fun v hv f9736 => ?_)
                obtain ⟨x9737, rfl⟩ := hv
                refine m_iconst F (v := 1) (by decide) e_X10_readLine_175 ?_
                refine m_iadd F e_X10_readLine_176 ?_
                refine Wm.top (fun x9738 _ => ?_)
                refine r_put F (g' := (⟨T, 0, u, h, P9734, L⟩ : RG)) e_X10_readLine_177 fp_X10_202 h9733 (by decide) ⟨_, rfl⟩ (fun _ _ _ _ q => q) (fun _ _ _ q => q) rfl rfl (by decide) (fun σ9739 h9740 g9741 g9742 f9743 => ?_)
                have pg9744 := pr9735.of (g9742 23 (by decide)) (g9742 21 (by decide))
                have h9745 : HS V c _ [0, 2, 17, 18, 19, 20, 21, 22, 23] _ _ := ⟨HR.mono (Z' := Z) (by intro e; first | rfl | assumption | omega) h9740.1, h9740.2⟩
                exact m_vret F hQ e_X10_readLine_180 (⟨P9734, oP9734, (by unfold RP; omega), (pg9744.mono (by omega)), h9745, rfl⟩)
              · subst q150
                refine m_aload_n F rfl e_X10_readLine_153 ?_
                refine r_get F e_X10_readLine_154 fl_X10_110 h9726 rfl (fun v hv f9746 => ?_)
                obtain ⟨x9747, rfl⟩ := hv
                refine m_iconst F (v := 3) (by decide) e_X10_readLine_157 ?_
                refine m_icmp_eq F e_X10_readLine_158 (fun q158 => ?_) (fun q158 => ?_)
                · subst q158
                  refine m_aload_n F rfl e_X10_readLine_166 ?_
                  refine r_callV F e_X10_readLine_167 (q_X10_goOn (x_l X) V c T Z u h P9727 L _ _  h9726.1 (hob) oP9727 ) cb_X10_goOn ml_X10_154 im_X10_goOn se_X10_goOn h9726 rfl rfl (rest := []) rfl (Nat.le_of_ble_eq_true rfl) ⟨Nat.le_of_ble_eq_true rfl, Nat.le_of_ble_eq_true rfl⟩ ⟨Nat.le_of_ble_eq_true rfl, Nat.le_of_ble_eq_true rfl⟩ (fun r σ9748 hp => ?_)
                  obtain ⟨P9751, oP9751, rP9751, pr9752, h9749, rfl⟩ := hp
                  have h9750 := HS.trans h9726 h9749 (by decide)
                  have xP9751 := oP9751
                  unfold OKP at xP9751
                  unfold RA at rP9751
                  refine m_aload_n F rfl e_X10_readLine_170 ?_
                  refine m_dup F rfl e_X10_readLine_171 ?_
                  refine r_get F e_X10_readLine_172 fl_X10_202 h9750 rfl (fun v hv f9753 => ?_)
                  obtain ⟨x9754, rfl⟩ := hv
                  refine m_iconst F (v := 1) (by decide) e_X10_readLine_175 ?_
                  refine m_iadd F e_X10_readLine_176 ?_
                  refine Wm.top (fun x9755 _ => ?_)
                  refine r_put F (g' := (⟨T, Z, u, h, P9751, L⟩ : RG)) e_X10_readLine_177 fp_X10_202 h9750 (by decide) ⟨_, rfl⟩ (fun _ _ _ _ q => q) (fun _ _ _ q => q) rfl rfl (by decide) (fun σ9756 h9757 g9758 g9759 f9760 => ?_)
                  have pg9761 := pr9752.of (g9759 23 (by decide)) (g9759 21 (by decide))
                  exact m_vret F hQ e_X10_readLine_180 (⟨P9751, oP9751, (by unfold RP; omega), (pg9761.mono (by omega)), h9757, rfl⟩)
                · refine m_aload_n F rfl e_X10_readLine_161 ?_
                  refine m_iconst F (v := 1) (by decide) e_X10_readLine_162 ?_
                  refine r_callV F e_X10_readLine_163 (q_X10_wrong (x_l X) V c T Z u h P9727 L _ _ 1 h9726.1 (hob) oP9727 (by first | omega | assumption | decide)) cb_X10_wrong ml_X10_150 im_X10_wrong se_X10_wrong h9726 rfl rfl (rest := []) rfl (Nat.le_of_ble_eq_true rfl) ⟨Nat.le_of_ble_eq_true rfl, Nat.le_of_ble_eq_true rfl⟩ ⟨Nat.le_of_ble_eq_true rfl, Nat.le_of_ble_eq_true rfl⟩ (fun r σ9762 hp => ?_)
                  obtain ⟨h9763, rfl⟩ := hp
                  have h9764 := HS.trans h9726 h9763 (by decide)
                  refine m_aload_n F rfl e_X10_readLine_166 ?_
                  refine r_callV F e_X10_readLine_167 (q_X10_goOn (x_l X) V c T 0 u h P9727 L _ _  h9764.1 (hob) oP9727 ) cb_X10_goOn ml_X10_154 im_X10_goOn se_X10_goOn h9764 rfl rfl (rest := []) rfl (Nat.le_of_ble_eq_true rfl) ⟨Nat.le_of_ble_eq_true rfl, Nat.le_of_ble_eq_true rfl⟩ ⟨Nat.le_of_ble_eq_true rfl, Nat.le_of_ble_eq_true rfl⟩ (fun r σ9765 hp => ?_)
                  obtain ⟨P9768, oP9768, rP9768, pr9769, h9766, rfl⟩ := hp
                  have h9767 := HS.trans h9764 h9766 (by decide)
                  have xP9768 := oP9768
                  unfold OKP at xP9768
                  unfold RA at rP9768
                  refine m_aload_n F rfl e_X10_readLine_170 ?_
                  refine m_dup F rfl e_X10_readLine_171 ?_
                  refine r_get F e_X10_readLine_172 fl_X10_202 h9767 rfl (fun v hv f9770 => ?_)
                  obtain ⟨x9771, rfl⟩ := hv
                  refine m_iconst F (v := 1) (by decide) e_X10_readLine_175 ?_
                  refine m_iadd F e_X10_readLine_176 ?_
                  refine Wm.top (fun x9772 _ => ?_)
                  refine r_put F (g' := (⟨T, 0, u, h, P9768, L⟩ : RG)) e_X10_readLine_177 fp_X10_202 h9767 (by decide) ⟨_, rfl⟩ (fun _ _ _ _ q => q) (fun _ _ _ q => q) rfl rfl (by decide) (fun σ9773 h9774 g9775 g9776 f9777 => ?_)
                  have pg9778 := pr9769.of (g9776 23 (by decide)) (g9776 21 (by decide))
                  have h9779 : HS V c _ [0, 2, 17, 18, 19, 20, 21, 22, 23] _ _ := ⟨HR.mono (Z' := Z) (by intro e; first | rfl | assumption | omega) h9774.1, h9774.2⟩
                  exact m_vret F hQ e_X10_readLine_180 (⟨P9768, oP9768, (by unfold RP; omega), (pg9778.mono (by omega)), h9779, rfl⟩)
          · subst q57
            refine m_aload_n F rfl e_X10_readLine_60 ?_
            refine m_aload_n F rfl e_X10_readLine_61 ?_
            refine r_getC F e_X10_readLine_62 fl_X10_120 h1 (f9442) ?_
            refine m_iconst F (v := 2) (by decide) e_X10_readLine_65 ?_
            refine m_icmp_ne F e_X10_readLine_66 (fun _ => ?_) (fun q => absurd q (by decide))
            refine m_iconst F (v := 2) (by decide) e_X10_readLine_73 ?_
            refine r_callV F e_X10_readLine_74 (q_X10_readMark (x_l X) V c T Z u h P L _ _ 2 h1.1 (hob) hP ) cb_X10_readMark ml_X10_184 im_X10_readMark se_X10_readMark h1 rfl rfl (rest := []) rfl (Nat.le_of_ble_eq_true rfl) ⟨Nat.le_of_ble_eq_true rfl, Nat.le_of_ble_eq_true rfl⟩ ⟨Nat.le_of_ble_eq_true rfl, Nat.le_of_ble_eq_true rfl⟩ (fun r σ9780 hp => ?_)
            obtain ⟨P9783, oP9783, rP9783, h9781, rfl⟩ := hp
            have h9782 := HS.trans h1 h9781 (by decide)
            have xP9783 := oP9783
            unfold OKP at xP9783
            unfold RP at rP9783
            refine m_goto F e_X10_readLine_77 ?_
            refine m_aload_n F rfl e_X10_readLine_146 ?_
            refine r_get F e_X10_readLine_147 fl_X10_141 h9782 rfl (fun v hv f9784 => ?_)
            obtain ⟨x9785, hx9785, rfl⟩ := hv
            replace hx9785 : Z = 0 → x9785 ≠ 0 := hx9785
            refine m_if_ne F e_X10_readLine_150 (fun q150 => ?_) (fun q150 => ?_)
            · have h9786 := HS.z0 h9782 (f9784) q150
              refine m_aload_n F rfl e_X10_readLine_166 ?_
              refine r_callV F e_X10_readLine_167 (q_X10_goOn (x_l X) V c T 0 u h P9783 L _ _  h9786.1 (hob) oP9783 ) cb_X10_goOn ml_X10_154 im_X10_goOn se_X10_goOn h9786 rfl rfl (rest := []) rfl (Nat.le_of_ble_eq_true rfl) ⟨Nat.le_of_ble_eq_true rfl, Nat.le_of_ble_eq_true rfl⟩ ⟨Nat.le_of_ble_eq_true rfl, Nat.le_of_ble_eq_true rfl⟩ (fun r σ9787 hp => ?_)
              obtain ⟨P9790, oP9790, rP9790, pr9791, h9788, rfl⟩ := hp
              have h9789 := HS.trans h9786 h9788 (by decide)
              have xP9790 := oP9790
              unfold OKP at xP9790
              unfold RA at rP9790
              refine m_aload_n F rfl e_X10_readLine_170 ?_
              refine m_dup F rfl e_X10_readLine_171 ?_
              refine r_get F e_X10_readLine_172 fl_X10_202 h9789 rfl (fun v hv f9792 => ?_)
              obtain ⟨x9793, rfl⟩ := hv
              refine m_iconst F (v := 1) (by decide) e_X10_readLine_175 ?_
              refine m_iadd F e_X10_readLine_176 ?_
              refine Wm.top (fun x9794 _ => ?_)
              refine r_put F (g' := (⟨T, 0, u, h, P9790, L⟩ : RG)) e_X10_readLine_177 fp_X10_202 h9789 (by decide) ⟨_, rfl⟩ (fun _ _ _ _ q => q) (fun _ _ _ q => q) rfl rfl (by decide) (fun σ9795 h9796 g9797 g9798 f9799 => ?_)
              have pg9800 := pr9791.of (g9798 23 (by decide)) (g9798 21 (by decide))
              have h9801 : HS V c _ [0, 2, 17, 18, 19, 20, 21, 22, 23] _ _ := ⟨HR.mono (Z' := Z) (by intro e; first | rfl | assumption | omega) h9796.1, h9796.2⟩
              exact m_vret F hQ e_X10_readLine_180 (⟨P9790, oP9790, (by unfold RP; omega), (pg9800.mono (by omega)), h9801, rfl⟩)
            · subst q150
              refine m_aload_n F rfl e_X10_readLine_153 ?_
              refine r_get F e_X10_readLine_154 fl_X10_110 h9782 rfl (fun v hv f9802 => ?_)
              obtain ⟨x9803, rfl⟩ := hv
              refine m_iconst F (v := 3) (by decide) e_X10_readLine_157 ?_
              refine m_icmp_eq F e_X10_readLine_158 (fun q158 => ?_) (fun q158 => ?_)
              · subst q158
                refine m_aload_n F rfl e_X10_readLine_166 ?_
                refine r_callV F e_X10_readLine_167 (q_X10_goOn (x_l X) V c T Z u h P9783 L _ _  h9782.1 (hob) oP9783 ) cb_X10_goOn ml_X10_154 im_X10_goOn se_X10_goOn h9782 rfl rfl (rest := []) rfl (Nat.le_of_ble_eq_true rfl) ⟨Nat.le_of_ble_eq_true rfl, Nat.le_of_ble_eq_true rfl⟩ ⟨Nat.le_of_ble_eq_true rfl, Nat.le_of_ble_eq_true rfl⟩ (fun r σ9804 hp => ?_)
                obtain ⟨P9807, oP9807, rP9807, pr9808, h9805, rfl⟩ := hp
                have h9806 := HS.trans h9782 h9805 (by decide)
                have xP9807 := oP9807
                unfold OKP at xP9807
                unfold RA at rP9807
                refine m_aload_n F rfl e_X10_readLine_170 ?_
                refine m_dup F rfl e_X10_readLine_171 ?_
                refine r_get F e_X10_readLine_172 fl_X10_202 h9806 rfl (fun v hv f9809 => ?_)
                obtain ⟨x9810, rfl⟩ := hv
                refine m_iconst F (v := 1) (by decide) e_X10_readLine_175 ?_
                refine m_iadd F e_X10_readLine_176 ?_
                refine Wm.top (fun x9811 _ => ?_)
                refine r_put F (g' := (⟨T, Z, u, h, P9807, L⟩ : RG)) e_X10_readLine_177 fp_X10_202 h9806 (by decide) ⟨_, rfl⟩ (fun _ _ _ _ q => q) (fun _ _ _ q => q) rfl rfl (by decide) (fun σ9812 h9813 g9814 g9815 f9816 => ?_)
                have pg9817 := pr9808.of (g9815 23 (by decide)) (g9815 21 (by decide))
                exact m_vret F hQ e_X10_readLine_180 (⟨P9807, oP9807, (by unfold RP; omega), (pg9817.mono (by omega)), h9813, rfl⟩)
              · refine m_aload_n F rfl e_X10_readLine_161 ?_
                refine m_iconst F (v := 1) (by decide) e_X10_readLine_162 ?_
                refine r_callV F e_X10_readLine_163 (q_X10_wrong (x_l X) V c T Z u h P9783 L _ _ 1 h9782.1 (hob) oP9783 (by first | omega | assumption | decide)) cb_X10_wrong ml_X10_150 im_X10_wrong se_X10_wrong h9782 rfl rfl (rest := []) rfl (Nat.le_of_ble_eq_true rfl) ⟨Nat.le_of_ble_eq_true rfl, Nat.le_of_ble_eq_true rfl⟩ ⟨Nat.le_of_ble_eq_true rfl, Nat.le_of_ble_eq_true rfl⟩ (fun r σ9818 hp => ?_)
                obtain ⟨h9819, rfl⟩ := hp
                have h9820 := HS.trans h9782 h9819 (by decide)
                refine m_aload_n F rfl e_X10_readLine_166 ?_
                refine r_callV F e_X10_readLine_167 (q_X10_goOn (x_l X) V c T 0 u h P9783 L _ _  h9820.1 (hob) oP9783 ) cb_X10_goOn ml_X10_154 im_X10_goOn se_X10_goOn h9820 rfl rfl (rest := []) rfl (Nat.le_of_ble_eq_true rfl) ⟨Nat.le_of_ble_eq_true rfl, Nat.le_of_ble_eq_true rfl⟩ ⟨Nat.le_of_ble_eq_true rfl, Nat.le_of_ble_eq_true rfl⟩ (fun r σ9821 hp => ?_)
                obtain ⟨P9824, oP9824, rP9824, pr9825, h9822, rfl⟩ := hp
                have h9823 := HS.trans h9820 h9822 (by decide)
                have xP9824 := oP9824
                unfold OKP at xP9824
                unfold RA at rP9824
                refine m_aload_n F rfl e_X10_readLine_170 ?_
                refine m_dup F rfl e_X10_readLine_171 ?_
                refine r_get F e_X10_readLine_172 fl_X10_202 h9823 rfl (fun v hv f9826 => ?_)
                obtain ⟨x9827, rfl⟩ := hv
                refine m_iconst F (v := 1) (by decide) e_X10_readLine_175 ?_
                refine m_iadd F e_X10_readLine_176 ?_
                refine Wm.top (fun x9828 _ => ?_)
                refine r_put F (g' := (⟨T, 0, u, h, P9824, L⟩ : RG)) e_X10_readLine_177 fp_X10_202 h9823 (by decide) ⟨_, rfl⟩ (fun _ _ _ _ q => q) (fun _ _ _ q => q) rfl rfl (by decide) (fun σ9829 h9830 g9831 g9832 f9833 => ?_)
                have pg9834 := pr9825.of (g9832 23 (by decide)) (g9832 21 (by decide))
                have h9835 : HS V c _ [0, 2, 17, 18, 19, 20, 21, 22, 23] _ _ := ⟨HR.mono (Z' := Z) (by intro e; first | rfl | assumption | omega) h9830.1, h9830.2⟩
                exact m_vret F hQ e_X10_readLine_180 (⟨P9824, oP9824, (by unfold RP; omega), (pg9834.mono (by omega)), h9835, rfl⟩)
      · subst q34
        refine m_aload_n F rfl e_X10_readLine_37 ?_
        refine r_callV F e_X10_readLine_38 (q_X10_readPay (x_l X) V c T Z u h P L _ _  h1.1 (hob) hP ) cb_X10_readPay ml_X10_181 im_X10_readPay se_X10_readPay h1 rfl rfl (rest := []) rfl (Nat.le_of_ble_eq_true rfl) ⟨Nat.le_of_ble_eq_true rfl, Nat.le_of_ble_eq_true rfl⟩ ⟨Nat.le_of_ble_eq_true rfl, Nat.le_of_ble_eq_true rfl⟩ (fun r σ9836 hp => ?_)
        obtain ⟨P9839, oP9839, rP9839, h9837, rfl⟩ := hp
        have h9838 := HS.trans h1 h9837 (by decide)
        have xP9839 := oP9839
        unfold OKP at xP9839
        unfold RP at rP9839
        refine m_goto F e_X10_readLine_41 ?_
        refine m_aload_n F rfl e_X10_readLine_146 ?_
        refine r_get F e_X10_readLine_147 fl_X10_141 h9838 rfl (fun v hv f9840 => ?_)
        obtain ⟨x9841, hx9841, rfl⟩ := hv
        replace hx9841 : Z = 0 → x9841 ≠ 0 := hx9841
        refine m_if_ne F e_X10_readLine_150 (fun q150 => ?_) (fun q150 => ?_)
        · have h9842 := HS.z0 h9838 (f9840) q150
          refine m_aload_n F rfl e_X10_readLine_166 ?_
          refine r_callV F e_X10_readLine_167 (q_X10_goOn (x_l X) V c T 0 u h P9839 L _ _  h9842.1 (hob) oP9839 ) cb_X10_goOn ml_X10_154 im_X10_goOn se_X10_goOn h9842 rfl rfl (rest := []) rfl (Nat.le_of_ble_eq_true rfl) ⟨Nat.le_of_ble_eq_true rfl, Nat.le_of_ble_eq_true rfl⟩ ⟨Nat.le_of_ble_eq_true rfl, Nat.le_of_ble_eq_true rfl⟩ (fun r σ9843 hp => ?_)
          obtain ⟨P9846, oP9846, rP9846, pr9847, h9844, rfl⟩ := hp
          have h9845 := HS.trans h9842 h9844 (by decide)
          have xP9846 := oP9846
          unfold OKP at xP9846
          unfold RA at rP9846
          refine m_aload_n F rfl e_X10_readLine_170 ?_
          refine m_dup F rfl e_X10_readLine_171 ?_
          refine r_get F e_X10_readLine_172 fl_X10_202 h9845 rfl (fun v hv f9848 => ?_)
          obtain ⟨x9849, rfl⟩ := hv
          refine m_iconst F (v := 1) (by decide) e_X10_readLine_175 ?_
          refine m_iadd F e_X10_readLine_176 ?_
          refine Wm.top (fun x9850 _ => ?_)
          refine r_put F (g' := (⟨T, 0, u, h, P9846, L⟩ : RG)) e_X10_readLine_177 fp_X10_202 h9845 (by decide) ⟨_, rfl⟩ (fun _ _ _ _ q => q) (fun _ _ _ q => q) rfl rfl (by decide) (fun σ9851 h9852 g9853 g9854 f9855 => ?_)
          have pg9856 := pr9847.of (g9854 23 (by decide)) (g9854 21 (by decide))
          have h9857 : HS V c _ [0, 2, 17, 18, 19, 20, 21, 22, 23] _ _ := ⟨HR.mono (Z' := Z) (by intro e; first | rfl | assumption | omega) h9852.1, h9852.2⟩
          exact m_vret F hQ e_X10_readLine_180 (⟨P9846, oP9846, (by unfold RP; omega), (pg9856.mono (by omega)), h9857, rfl⟩)
        · subst q150
          refine m_aload_n F rfl e_X10_readLine_153 ?_
          refine r_get F e_X10_readLine_154 fl_X10_110 h9838 rfl (fun v hv f9858 => ?_)
          obtain ⟨x9859, rfl⟩ := hv
          refine m_iconst F (v := 3) (by decide) e_X10_readLine_157 ?_
          refine m_icmp_eq F e_X10_readLine_158 (fun q158 => ?_) (fun q158 => ?_)
          · subst q158
            refine m_aload_n F rfl e_X10_readLine_166 ?_
            refine r_callV F e_X10_readLine_167 (q_X10_goOn (x_l X) V c T Z u h P9839 L _ _  h9838.1 (hob) oP9839 ) cb_X10_goOn ml_X10_154 im_X10_goOn se_X10_goOn h9838 rfl rfl (rest := []) rfl (Nat.le_of_ble_eq_true rfl) ⟨Nat.le_of_ble_eq_true rfl, Nat.le_of_ble_eq_true rfl⟩ ⟨Nat.le_of_ble_eq_true rfl, Nat.le_of_ble_eq_true rfl⟩ (fun r σ9860 hp => ?_)
            obtain ⟨P9863, oP9863, rP9863, pr9864, h9861, rfl⟩ := hp
            have h9862 := HS.trans h9838 h9861 (by decide)
            have xP9863 := oP9863
            unfold OKP at xP9863
            unfold RA at rP9863
            refine m_aload_n F rfl e_X10_readLine_170 ?_
            refine m_dup F rfl e_X10_readLine_171 ?_
            refine r_get F e_X10_readLine_172 fl_X10_202 h9862 rfl (fun v hv f9865 => ?_)
            obtain ⟨x9866, rfl⟩ := hv
            refine m_iconst F (v := 1) (by decide) e_X10_readLine_175 ?_
            refine m_iadd F e_X10_readLine_176 ?_
            refine Wm.top (fun x9867 _ => ?_)
            refine r_put F (g' := (⟨T, Z, u, h, P9863, L⟩ : RG)) e_X10_readLine_177 fp_X10_202 h9862 (by decide) ⟨_, rfl⟩ (fun _ _ _ _ q => q) (fun _ _ _ q => q) rfl rfl (by decide) (fun σ9868 h9869 g9870 g9871 f9872 => ?_)
            have pg9873 := pr9864.of (g9871 23 (by decide)) (g9871 21 (by decide))
            exact m_vret F hQ e_X10_readLine_180 (⟨P9863, oP9863, (by unfold RP; omega), (pg9873.mono (by omega)), h9869, rfl⟩)
          · refine m_aload_n F rfl e_X10_readLine_161 ?_
            refine m_iconst F (v := 1) (by decide) e_X10_readLine_162 ?_
            refine r_callV F e_X10_readLine_163 (q_X10_wrong (x_l X) V c T Z u h P9839 L _ _ 1 h9838.1 (hob) oP9839 (by first | omega | assumption | decide)) cb_X10_wrong ml_X10_150 im_X10_wrong se_X10_wrong h9838 rfl rfl (rest := []) rfl (Nat.le_of_ble_eq_true rfl) ⟨Nat.le_of_ble_eq_true rfl, Nat.le_of_ble_eq_true rfl⟩ ⟨Nat.le_of_ble_eq_true rfl, Nat.le_of_ble_eq_true rfl⟩ (fun r σ9874 hp => ?_)
            obtain ⟨h9875, rfl⟩ := hp
            have h9876 := HS.trans h9838 h9875 (by decide)
            refine m_aload_n F rfl e_X10_readLine_166 ?_
            refine r_callV F e_X10_readLine_167 (q_X10_goOn (x_l X) V c T 0 u h P9839 L _ _  h9876.1 (hob) oP9839 ) cb_X10_goOn ml_X10_154 im_X10_goOn se_X10_goOn h9876 rfl rfl (rest := []) rfl (Nat.le_of_ble_eq_true rfl) ⟨Nat.le_of_ble_eq_true rfl, Nat.le_of_ble_eq_true rfl⟩ ⟨Nat.le_of_ble_eq_true rfl, Nat.le_of_ble_eq_true rfl⟩ (fun r σ9877 hp => ?_)
            obtain ⟨P9880, oP9880, rP9880, pr9881, h9878, rfl⟩ := hp
            have h9879 := HS.trans h9876 h9878 (by decide)
            have xP9880 := oP9880
            unfold OKP at xP9880
            unfold RA at rP9880
            refine m_aload_n F rfl e_X10_readLine_170 ?_
            refine m_dup F rfl e_X10_readLine_171 ?_
            refine r_get F e_X10_readLine_172 fl_X10_202 h9879 rfl (fun v hv f9882 => ?_)
            obtain ⟨x9883, rfl⟩ := hv
            refine m_iconst F (v := 1) (by decide) e_X10_readLine_175 ?_
            refine m_iadd F e_X10_readLine_176 ?_
            refine Wm.top (fun x9884 _ => ?_)
            refine r_put F (g' := (⟨T, 0, u, h, P9880, L⟩ : RG)) e_X10_readLine_177 fp_X10_202 h9879 (by decide) ⟨_, rfl⟩ (fun _ _ _ _ q => q) (fun _ _ _ q => q) rfl rfl (by decide) (fun σ9885 h9886 g9887 g9888 f9889 => ?_)
            have pg9890 := pr9881.of (g9888 23 (by decide)) (g9888 21 (by decide))
            have h9891 : HS V c _ [0, 2, 17, 18, 19, 20, 21, 22, 23] _ _ := ⟨HR.mono (Z' := Z) (by intro e; first | rfl | assumption | omega) h9886.1, h9886.2⟩
            exact m_vret F hQ e_X10_readLine_180 (⟨P9880, oP9880, (by unfold RP; omega), (pg9890.mono (by omega)), h9891, rfl⟩)
    · subst q19
      refine m_aload_n F rfl e_X10_readLine_22 ?_
      refine r_callV F e_X10_readLine_23 (q_X10_readLease (x_l X) V c T Z u h P L _ _  h1.1 (hob) hP ) cb_X10_readLease ml_X10_178 im_X10_readLease se_X10_readLease h1 rfl rfl (rest := []) rfl (Nat.le_of_ble_eq_true rfl) ⟨Nat.le_of_ble_eq_true rfl, Nat.le_of_ble_eq_true rfl⟩ ⟨Nat.le_of_ble_eq_true rfl, Nat.le_of_ble_eq_true rfl⟩ (fun r σ9892 hp => ?_)
      obtain ⟨P9895, oP9895, rP9895, h9893, rfl⟩ := hp
      have h9894 := HS.trans h1 h9893 (by decide)
      have xP9895 := oP9895
      unfold OKP at xP9895
      unfold RP at rP9895
      refine m_goto F e_X10_readLine_26 ?_
      refine m_aload_n F rfl e_X10_readLine_146 ?_
      refine r_get F e_X10_readLine_147 fl_X10_141 h9894 rfl (fun v hv f9896 => ?_)
      obtain ⟨x9897, hx9897, rfl⟩ := hv
      replace hx9897 : Z = 0 → x9897 ≠ 0 := hx9897
      refine m_if_ne F e_X10_readLine_150 (fun q150 => ?_) (fun q150 => ?_)
      · have h9898 := HS.z0 h9894 (f9896) q150
        refine m_aload_n F rfl e_X10_readLine_166 ?_
        refine r_callV F e_X10_readLine_167 (q_X10_goOn (x_l X) V c T 0 u h P9895 L _ _  h9898.1 (hob) oP9895 ) cb_X10_goOn ml_X10_154 im_X10_goOn se_X10_goOn h9898 rfl rfl (rest := []) rfl (Nat.le_of_ble_eq_true rfl) ⟨Nat.le_of_ble_eq_true rfl, Nat.le_of_ble_eq_true rfl⟩ ⟨Nat.le_of_ble_eq_true rfl, Nat.le_of_ble_eq_true rfl⟩ (fun r σ9899 hp => ?_)
        obtain ⟨P9902, oP9902, rP9902, pr9903, h9900, rfl⟩ := hp
        have h9901 := HS.trans h9898 h9900 (by decide)
        have xP9902 := oP9902
        unfold OKP at xP9902
        unfold RA at rP9902
        refine m_aload_n F rfl e_X10_readLine_170 ?_
        refine m_dup F rfl e_X10_readLine_171 ?_
        refine r_get F e_X10_readLine_172 fl_X10_202 h9901 rfl (fun v hv f9904 => ?_)
        obtain ⟨x9905, rfl⟩ := hv
        refine m_iconst F (v := 1) (by decide) e_X10_readLine_175 ?_
        refine m_iadd F e_X10_readLine_176 ?_
        refine Wm.top (fun x9906 _ => ?_)
        refine r_put F (g' := (⟨T, 0, u, h, P9902, L⟩ : RG)) e_X10_readLine_177 fp_X10_202 h9901 (by decide) ⟨_, rfl⟩ (fun _ _ _ _ q => q) (fun _ _ _ q => q) rfl rfl (by decide) (fun σ9907 h9908 g9909 g9910 f9911 => ?_)
        have pg9912 := pr9903.of (g9910 23 (by decide)) (g9910 21 (by decide))
        have h9913 : HS V c _ [0, 2, 17, 18, 19, 20, 21, 22, 23] _ _ := ⟨HR.mono (Z' := Z) (by intro e; first | rfl | assumption | omega) h9908.1, h9908.2⟩
        exact m_vret F hQ e_X10_readLine_180 (⟨P9902, oP9902, (by unfold RP; omega), (pg9912.mono (by omega)), h9913, rfl⟩)
      · subst q150
        refine m_aload_n F rfl e_X10_readLine_153 ?_
        refine r_get F e_X10_readLine_154 fl_X10_110 h9894 rfl (fun v hv f9914 => ?_)
        obtain ⟨x9915, rfl⟩ := hv
        refine m_iconst F (v := 3) (by decide) e_X10_readLine_157 ?_
        refine m_icmp_eq F e_X10_readLine_158 (fun q158 => ?_) (fun q158 => ?_)
        · subst q158
          refine m_aload_n F rfl e_X10_readLine_166 ?_
          refine r_callV F e_X10_readLine_167 (q_X10_goOn (x_l X) V c T Z u h P9895 L _ _  h9894.1 (hob) oP9895 ) cb_X10_goOn ml_X10_154 im_X10_goOn se_X10_goOn h9894 rfl rfl (rest := []) rfl (Nat.le_of_ble_eq_true rfl) ⟨Nat.le_of_ble_eq_true rfl, Nat.le_of_ble_eq_true rfl⟩ ⟨Nat.le_of_ble_eq_true rfl, Nat.le_of_ble_eq_true rfl⟩ (fun r σ9916 hp => ?_)
          obtain ⟨P9919, oP9919, rP9919, pr9920, h9917, rfl⟩ := hp
          have h9918 := HS.trans h9894 h9917 (by decide)
          have xP9919 := oP9919
          unfold OKP at xP9919
          unfold RA at rP9919
          refine m_aload_n F rfl e_X10_readLine_170 ?_
          refine m_dup F rfl e_X10_readLine_171 ?_
          refine r_get F e_X10_readLine_172 fl_X10_202 h9918 rfl (fun v hv f9921 => ?_)
          obtain ⟨x9922, rfl⟩ := hv
          refine m_iconst F (v := 1) (by decide) e_X10_readLine_175 ?_
          refine m_iadd F e_X10_readLine_176 ?_
          refine Wm.top (fun x9923 _ => ?_)
          refine r_put F (g' := (⟨T, Z, u, h, P9919, L⟩ : RG)) e_X10_readLine_177 fp_X10_202 h9918 (by decide) ⟨_, rfl⟩ (fun _ _ _ _ q => q) (fun _ _ _ q => q) rfl rfl (by decide) (fun σ9924 h9925 g9926 g9927 f9928 => ?_)
          have pg9929 := pr9920.of (g9927 23 (by decide)) (g9927 21 (by decide))
          exact m_vret F hQ e_X10_readLine_180 (⟨P9919, oP9919, (by unfold RP; omega), (pg9929.mono (by omega)), h9925, rfl⟩)
        · refine m_aload_n F rfl e_X10_readLine_161 ?_
          refine m_iconst F (v := 1) (by decide) e_X10_readLine_162 ?_
          refine r_callV F e_X10_readLine_163 (q_X10_wrong (x_l X) V c T Z u h P9895 L _ _ 1 h9894.1 (hob) oP9895 (by first | omega | assumption | decide)) cb_X10_wrong ml_X10_150 im_X10_wrong se_X10_wrong h9894 rfl rfl (rest := []) rfl (Nat.le_of_ble_eq_true rfl) ⟨Nat.le_of_ble_eq_true rfl, Nat.le_of_ble_eq_true rfl⟩ ⟨Nat.le_of_ble_eq_true rfl, Nat.le_of_ble_eq_true rfl⟩ (fun r σ9930 hp => ?_)
          obtain ⟨h9931, rfl⟩ := hp
          have h9932 := HS.trans h9894 h9931 (by decide)
          refine m_aload_n F rfl e_X10_readLine_166 ?_
          refine r_callV F e_X10_readLine_167 (q_X10_goOn (x_l X) V c T 0 u h P9895 L _ _  h9932.1 (hob) oP9895 ) cb_X10_goOn ml_X10_154 im_X10_goOn se_X10_goOn h9932 rfl rfl (rest := []) rfl (Nat.le_of_ble_eq_true rfl) ⟨Nat.le_of_ble_eq_true rfl, Nat.le_of_ble_eq_true rfl⟩ ⟨Nat.le_of_ble_eq_true rfl, Nat.le_of_ble_eq_true rfl⟩ (fun r σ9933 hp => ?_)
          obtain ⟨P9936, oP9936, rP9936, pr9937, h9934, rfl⟩ := hp
          have h9935 := HS.trans h9932 h9934 (by decide)
          have xP9936 := oP9936
          unfold OKP at xP9936
          unfold RA at rP9936
          refine m_aload_n F rfl e_X10_readLine_170 ?_
          refine m_dup F rfl e_X10_readLine_171 ?_
          refine r_get F e_X10_readLine_172 fl_X10_202 h9935 rfl (fun v hv f9938 => ?_)
          obtain ⟨x9939, rfl⟩ := hv
          refine m_iconst F (v := 1) (by decide) e_X10_readLine_175 ?_
          refine m_iadd F e_X10_readLine_176 ?_
          refine Wm.top (fun x9940 _ => ?_)
          refine r_put F (g' := (⟨T, 0, u, h, P9936, L⟩ : RG)) e_X10_readLine_177 fp_X10_202 h9935 (by decide) ⟨_, rfl⟩ (fun _ _ _ _ q => q) (fun _ _ _ q => q) rfl rfl (by decide) (fun σ9941 h9942 g9943 g9944 f9945 => ?_)
          have pg9946 := pr9937.of (g9944 23 (by decide)) (g9944 21 (by decide))
          have h9947 : HS V c _ [0, 2, 17, 18, 19, 20, 21, 22, 23] _ _ := ⟨HR.mono (Z' := Z) (by intro e; first | rfl | assumption | omega) h9942.1, h9942.2⟩
          exact m_vret F hQ e_X10_readLine_180 (⟨P9936, oP9936, (by unfold RP; omega), (pg9946.mono (by omega)), h9947, rfl⟩)
  · refine m_aload_n F rfl e_X10_readLine_7 ?_
    refine m_iconst F (v := 1) (by decide) e_X10_readLine_8 ?_
    refine r_callV F e_X10_readLine_9 (q_X10_wrong (x_l X) V c T Z u h P L _ _ 1 h1.1 (hob) hP (by first | omega | assumption | decide)) cb_X10_wrong ml_X10_150 im_X10_wrong se_X10_wrong h1 rfl rfl (rest := []) rfl (Nat.le_of_ble_eq_true rfl) ⟨Nat.le_of_ble_eq_true rfl, Nat.le_of_ble_eq_true rfl⟩ ⟨Nat.le_of_ble_eq_true rfl, Nat.le_of_ble_eq_true rfl⟩ (fun r σ9948 hp => ?_)
    obtain ⟨h9949, rfl⟩ := hp
    have h9950 := HS.trans h1 h9949 (by decide)
    refine m_goto F e_X10_readLine_12 ?_
    refine m_aload_n F rfl e_X10_readLine_146 ?_
    refine r_get F e_X10_readLine_147 fl_X10_141 h9950 rfl (fun v hv f9951 => ?_)
    obtain ⟨x9952, hx9952, rfl⟩ := hv
    replace hx9952 : 0 = 0 → x9952 ≠ 0 := hx9952
    refine m_if_ne F e_X10_readLine_150 (fun q150 => ?_) (fun q150 => ?_)
    · have h9953 := HS.z0 h9950 (f9951) q150
      refine m_aload_n F rfl e_X10_readLine_166 ?_
      refine r_callV F e_X10_readLine_167 (q_X10_goOn (x_l X) V c T 0 u h P L _ _  h9953.1 (hob) hP ) cb_X10_goOn ml_X10_154 im_X10_goOn se_X10_goOn h9953 rfl rfl (rest := []) rfl (Nat.le_of_ble_eq_true rfl) ⟨Nat.le_of_ble_eq_true rfl, Nat.le_of_ble_eq_true rfl⟩ ⟨Nat.le_of_ble_eq_true rfl, Nat.le_of_ble_eq_true rfl⟩ (fun r σ9954 hp => ?_)
      obtain ⟨P9957, oP9957, rP9957, pr9958, h9955, rfl⟩ := hp
      have h9956 := HS.trans h9953 h9955 (by decide)
      have xP9957 := oP9957
      unfold OKP at xP9957
      unfold RA at rP9957
      refine m_aload_n F rfl e_X10_readLine_170 ?_
      refine m_dup F rfl e_X10_readLine_171 ?_
      refine r_get F e_X10_readLine_172 fl_X10_202 h9956 rfl (fun v hv f9959 => ?_)
      obtain ⟨x9960, rfl⟩ := hv
      refine m_iconst F (v := 1) (by decide) e_X10_readLine_175 ?_
      refine m_iadd F e_X10_readLine_176 ?_
      refine Wm.top (fun x9961 _ => ?_)
      refine r_put F (g' := (⟨T, 0, u, h, P9957, L⟩ : RG)) e_X10_readLine_177 fp_X10_202 h9956 (by decide) ⟨_, rfl⟩ (fun _ _ _ _ q => q) (fun _ _ _ q => q) rfl rfl (by decide) (fun σ9962 h9963 g9964 g9965 f9966 => ?_)
      have pg9967 := pr9958.of (g9965 23 (by decide)) (g9965 21 (by decide))
      have h9968 : HS V c _ [0, 2, 17, 18, 19, 20, 21, 22, 23] _ _ := ⟨HR.mono (Z' := Z) (by intro e; first | rfl | assumption | omega) h9963.1, h9963.2⟩
      exact m_vret F hQ e_X10_readLine_180 (⟨P9957, oP9957, (by unfold RP; omega), (pg9967.mono (by omega)), h9968, rfl⟩)
    · first | exact absurd q150 (hx9952 rfl) | contradiction
set_option maxRecDepth 20000 in
theorem q_X10_freshText (l : Launch) (V : VX) (c T Z u h : Nat) (P : NP) (L : Nat → LQ) (N : Nat) (σ : Mem)  (h0 : HR V c ⟨T, Z, u, h, P, L⟩ σ) (hob : OKB L) (hP : OKP P)  : Ct l V yX10_freshText cX10_freshText 2 none 1 0 0 N σ [.ref c] (fun r τ => ∃ P9 : NP, OKP P9 ∧ RP P P9 ∧ HS V c (⟨T, Z, u, h, P9, L⟩ : RG) [0, 1, 2, 4, 5, 6, 7, 8, 9, 10, 11, 12, 13, 14, 15, 16, 17, 18, 19, 20, 21, 22, 23] σ τ ∧ r = none) := by
  refine Ct.of (by decide) (Nat.le_of_ble_eq_true rfl) [(0, .ref c)] rfl (fun X hX F hQ => ?_)
  have hPP := hP
  unfold OKP at hPP
  have h1 : HS V c ⟨T, Z, u, h, P, L⟩ [0, 1, 2, 4, 5, 6, 7, 8, 9, 10, 11, 12, 13, 14, 15, 16, 17, 18, 19, 20, 21, 22, 23] σ σ := HS.start h0
  refine m_iconst F (v := 0) (by decide) e_X10_freshText_0 ?_
  refine m_istore_n F (lv' := [(1, .int 0), (0, .ref c)]) e_X10_freshText_1 (by decide) rfl ?_
  refine m_iload_n F rfl e_X10_freshText_2 ?_
  refine m_iconst F (v := 5) (by decide) e_X10_freshText_3 ?_
  refine m_icmp_ge F e_X10_freshText_4 (fun q => absurd q (by decide)) (fun _ => ?_)
  refine m_aload_n F rfl e_X10_freshText_7 ?_
  refine m_iload_n F rfl e_X10_freshText_8 ?_
  refine m_iconst F (v := 0) (by decide) e_X10_freshText_9 ?_
  refine r_callV F e_X10_freshText_10 (q_X10_reads0 (x_l X) V c T Z u h P L _ _ 0 h1.1 (hob) hP (by omega) (by first | omega | assumption | decide)) cb_X10_reads ml_X10_170 im_X10_reads se_X10_reads h1 rfl rfl (rest := []) rfl (Nat.le_of_ble_eq_true rfl) ⟨Nat.le_of_ble_eq_true rfl, Nat.le_of_ble_eq_true rfl⟩ ⟨Nat.le_of_ble_eq_true rfl, Nat.le_of_ble_eq_true rfl⟩ (fun r σ9969 hp => ?_)
  obtain ⟨h9970, rfl⟩ := hp
  have h9971 := HS.trans h1 h9970 (by decide)
  obtain ⟨P9972, eP9972⟩ : ∃ P9, P9 = (mkP P.n0 P.n2 0 P.n7 P.m0 P.m5 P.w2 P.w7 P.kk P.a P.b0 P.b1 P.b2 P.b3) := ⟨_, rfl⟩
  rw [← eP9972] at h9971
  have fP9972 : P9972.n0 = P.n0 ∧ P9972.n2 = P.n2 ∧ P9972.n5 = 0 ∧ P9972.n7 = P.n7 ∧ P9972.m0 = P.m0 ∧ P9972.m5 = P.m5 ∧ P9972.w2 = P.w2 ∧ P9972.w7 = P.w7 ∧ P9972.kk = P.kk ∧ P9972.a = P.a ∧ P9972.b0 = P.b0 ∧ P9972.b1 = P.b1 ∧ P9972.b2 = P.b2 ∧ P9972.b3 = P.b3 := by rw [eP9972]; exact ⟨rfl, rfl, rfl, rfl, rfl, rfl, rfl, rfl, rfl, rfl, rfl, rfl, rfl, rfl⟩
  refine m_iinc F (v := 1) (lv' := [(1, .int 1), (0, .ref c)]) e_X10_freshText_13 rfl (by decide) (by decide) rfl ?_
  refine m_goto F e_X10_freshText_16 ?_
  refine m_iload_n F rfl e_X10_freshText_2 ?_
  refine m_iconst F (v := 5) (by decide) e_X10_freshText_3 ?_
  refine m_icmp_ge F e_X10_freshText_4 (fun q => absurd q (by decide)) (fun _ => ?_)
  refine m_aload_n F rfl e_X10_freshText_7 ?_
  refine m_iload_n F rfl e_X10_freshText_8 ?_
  refine m_iconst F (v := 0) (by decide) e_X10_freshText_9 ?_
  have oP9976 : OKP P9972 := by unfold OKP; omega
  refine r_callV F e_X10_freshText_10 (q_X10_reads1 (x_l X) V c T Z u h P9972 L _ _ 0 h9971.1 (hob) oP9976 ) cb_X10_reads ml_X10_170 im_X10_reads se_X10_reads h9971 rfl rfl (rest := []) rfl (Nat.le_of_ble_eq_true rfl) ⟨Nat.le_of_ble_eq_true rfl, Nat.le_of_ble_eq_true rfl⟩ ⟨Nat.le_of_ble_eq_true rfl, Nat.le_of_ble_eq_true rfl⟩ (fun r σ9973 hp => ?_)
  obtain ⟨h9974, rfl⟩ := hp
  have h9975 := HS.trans h9971 h9974 (by decide)
  refine m_iinc F (v := 2) (lv' := [(1, .int 2), (0, .ref c)]) e_X10_freshText_13 rfl (by decide) (by decide) rfl ?_
  refine m_goto F e_X10_freshText_16 ?_
  refine m_iload_n F rfl e_X10_freshText_2 ?_
  refine m_iconst F (v := 5) (by decide) e_X10_freshText_3 ?_
  refine m_icmp_ge F e_X10_freshText_4 (fun q => absurd q (by decide)) (fun _ => ?_)
  refine m_aload_n F rfl e_X10_freshText_7 ?_
  refine m_iload_n F rfl e_X10_freshText_8 ?_
  refine m_iconst F (v := 0) (by decide) e_X10_freshText_9 ?_
  refine r_callV F e_X10_freshText_10 (q_X10_reads2 (x_l X) V c T Z u h P9972 L _ _ 0 h9975.1 (hob) oP9976 (by omega) (by first | omega | assumption | decide)) cb_X10_reads ml_X10_170 im_X10_reads se_X10_reads h9975 rfl rfl (rest := []) rfl (Nat.le_of_ble_eq_true rfl) ⟨Nat.le_of_ble_eq_true rfl, Nat.le_of_ble_eq_true rfl⟩ ⟨Nat.le_of_ble_eq_true rfl, Nat.le_of_ble_eq_true rfl⟩ (fun r σ9977 hp => ?_)
  obtain ⟨h9978, rfl⟩ := hp
  have h9979 := HS.trans h9975 h9978 (by decide)
  obtain ⟨P9980, eP9980⟩ : ∃ P9, P9 = (mkP P9972.n0 P9972.n2 P9972.n5 0 P9972.m0 P9972.m5 P9972.w2 P9972.w7 P9972.kk P9972.a P9972.b0 P9972.b1 P9972.b2 P9972.b3) := ⟨_, rfl⟩
  rw [← eP9980] at h9979
  have fP9980 : P9980.n0 = P9972.n0 ∧ P9980.n2 = P9972.n2 ∧ P9980.n5 = P9972.n5 ∧ P9980.n7 = 0 ∧ P9980.m0 = P9972.m0 ∧ P9980.m5 = P9972.m5 ∧ P9980.w2 = P9972.w2 ∧ P9980.w7 = P9972.w7 ∧ P9980.kk = P9972.kk ∧ P9980.a = P9972.a ∧ P9980.b0 = P9972.b0 ∧ P9980.b1 = P9972.b1 ∧ P9980.b2 = P9972.b2 ∧ P9980.b3 = P9972.b3 := by rw [eP9980]; exact ⟨rfl, rfl, rfl, rfl, rfl, rfl, rfl, rfl, rfl, rfl, rfl, rfl, rfl, rfl⟩
  refine m_iinc F (v := 3) (lv' := [(1, .int 3), (0, .ref c)]) e_X10_freshText_13 rfl (by decide) (by decide) rfl ?_
  refine m_goto F e_X10_freshText_16 ?_
  refine m_iload_n F rfl e_X10_freshText_2 ?_
  refine m_iconst F (v := 5) (by decide) e_X10_freshText_3 ?_
  refine m_icmp_ge F e_X10_freshText_4 (fun q => absurd q (by decide)) (fun _ => ?_)
  refine m_aload_n F rfl e_X10_freshText_7 ?_
  refine m_iload_n F rfl e_X10_freshText_8 ?_
  refine m_iconst F (v := 0) (by decide) e_X10_freshText_9 ?_
  have oP9984 : OKP P9980 := by unfold OKP; omega
  refine r_callV F e_X10_freshText_10 (q_X10_reads3 (x_l X) V c T Z u h P9980 L _ _ 0 h9979.1 (hob) oP9984 (by omega)) cb_X10_reads ml_X10_170 im_X10_reads se_X10_reads h9979 rfl rfl (rest := []) rfl (Nat.le_of_ble_eq_true rfl) ⟨Nat.le_of_ble_eq_true rfl, Nat.le_of_ble_eq_true rfl⟩ ⟨Nat.le_of_ble_eq_true rfl, Nat.le_of_ble_eq_true rfl⟩ (fun r σ9981 hp => ?_)
  obtain ⟨h9982, rfl⟩ := hp
  have h9983 := HS.trans h9979 h9982 (by decide)
  refine m_iinc F (v := 4) (lv' := [(1, .int 4), (0, .ref c)]) e_X10_freshText_13 rfl (by decide) (by decide) rfl ?_
  refine m_goto F e_X10_freshText_16 ?_
  refine m_iload_n F rfl e_X10_freshText_2 ?_
  refine m_iconst F (v := 5) (by decide) e_X10_freshText_3 ?_
  refine m_icmp_ge F e_X10_freshText_4 (fun q => absurd q (by decide)) (fun _ => ?_)
  refine m_aload_n F rfl e_X10_freshText_7 ?_
  refine m_iload_n F rfl e_X10_freshText_8 ?_
  refine m_iconst F (v := 0) (by decide) e_X10_freshText_9 ?_
  refine r_callV F e_X10_freshText_10 (q_X10_reads4 (x_l X) V c T Z u h P9980 L _ _ 0 h9983.1 (hob) oP9984 ) cb_X10_reads ml_X10_170 im_X10_reads se_X10_reads h9983 rfl rfl (rest := []) rfl (Nat.le_of_ble_eq_true rfl) ⟨Nat.le_of_ble_eq_true rfl, Nat.le_of_ble_eq_true rfl⟩ ⟨Nat.le_of_ble_eq_true rfl, Nat.le_of_ble_eq_true rfl⟩ (fun r σ9985 hp => ?_)
  obtain ⟨h9986, rfl⟩ := hp
  have h9987 := HS.trans h9983 h9986 (by decide)
  refine m_iinc F (v := 5) (lv' := [(1, .int 5), (0, .ref c)]) e_X10_freshText_13 rfl (by decide) (by decide) rfl ?_
  refine m_goto F e_X10_freshText_16 ?_
  refine m_iload_n F rfl e_X10_freshText_2 ?_
  refine m_iconst F (v := 5) (by decide) e_X10_freshText_3 ?_
  refine m_icmp_ge F e_X10_freshText_4 (fun _ => ?_) (fun q => absurd (by decide) q)
  exact m_vret F hQ e_X10_freshText_19 (⟨P9980, oP9984, (by unfold RP; omega), h9987, rfl⟩)
