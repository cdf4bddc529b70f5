/-! the reader of the reference: its place is a ghost too -/
abbrev mkP (n0 n2 n5 n7 m0 m5 w2 w7 kk a : Nat) : NP := (n0, n2, n5, n7, m0, m5, w2, w7, kk, a)
def RA (P Q : NP) : Prop := Q.n0 = P.n0 ∧ Q.n2 = P.n2 ∧ Q.n5 = P.n5 ∧ Q.n7 = P.n7 ∧ Q.m0 = P.m0 ∧ Q.m5 = P.m5 ∧ Q.w2 = P.w2 ∧ Q.w7 = P.w7 ∧ Q.kk = P.kk ∧ P.a ≤ Q.a
def RP (P Q : NP) : Prop := Q.n0 = P.n0 ∧ Q.n2 = P.n2 ∧ Q.m0 = P.m0 ∧ Q.w2 = P.w2 ∧ Q.kk = P.kk ∧ P.a ≤ Q.a
def RQ (P Q : NP) : Prop := Q.n0 = P.n0 ∧ Q.n2 = P.n2 ∧ Q.m0 = P.m0 ∧ Q.w2 = P.w2 ∧ Q.kk = P.kk
theorem CR.setA {V : VX} {c T Z u h a : Nat} {P : NP} {L : Nat → LQ} : ∀ i, i ≠ 1 → ∀ x, CR V c ⟨T, Z, u, h, P, L⟩ i x → CR V c ⟨T, Z, u, h, mkP P.n0 P.n2 P.n5 P.n7 P.m0 P.m5 P.w2 P.w7 P.kk a, L⟩ i x := by
  intro i hi x hx
  unfold CR at hx ⊢
  split at hx <;> first | exact hx | exact absurd rfl hi
theorem ctl_a {c T Z u h a : Nat} {P : NP} {L : Nat → LQ} : ∀ i, i < rL.length → i ≠ 19 → ∀ w, TyW c ⟨T, Z, u, h, P, L⟩ (rL.getD i (0, 0)) w → TyW c ⟨T, Z, u, h, mkP P.n0 P.n2 P.n5 P.n7 P.m0 P.m5 P.w2 P.w7 P.kk a, L⟩ (rL.getD i (0, 0)) w := by
  intro i hi hne w hw
  have key : ∀ i, i < 37 → i ≠ 19 → (rL.getD i (0, 0)).1 ≠ 9 := by decide
  have hk := key i hi hne
  unfold TyW at hw ⊢
  split at hw <;> simp_all
/-- fault isn't 0: the ghost says so -/
theorem HS.z0 {V : VX} {c T Z u h : Nat} {P : NP} {L : Nat → LQ} {ks : List Nat} {σ0 σ : Mem} {x : Int32} (hh : HS V c ⟨T, Z, u, h, P, L⟩ ks σ0 σ) (hf : fld σ c 23 = some (.int x)) (hx : ¬ x = 0) : HS V c ⟨T, 0, u, h, P, L⟩ ks σ0 σ := by
  refine ⟨fun a => ?_, hh.2⟩
  by_cases ha : kC c a = 1
  · have h8 := kC_un (k := 0) ha
    have h9 : a = c := h8
    subst h9
    have h1 := hh.1 a
    rw [ha] at h1 ⊢
    obtain ⟨fs, e, q1, q2⟩ := h1
    refine ⟨fs, e, q1, fun j t ht => ?_⟩
    obtain ⟨v, h2, h3⟩ := q2 j t ht
    refine ⟨v, h2, ?_⟩
    by_cases hj : j = 23
    · subst hj
      have h4 : fs[23]? = some (.int x) := fld_ob e hf
      rw [h4] at h2
      cases h2
      obtain rfl : t = (5, 0) := (Option.some.inj ht).symm
      exact ⟨x, fun _ => hx, rfl⟩
    · have hl : j < rL.length := (List.getElem?_eq_some_iff.mp ht).1
      have hu' : rL.getD j (0, 0) = t := by rw [List.getD_eq_getElem?_getD, ht]; rfl
      rw [← hu'] at h3 ⊢
      exact ctl_Z j hl hj v h3
  · exact CR.ctl _ ha _ (hh.1 a)
/-- what stands at the reader's place -/
def HE (σ : Mem) (c a : Nat) (x : Int32) : Prop := ∃ z : Nat, z ≤ 700 ∧ fld σ c 18 = some (.int (nI z)) ∧ ((z ≤ a ∧ x = -1) ∨ (a < z ∧ elI σ (c + 1) a = some x))
theorem HE.of {σ τ : Mem} {c a : Nat} {x : Int32} (h : HE σ c a x) (e1 : fld τ c 18 = fld σ c 18) (e2 : elI τ (c + 1) a = elI σ (c + 1) a) : HE τ c a x := by
  obtain ⟨z, hz, h1, h2⟩ := h
  exact ⟨z, hz, e1.trans h1, h2.imp id (fun q => ⟨q.1, e2.trans q.2⟩)⟩
theorem HE.uniq {σ : Mem} {c a : Nat} {x y : Int32} (h : HE σ c a x) (h' : HE σ c a y) : x = y := by
  obtain ⟨z, hz, h1, h2⟩ := h
  obtain ⟨z', hz', h1', h2'⟩ := h'
  have e : z = z' := by
    rw [h1] at h1'
    have h3 : nI z = nI z' := by injection (Option.some.inj h1')
    exact nI_inj (by omega) (by omega) h3
  subst e
  rcases h2 with ⟨a1, a2⟩ | ⟨a1, a2⟩ <;> rcases h2' with ⟨b1, b2⟩ | ⟨b1, b2⟩
  · exact a2.trans b2.symm
  · omega
  · omega
  · exact Option.some.inj (a2.symm.trans b2)
theorem HE.lt {σ : Mem} {c a : Nat} {x : Int32} (h : HE σ c a x) (hx : ¬ x = -1) : a < 700 := by
  obtain ⟨z, hz, -, ⟨-, h2⟩ | ⟨h2, -⟩⟩ := h
  · exact absurd h2 hx
  · omega
/-- a line or a step of the reader: a fault, the end, or further on -/
def PG (c a b : Nat) (τ : Mem) : Prop := ∃ x y : Int32, fld τ c 23 = some (.int x) ∧ fld τ c 21 = some (.int y) ∧ (x ≠ 0 ∨ y = 4 ∨ a < b)
theorem PG.of {c a b : Nat} {σ τ : Mem} (h : PG c a b σ) (e1 : fld τ c 23 = fld σ c 23) (e2 : fld τ c 21 = fld σ c 21) : PG c a b τ := by
  obtain ⟨x, y, h1, h2, h3⟩ := h
  exact ⟨x, y, e1.trans h1, e2.trans h2, h3⟩
theorem PG.mono {c a a' b : Nat} {σ : Mem} (h : PG c a b σ) (e : a' ≤ a) : PG c a' b σ := by
  obtain ⟨x, y, h1, h2, h3⟩ := h
  exact ⟨x, y, h1, h2, h3.imp id (fun q => q.imp id (fun q => Nat.lt_of_le_of_lt e q))⟩
theorem HR.f21 {V : VX} {c : Nat} {g : RG} {σ : Mem} (h : HR V c g σ) : ∃ y : Int32, fld σ c 21 = some (.int y) := by
  obtain ⟨fs, e, q1, q2⟩ : ∃ fs, σ c = some (ob 8 fs) ∧ TyO c g fs := h.cell (k := 0) (by decide)
  obtain ⟨v, h2, x, rfl⟩ := q2 21 (0, 0) rfl
  exact ⟨x, fld_of e h2⟩
theorem HR.f23 {V : VX} {c : Nat} {g : RG} {σ : Mem} (h : HR V c g σ) : ∃ y : Int32, fld σ c 23 = some (.int y) := by
  obtain ⟨fs, e, q1, q2⟩ : ∃ fs, σ c = some (ob 8 fs) ∧ TyO c g fs := h.cell (k := 0) (by decide)
  obtain ⟨v, h2, x, hx, rfl⟩ := q2 23 (5, 0) rfl
  exact ⟨x, fld_of e h2⟩
theorem PG.a1 {V : VX} {c a b : Nat} {g : RG} {σ : Mem} {x : Int32} (h : HR V c g σ) (e : fld σ c 23 = some (.int x)) (hx : ¬ x = 0) : PG c a b σ := by
  obtain ⟨y, hy⟩ := h.f21
  exact ⟨x, y, e, hy, Or.inl hx⟩
theorem PG.a2 {V : VX} {c a b : Nat} {g : RG} {σ : Mem} (h : HR V c g σ) (e : fld σ c 21 = some (.int 4) ∨ a < b) : PG c a b σ := by
  obtain ⟨y, hy⟩ := h.f21
  obtain ⟨x, hx⟩ := h.f23
  rcases e with e | e
  · exact ⟨x, 4, hx, e, Or.inr (Or.inl rfl)⟩
  · exact ⟨x, y, hx, hy, Or.inr (Or.inr e)⟩
theorem nI_nm1 {n : Nat} (h : n < 2147483648) : nI n ≠ -1 := by
  intro e
  have h1 := congrArg Int32.toInt e
  rw [nI_ti h] at h1
  have h2 : (-1 : Int32).toInt = -1 := by decide
  omega
set_option maxRecDepth 20000 in
theorem q_X10_here (l : Launch) (V : VX) (c T Z u h : Nat) (P : NP) (L : Nat → LQ) (N : Nat) (σ : Mem)  (h0 : HR V c ⟨T, Z, u, h, P, L⟩ σ) (hob : OKB L) (hP : OKP P)  : Ct l V yX10_here cX10_here 1 (some .int) 0 0 0 N σ [.ref c] (fun r τ => HS V c (⟨T, Z, u, h, P, L⟩ : RG) [0, 1, 2, 3, 4, 5, 6, 7, 8, 9, 10, 11, 12, 13, 14, 15, 16, 17, 18, 19, 20, 21, 22, 23] σ τ ∧ ∃ x : Int32, HE τ c P.a x ∧ r = some (.int x)) := by
  refine Ct.of (by decide) (Nat.le_of_ble_eq_true rfl) [(0, .ref c)] rfl (fun X hX F hQ => ?_)
  have hPP := hP
  unfold OKP at hPP
  have h1 : HS V c ⟨T, Z, u, h, P, L⟩ [0, 1, 2, 3, 4, 5, 6, 7, 8, 9, 10, 11, 12, 13, 14, 15, 16, 17, 18, 19, 20, 21, 22, 23] σ σ := HS.start h0
  refine m_aload_n F rfl e_X10_here_0 ?_
  refine r_get F e_X10_here_1 fl_X10_97 h1 rfl (fun v hv f7759 => ?_)
  obtain rfl : v = .int (nI (P.a)) := hv
  refine m_aload_n F rfl e_X10_here_4 ?_
  refine r_get F e_X10_here_5 fl_X10_100 h1 rfl (fun v hv f7760 => ?_)
  obtain ⟨n7761, hn7761, rfl⟩ := hv
  replace hn7761 : n7761 ≤ 700 := hn7761
  refine m_icmp_ge F e_X10_here_8 (fun q8 => ?_) (fun q8 => ?_)
  · have c8 : P.a ≥ n7761 := (nI_leI (a := n7761) (b := P.a) (by omega) (by omega)).mp q8
    refine m_iconst F (v := (-1)) (by decide) e_X10_here_23 ?_
    exact m_iret F hQ e_X10_here_24 (⟨h1, -1, ⟨n7761, by omega, f7760, Or.inl ⟨by omega, rfl⟩⟩, rfl⟩)
  · have c8 : P.a < n7761 := by have hh := mt (nI_leI (a := n7761) (b := P.a) (by omega) (by omega)).mpr q8; omega
    refine m_aload_n F rfl e_X10_here_11 ?_
    refine r_get F e_X10_here_12 fl_X10_7 h1 rfl (fun v hv f7762 => ?_)
    obtain rfl : v = .ref (c + 1) := hv
    refine m_aload_n F rfl e_X10_here_15 ?_
    refine r_getC F e_X10_here_16 fl_X10_97 h1 (f7759) ?_
    refine r_iald F (len := 700) (j := P.a) e_X10_here_19 h1 (fun _ h => h) (by decide) (nI_clamp (by omega)) (vp_in_nI (by omega) (by decide)) (fun x7763 h7764 f7765 => ?_)
    refine m_goto F e_X10_here_20 ?_
    exact m_iret F hQ e_X10_here_24 (⟨h1, x7763, ⟨n7761, by omega, f7760, Or.inr ⟨by omega, f7765⟩⟩, rfl⟩)
set_option maxRecDepth 20000 in
theorem q_X10_isSmall2 (l : Launch) (V : VX) (N : Nat) (σ : Mem) (x901 : Int32)  : Ct l V yX10_isSmall cX10_isSmall 1 (some .boolean) 0 0 0 N σ [.int x901] (fun r τ => τ = σ ∧ (¬ (¬ x901 < 97 ∧ ¬ 122 < x901) ∧ r = some (.int 0) ∨ (¬ x901 < 97 ∧ ¬ 122 < x901) ∧ r = some (.int 1))) := by
  refine Ct.of (by decide) (Nat.le_of_ble_eq_true rfl) [(0, .int x901)] rfl (fun X hX F hQ => ?_)
  refine m_iload_n F rfl e_X10_isSmall_0 ?_
  refine m_bipush F (v := 97) (by decide) e_X10_isSmall_1 ?_
  refine m_icmp_lt F e_X10_isSmall_3 (fun q3 => ?_) (fun q3 => ?_)
  · refine m_iconst F (v := 0) (by decide) e_X10_isSmall_16 ?_
    exact m_zret F hQ e_X10_isSmall_17 (by decide) (⟨rfl, Or.inl ⟨fun e => e.1 q3, rfl⟩⟩)
  · obtain ⟨n7766, hn7766, rfl⟩ := nI_nn (x := x901) (fun e => q3 (Int32.lt_of_lt_of_le e (by decide)))
    have c3 : n7766 ≥ 97 := by have hh := mt (nI_ltI (a := n7766) (b := 97) (by omega) (by omega)).mpr q3; omega
    refine m_iload_n F rfl e_X10_isSmall_6 ?_
    refine m_bipush F (v := 122) (by decide) e_X10_isSmall_7 ?_
    refine m_icmp_gt F e_X10_isSmall_9 (fun q9 => ?_) (fun q9 => ?_)
    · have c9 : n7766 > 122 := (nI_ltI (a := 122) (b := n7766) (by omega) (by omega)).mp q9
      refine m_iconst F (v := 0) (by decide) e_X10_isSmall_16 ?_
      exact m_zret F hQ e_X10_isSmall_17 (by decide) (⟨rfl, Or.inl ⟨fun e => e.2 q9, rfl⟩⟩)
    · have c9 : n7766 ≤ 122 := by have hh := mt (nI_ltI (a := 122) (b := n7766) (by omega) (by omega)).mpr q9; omega
      refine m_iconst F (v := 1) (by decide) e_X10_isSmall_12 ?_
      refine m_goto F e_X10_isSmall_13 ?_
      exact m_zret F hQ e_X10_isSmall_17 (by decide) (⟨rfl, Or.inr ⟨⟨q3, q9⟩, rfl⟩⟩)
set_option maxRecDepth 20000 in
theorem q_X10_isDigit2 (l : Launch) (V : VX) (N : Nat) (σ : Mem) (x901 : Int32)  : Ct l V yX10_isDigit cX10_isDigit 1 (some .boolean) 0 0 0 N σ [.int x901] (fun r τ => τ = σ ∧ (¬ (¬ x901 < 48 ∧ ¬ 57 < x901) ∧ r = some (.int 0) ∨ (¬ x901 < 48 ∧ ¬ 57 < x901) ∧ r = some (.int 1))) := by
  refine Ct.of (by decide) (Nat.le_of_ble_eq_true rfl) [(0, .int x901)] rfl (fun X hX F hQ => ?_)
  refine m_iload_n F rfl e_X10_isDigit_0 ?_
  refine m_bipush F (v := 48) (by decide) e_X10_isDigit_1 ?_
  refine m_icmp_lt F e_X10_isDigit_3 (fun q3 => ?_) (fun q3 => ?_)
  · refine m_iconst F (v := 0) (by decide) e_X10_isDigit_16 ?_
    exact m_zret F hQ e_X10_isDigit_17 (by decide) (⟨rfl, Or.inl ⟨fun e => e.1 q3, rfl⟩⟩)
  · obtain ⟨n7767, hn7767, rfl⟩ := nI_nn (x := x901) (fun e => q3 (Int32.lt_of_lt_of_le e (by decide)))
    have c3 : n7767 ≥ 48 := by have hh := mt (nI_ltI (a := n7767) (b := 48) (by omega) (by omega)).mpr q3; omega
    refine m_iload_n F rfl e_X10_isDigit_6 ?_
    refine m_bipush F (v := 57) (by decide) e_X10_isDigit_7 ?_
    refine m_icmp_gt F e_X10_isDigit_9 (fun q9 => ?_) (fun q9 => ?_)
    · have c9 : n7767 > 57 := (nI_ltI (a := 57) (b := n7767) (by omega) (by omega)).mp q9
      refine m_iconst F (v := 0) (by decide) e_X10_isDigit_16 ?_
      exact m_zret F hQ e_X10_isDigit_17 (by decide) (⟨rfl, Or.inl ⟨fun e => e.2 q9, rfl⟩⟩)
    · have c9 : n7767 ≤ 57 := by have hh := mt (nI_ltI (a := 57) (b := n7767) (by omega) (by omega)).mpr q9; omega
      refine m_iconst F (v := 1) (by decide) e_X10_isDigit_12 ?_
      refine m_goto F e_X10_isDigit_13 ?_
      exact m_zret F hQ e_X10_isDigit_17 (by decide) (⟨rfl, Or.inr ⟨⟨q3, q9⟩, rfl⟩⟩)
set_option maxRecDepth 20000 in
theorem lq_X10_wordHere_97 {V : VX} {X : MX} {N : Nat} {σ : Mem} {c T Z u h : Nat} {P : NP} {L : Nat → LQ}   (F : Fx V X yX10_wordHere cX10_wordHere 4 (some .int) (rmd 4 0 0)) (hQ : Rt V X 0 0 N (fun r τ => HS V c (⟨T, Z, u, h, P, L⟩ : RG) [0, 1, 2, 3, 4, 5, 6, 7, 8, 9, 10, 11, 12, 13, 14, 15, 16, 17, 18, 19, 20, 21, 22, 23] σ τ ∧ ∃ x : Int32, r = some (.int x))) (hob : OKB L) (hP : OKP P)  {fuelO : Nat} (hO : ∀ (n1 : Int32) (k : Nat) (τ : Mem), HS V c (⟨T, Z, u, h, P, L⟩ : RG) [0, 1, 2, 3, 4, 5, 6, 7, 8, 9, 10, 11, 12, 13, 14, 15, 16, 17, 18, 19, 20, 21, 22, 23] σ τ → k ≤ 48 → 48 - k < fuelO → Wm V X 4 N τ 0 0 4 [(0, .ref c), (1, .int n1), (2, .int (nI k))] []) : ∀ (fuel : Nat) (n1 : Int32) (k : Nat) (τ : Mem), HS V c (⟨T, Z, u, h, P, L⟩ : RG) [0, 1, 2, 3, 4, 5, 6, 7, 8, 9, 10, 11, 12, 13, 14, 15, 16, 17, 18, 19, 20, 21, 22, 23] σ τ → k ≤ 47 ∧ 48 - k ≤ fuelO → 48 - k < fuel → Wm V X 4 N τ 0 0 97 [(0, .ref c), (1, .int n1), (2, .int (nI k))] [] := by
  intro fuel
  induction fuel with
  | zero => intros; rename_i hm; exact absurd hm (Nat.not_lt_zero _)
  | succ fuel ih =>
    intro n1 k τ h1 hi hm
    have hPP := hP
    unfold OKP at hPP
    refine m_ldcS F e_X10_wordHere_97 F.sw.1.2.2 ?_
    refine m_iload_n F rfl e_X10_wordHere_99 ?_
    refine m_callO F e_X10_wordHere_100 (q_charAt (x_l X) V _ _ k (by omega)) cb_J0_charAt_5068e ml_X10_137 im_J0_charAt_5068e se_J0_charAt_5068e F.sw.2.2.2.2.2.2.1 rfl (rest := []) rfl (Nat.le_of_ble_eq_true rfl) ⟨Nat.le_of_ble_eq_true rfl, Nat.le_of_ble_eq_true rfl⟩ ⟨Nat.le_of_ble_eq_true rfl, Nat.le_of_ble_eq_true rfl⟩ (k' := 0) (z' := 0) (N' := N) rfl rfl rfl (fun r σ7768 hp => ?_)
    obtain ⟨rfl, rfl⟩ := hp
    refine m_bipush F (v := 32) (by decide) e_X10_wordHere_103 ?_
    refine m_icmp_eq F e_X10_wordHere_105 (fun q105 => ?_) (fun q105 => ?_)
    · refine m_iinc F (v := nI (k + 1)) (lv' := [(2, .int (nI (k + 1))), (0, .ref c), (1, .int n1)]) e_X10_wordHere_114 rfl (nI_add k 1) (by decide) rfl ?_
      refine m_iinc F (v := (n1 + 1)) (lv' := [(1, .int (n1 + 1)), (2, .int (nI (k + 1))), (0, .ref c)]) e_X10_wordHere_117 rfl rfl (by decide) rfl ?_
      refine m_goto F e_X10_wordHere_120 ?_
      refine Wm.lvsub (lv' := [(0, .ref c), (1, .int (n1 + 1)), (2, .int (nI (k + 1)))]) ?_ [2, 0, 1] rfl
      exact hO (n1 + 1) (k + 1) _ h1 (by omega) (by omega)
    · have hw105 := wb_47 (i := k) (by omega) q105
      refine m_iinc F (v := nI (k + 1)) (lv' := [(2, .int (nI (k + 1))), (0, .ref c), (1, .int n1)]) e_X10_wordHere_108 rfl (nI_add k 1) (by decide) rfl ?_
      refine m_goto F e_X10_wordHere_111 ?_
      refine Wm.lvsub (lv' := [(0, .ref c), (1, .int n1), (2, .int (nI (k + 1)))]) ?_ [1, 2, 0] rfl
      exact ih n1 (k + 1) _ h1 (by omega) (by omega)
set_option maxRecDepth 20000 in
theorem lq_X10_wordHere_15 {V : VX} {X : MX} {N : Nat} {σ : Mem} {c T Z u h : Nat} {P : NP} {L : Nat → LQ}   (F : Fx V X yX10_wordHere cX10_wordHere 4 (some .int) (rmd 4 0 0)) (hQ : Rt V X 0 0 N (fun r τ => HS V c (⟨T, Z, u, h, P, L⟩ : RG) [0, 1, 2, 3, 4, 5, 6, 7, 8, 9, 10, 11, 12, 13, 14, 15, 16, 17, 18, 19, 20, 21, 22, 23] σ τ ∧ ∃ x : Int32, r = some (.int x))) (hob : OKB L) (hP : OKP P)  {fuelO : Nat} (hO : ∀ (n1 : Int32) (k : Nat) (τ : Mem), HS V c (⟨T, Z, u, h, P, L⟩ : RG) [0, 1, 2, 3, 4, 5, 6, 7, 8, 9, 10, 11, 12, 13, 14, 15, 16, 17, 18, 19, 20, 21, 22, 23] σ τ → k ≤ 48 → 48 - k < fuelO → Wm V X 4 N τ 0 0 4 [(0, .ref c), (1, .int n1), (2, .int (nI k))] []) : ∀ (fuel : Nat) (n1 : Int32) (k : Nat) (i : Nat) (τ : Mem), HS V c (⟨T, Z, u, h, P, L⟩ : RG) [0, 1, 2, 3, 4, 5, 6, 7, 8, 9, 10, 11, 12, 13, 14, 15, 16, 17, 18, 19, 20, 21, 22, 23] σ τ → k + i ≤ 47 ∧ 48 - k ≤ fuelO → 48 - i < fuel → Wm V X 4 N τ 0 0 15 [(0, .ref c), (1, .int n1), (2, .int (nI k)), (3, .int (nI i))] [] := by
  intro fuel
  induction fuel with
  | zero => intros; rename_i hm; exact absurd hm (Nat.not_lt_zero _)
  | succ fuel ih =>
    intro n1 k i τ h1 hi hm
    have hPP := hP
    unfold OKP at hPP
    refine m_ldcS F e_X10_wordHere_15 F.sw.1.2.2 ?_
    refine m_iload_n F rfl e_X10_wordHere_17 ?_
    refine m_iload_n F rfl e_X10_wordHere_18 ?_
    refine m_iadd F e_X10_wordHere_19 ?_
    refine Wm.topE (w := nI (k + i)) (nI_add k i) ?_
    refine m_callO F e_X10_wordHere_20 (q_charAt (x_l X) V _ _ (k + i) (by omega)) cb_J0_charAt_5068e ml_X10_137 im_J0_charAt_5068e se_J0_charAt_5068e F.sw.2.2.2.2.2.2.1 rfl (rest := []) rfl (Nat.le_of_ble_eq_true rfl) ⟨Nat.le_of_ble_eq_true rfl, Nat.le_of_ble_eq_true rfl⟩ ⟨Nat.le_of_ble_eq_true rfl, Nat.le_of_ble_eq_true rfl⟩ (k' := 0) (z' := 0) (N' := N) rfl rfl rfl (fun r σ7769 hp => ?_)
    obtain ⟨rfl, rfl⟩ := hp
    refine m_bipush F (v := 32) (by decide) e_X10_wordHere_23 ?_
    refine m_icmp_eq F e_X10_wordHere_25 (fun q25 => ?_) (fun q25 => ?_)
    · refine m_ldcS F e_X10_wordHere_69 F.sw.1.2.2 ?_
      refine m_iload_n F rfl e_X10_wordHere_71 ?_
      refine m_iload_n F rfl e_X10_wordHere_72 ?_
      refine m_iadd F e_X10_wordHere_73 ?_
      refine Wm.topE (w := nI (k + i)) (nI_add k i) ?_
      refine m_callO F e_X10_wordHere_74 (q_charAt (x_l X) V _ _ (k + i) (by omega)) cb_J0_charAt_5068e ml_X10_137 im_J0_charAt_5068e se_J0_charAt_5068e F.sw.2.2.2.2.2.2.1 rfl (rest := []) rfl (Nat.le_of_ble_eq_true rfl) ⟨Nat.le_of_ble_eq_true rfl, Nat.le_of_ble_eq_true rfl⟩ ⟨Nat.le_of_ble_eq_true rfl, Nat.le_of_ble_eq_true rfl⟩ (k' := 0) (z' := 0) (N' := N) rfl rfl rfl (fun r σ7770 hp => ?_)
      obtain ⟨rfl, rfl⟩ := hp
      refine m_bipush F (v := 32) (by decide) e_X10_wordHere_77 ?_
      refine m_icmp_ne F e_X10_wordHere_79 (fun q79 => ?_) (fun q79 => ?_)
      · refine Wm.lvsub (lv' := [(0, .ref c), (1, .int n1), (2, .int (nI k))]) ?_ [0, 1, 2] rfl
        exact lq_X10_wordHere_97 F hQ hob hP  hO (48 - k + 1) n1 k _ h1 (by omega) (Nat.lt_succ_self _)
      · refine m_aload_n F rfl e_X10_wordHere_82 ?_
        refine r_get F e_X10_wordHere_83 fl_X10_107 h1 rfl (fun v hv f7771 => ?_)
        obtain ⟨n7772, hn7772, rfl⟩ := hv
        replace hn7772 : n7772 ≤ 700 := hn7772
        refine m_iload_n F rfl e_X10_wordHere_86 ?_
        refine m_iadd F e_X10_wordHere_87 ?_
        refine Wm.topE (w := nI (n7772 + i)) (nI_add n7772 i) ?_
        refine m_aload_n F rfl e_X10_wordHere_88 ?_
        refine r_get F e_X10_wordHere_89 fl_X10_97 h1 rfl (fun v hv f7773 => ?_)
        obtain rfl : v = .int (nI (P.a)) := hv
        refine m_icmp_ne F e_X10_wordHere_92 (fun q92 => ?_) (fun q92 => ?_)
        · have c92 : (n7772 + i) ≠ P.a := by have hh := mt (nI_eq (a := (n7772 + i)) (b := P.a) (by omega) (by omega)).mpr q92; omega
          refine Wm.lvsub (lv' := [(0, .ref c), (1, .int n1), (2, .int (nI k))]) ?_ [0, 1, 2] rfl
          exact lq_X10_wordHere_97 F hQ hob hP  hO (48 - k + 1) n1 k _ h1 (by omega) (Nat.lt_succ_self _)
        · have c92 : (n7772 + i) = P.a := (nI_eq (a := (n7772 + i)) (b := P.a) (by omega) (by omega)).mp q92
          refine m_iload_n F rfl e_X10_wordHere_95 ?_
          exact m_iret F hQ e_X10_wordHere_96 (⟨h1, _, rfl⟩)
    · have hw25 := wb_47 (i := k + i) (by omega) q25
      refine m_aload_n F rfl e_X10_wordHere_28 ?_
      refine r_get F e_X10_wordHere_29 fl_X10_107 h1 rfl (fun v hv f7774 => ?_)
      obtain ⟨n7775, hn7775, rfl⟩ := hv
      replace hn7775 : n7775 ≤ 700 := hn7775
      refine m_iload_n F rfl e_X10_wordHere_32 ?_
      refine m_iadd F e_X10_wordHere_33 ?_
      refine Wm.topE (w := nI (n7775 + i)) (nI_add n7775 i) ?_
      refine m_aload_n F rfl e_X10_wordHere_34 ?_
      refine r_get F e_X10_wordHere_35 fl_X10_97 h1 rfl (fun v hv f7776 => ?_)
      obtain rfl : v = .int (nI (P.a)) := hv
      refine m_icmp_ge F e_X10_wordHere_38 (fun q38 => ?_) (fun q38 => ?_)
      · have c38 : (n7775 + i) ≥ P.a := (nI_leI (a := P.a) (b := (n7775 + i)) (by omega) (by omega)).mp q38
        refine m_ldcS F e_X10_wordHere_69 F.sw.1.2.2 ?_
        refine m_iload_n F rfl e_X10_wordHere_71 ?_
        refine m_iload_n F rfl e_X10_wordHere_72 ?_
        refine m_iadd F e_X10_wordHere_73 ?_
        refine Wm.topE (w := nI (k + i)) (nI_add k i) ?_
        refine m_callO F e_X10_wordHere_74 (q_charAt (x_l X) V _ _ (k + i) (by omega)) cb_J0_charAt_5068e ml_X10_137 im_J0_charAt_5068e se_J0_charAt_5068e F.sw.2.2.2.2.2.2.1 rfl (rest := []) rfl (Nat.le_of_ble_eq_true rfl) ⟨Nat.le_of_ble_eq_true rfl, Nat.le_of_ble_eq_true rfl⟩ ⟨Nat.le_of_ble_eq_true rfl, Nat.le_of_ble_eq_true rfl⟩ (k' := 0) (z' := 0) (N' := N) rfl rfl rfl (fun r σ7777 hp => ?_)
        obtain ⟨rfl, rfl⟩ := hp
        refine m_bipush F (v := 32) (by decide) e_X10_wordHere_77 ?_
        refine m_icmp_ne F e_X10_wordHere_79 (fun q79 => ?_) (fun q79 => ?_)
        · refine Wm.lvsub (lv' := [(0, .ref c), (1, .int n1), (2, .int (nI k))]) ?_ [0, 1, 2] rfl
          exact lq_X10_wordHere_97 F hQ hob hP  hO (48 - k + 1) n1 k _ h1 (by omega) (Nat.lt_succ_self _)
        · refine m_aload_n F rfl e_X10_wordHere_82 ?_
          refine r_getC F e_X10_wordHere_83 fl_X10_107 h1 (f7774) ?_
          refine m_iload_n F rfl e_X10_wordHere_86 ?_
          refine m_iadd F e_X10_wordHere_87 ?_
          refine Wm.topE (w := nI (n7775 + i)) (nI_add n7775 i) ?_
          refine m_aload_n F rfl e_X10_wordHere_88 ?_
          refine r_getC F e_X10_wordHere_89 fl_X10_97 h1 (f7776) ?_
          refine m_icmp_ne F e_X10_wordHere_92 (fun q92 => ?_) (fun q92 => ?_)
          · have c92 : (n7775 + i) ≠ P.a := by have hh := mt (nI_eq (a := (n7775 + i)) (b := P.a) (by omega) (by omega)).mpr q92; omega
            refine Wm.lvsub (lv' := [(0, .ref c), (1, .int n1), (2, .int (nI k))]) ?_ [0, 1, 2] rfl
            exact lq_X10_wordHere_97 F hQ hob hP  hO (48 - k + 1) n1 k _ h1 (by omega) (Nat.lt_succ_self _)
          · have c92 : (n7775 + i) = P.a := (nI_eq (a := (n7775 + i)) (b := P.a) (by omega) (by omega)).mp q92
            refine m_iload_n F rfl e_X10_wordHere_95 ?_
            exact m_iret F hQ e_X10_wordHere_96 (⟨h1, _, rfl⟩)
      · have c38 : (n7775 + i) < P.a := by have hh := mt (nI_leI (a := P.a) (b := (n7775 + i)) (by omega) (by omega)).mpr q38; omega
        refine m_aload_n F rfl e_X10_wordHere_41 ?_
        refine r_get F e_X10_wordHere_42 fl_X10_7 h1 rfl (fun v hv f7778 => ?_)
        obtain rfl : v = .ref (c + 1) := hv
        refine m_aload_n F rfl e_X10_wordHere_45 ?_
        refine r_getC F e_X10_wordHere_46 fl_X10_107 h1 (f7774) ?_
        refine m_iload_n F rfl e_X10_wordHere_49 ?_
        refine m_iadd F e_X10_wordHere_50 ?_
        refine Wm.topE (w := nI (n7775 + i)) (nI_add n7775 i) ?_
        refine r_iald F (len := 700) (j := n7775 + i) e_X10_wordHere_51 h1 (fun _ h => h) (by decide) (nI_clamp (by omega)) (vp_in_nI (by omega) (by decide)) (fun x7779 h7780 f7781 => ?_)
        refine m_ldcS F e_X10_wordHere_52 F.sw.1.2.2 ?_
        refine m_iload_n F rfl e_X10_wordHere_54 ?_
        refine m_iload_n F rfl e_X10_wordHere_55 ?_
        refine m_iadd F e_X10_wordHere_56 ?_
        refine Wm.topE (w := nI (k + i)) (nI_add k i) ?_
        refine m_callO F e_X10_wordHere_57 (q_charAt (x_l X) V _ _ (k + i) (by omega)) cb_J0_charAt_5068e ml_X10_137 im_J0_charAt_5068e se_J0_charAt_5068e F.sw.2.2.2.2.2.2.1 rfl (rest := [.int x7779]) rfl (Nat.le_of_ble_eq_true rfl) ⟨Nat.le_of_ble_eq_true rfl, Nat.le_of_ble_eq_true rfl⟩ ⟨Nat.le_of_ble_eq_true rfl, Nat.le_of_ble_eq_true rfl⟩ (k' := 0) (z' := 0) (N' := N) rfl rfl rfl (fun r σ7782 hp => ?_)
        obtain ⟨rfl, rfl⟩ := hp
        refine m_icmp_ne F e_X10_wordHere_60 (fun q60 => ?_) (fun q60 => ?_)
        · refine m_ldcS F e_X10_wordHere_69 F.sw.1.2.2 ?_
          refine m_iload_n F rfl e_X10_wordHere_71 ?_
          refine m_iload_n F rfl e_X10_wordHere_72 ?_
          refine m_iadd F e_X10_wordHere_73 ?_
          refine Wm.topE (w := nI (k + i)) (nI_add k i) ?_
          refine m_callO F e_X10_wordHere_74 (q_charAt (x_l X) V _ _ (k + i) (by omega)) cb_J0_charAt_5068e ml_X10_137 im_J0_charAt_5068e se_J0_charAt_5068e F.sw.2.2.2.2.2.2.1 rfl (rest := []) rfl (Nat.le_of_ble_eq_true rfl) ⟨Nat.le_of_ble_eq_true rfl, Nat.le_of_ble_eq_true rfl⟩ ⟨Nat.le_of_ble_eq_true rfl, Nat.le_of_ble_eq_true rfl⟩ (k' := 0) (z' := 0) (N' := N) rfl rfl rfl (fun r σ7783 hp => ?_)
          obtain ⟨rfl, rfl⟩ := hp
          refine m_bipush F (v := 32) (by decide) e_X10_wordHere_77 ?_
          refine m_icmp_ne F e_X10_wordHere_79 (fun q79 => ?_) (fun q79 => ?_)
          · refine Wm.lvsub (lv' := [(0, .ref c), (1, .int n1), (2, .int (nI k))]) ?_ [0, 1, 2] rfl
            exact lq_X10_wordHere_97 F hQ hob hP  hO (48 - k + 1) n1 k _ h1 (by omega) (Nat.lt_succ_self _)
          · refine m_aload_n F rfl e_X10_wordHere_82 ?_
            refine r_getC F e_X10_wordHere_83 fl_X10_107 h1 (f7774) ?_
            refine m_iload_n F rfl e_X10_wordHere_86 ?_
            refine m_iadd F e_X10_wordHere_87 ?_
            refine Wm.topE (w := nI (n7775 + i)) (nI_add n7775 i) ?_
            refine m_aload_n F rfl e_X10_wordHere_88 ?_
            refine r_getC F e_X10_wordHere_89 fl_X10_97 h1 (f7776) ?_
            refine m_icmp_ne F e_X10_wordHere_92 (fun q92 => ?_) (fun q92 => ?_)
            · have c92 : (n7775 + i) ≠ P.a := by have hh := mt (nI_eq (a := (n7775 + i)) (b := P.a) (by omega) (by omega)).mpr q92; omega
              refine Wm.lvsub (lv' := [(0, .ref c), (1, .int n1), (2, .int (nI k))]) ?_ [0, 1, 2] rfl
              exact lq_X10_wordHere_97 F hQ hob hP  hO (48 - k + 1) n1 k _ h1 (by omega) (Nat.lt_succ_self _)
            · have c92 : (n7775 + i) = P.a := (nI_eq (a := (n7775 + i)) (b := P.a) (by omega) (by omega)).mp q92
              refine m_iload_n F rfl e_X10_wordHere_95 ?_
              exact m_iret F hQ e_X10_wordHere_96 (⟨h1, _, rfl⟩)
        · refine m_iinc F (v := nI (i + 1)) (lv' := [(3, .int (nI (i + 1))), (0, .ref c), (1, .int n1), (2, .int (nI k))]) e_X10_wordHere_63 rfl (nI_add i 1) (by decide) rfl ?_
          refine m_goto F e_X10_wordHere_66 ?_
          refine Wm.lvsub (lv' := [(0, .ref c), (1, .int n1), (2, .int (nI k)), (3, .int (nI (i + 1)))]) ?_ [1, 2, 3, 0] rfl
          exact ih n1 k (i + 1) _ h1 (by omega) (by omega)
set_option maxRecDepth 20000 in
theorem lq_X10_wordHere_4 {V : VX} {X : MX} {N : Nat} {σ : Mem} {c T Z u h : Nat} {P : NP} {L : Nat → LQ}   (F : Fx V X yX10_wordHere cX10_wordHere 4 (some .int) (rmd 4 0 0)) (hQ : Rt V X 0 0 N (fun r τ => HS V c (⟨T, Z, u, h, P, L⟩ : RG) [0, 1, 2, 3, 4, 5, 6, 7, 8, 9, 10, 11, 12, 13, 14, 15, 16, 17, 18, 19, 20, 21, 22, 23] σ τ ∧ ∃ x : Int32, r = some (.int x))) (hob : OKB L) (hP : OKP P)   : ∀ (fuel : Nat) (n1 : Int32) (k : Nat) (τ : Mem), HS V c (⟨T, Z, u, h, P, L⟩ : RG) [0, 1, 2, 3, 4, 5, 6, 7, 8, 9, 10, 11, 12, 13, 14, 15, 16, 17, 18, 19, 20, 21, 22, 23] σ τ → k ≤ 48 → 48 - k < fuel → Wm V X 4 N τ 0 0 4 [(0, .ref c), (1, .int n1), (2, .int (nI k))] [] := by
  intro fuel
  induction fuel with
  | zero => intros; rename_i hm; exact absurd hm (Nat.not_lt_zero _)
  | succ fuel ih =>
    intro n1 k τ h1 hi hm
    have hPP := hP
    unfold OKP at hPP
    refine m_iload_n F rfl e_X10_wordHere_4 ?_
    refine m_ldcS F e_X10_wordHere_5 F.sw.1.2.2 ?_
    refine m_callO F e_X10_wordHere_7 (q_length (x_l X) V _ _) cb_J0_length_8abf5 ml_X10_132 im_J0_length_8abf5 se_J0_length_8abf5 F.sw.2.2.2.2.2.2.1 rfl (rest := [.int (nI k)]) rfl (Nat.le_of_ble_eq_true rfl) ⟨Nat.le_of_ble_eq_true rfl, Nat.le_of_ble_eq_true rfl⟩ ⟨Nat.le_of_ble_eq_true rfl, Nat.le_of_ble_eq_true rfl⟩ (k' := 0) (z' := 0) (N' := N) rfl rfl rfl (fun r σ7784 hp => ?_)
    obtain ⟨rfl, rfl⟩ := hp
    refine m_icmp_ge F e_X10_wordHere_10 (fun q10 => ?_) (fun q10 => ?_)
    · have c10 : k ≥ 48 := (nI_leI (a := 48) (b := k) (by omega) (by omega)).mp q10
      refine m_iconst F (v := (-1)) (by decide) e_X10_wordHere_123 ?_
      exact m_iret F hQ e_X10_wordHere_124 (⟨h1, _, rfl⟩)
    · have c10 : k < 48 := by have hh := mt (nI_leI (a := 48) (b := k) (by omega) (by omega)).mpr q10; omega
      refine m_iconst F (v := 0) (by decide) e_X10_wordHere_13 ?_
      refine m_istore_n F (lv' := [(3, .int 0), (0, .ref c), (1, .int n1), (2, .int (nI k))]) e_X10_wordHere_14 (by decide) rfl ?_
      refine Wm.lvsub (lv' := [(0, .ref c), (1, .int n1), (2, .int (nI k)), (3, .int 0)]) ?_ [1, 2, 3, 0] rfl
      exact lq_X10_wordHere_15 F hQ hob hP  ih (48 - 0 + 1) n1 k 0 _ h1 (by omega) (Nat.lt_succ_self _)
set_option maxRecDepth 20000 in
theorem q_X10_wordHere (l : Launch) (V : VX) (c T Z u h : Nat) (P : NP) (L : Nat → LQ) (N : Nat) (σ : Mem)  (h0 : HR V c ⟨T, Z, u, h, P, L⟩ σ) (hob : OKB L) (hP : OKP P)  : Ct l V yX10_wordHere cX10_wordHere 4 (some .int) 4 0 0 N σ [.ref c] (fun r τ => HS V c (⟨T, Z, u, h, P, L⟩ : RG) [0, 1, 2, 3, 4, 5, 6, 7, 8, 9, 10, 11, 12, 13, 14, 15, 16, 17, 18, 19, 20, 21, 22, 23] σ τ ∧ ∃ x : Int32, r = some (.int x)) := by
  refine Ct.of (by decide) (Nat.le_of_ble_eq_true rfl) [(0, .ref c)] rfl (fun X hX F hQ => ?_)
  have hPP := hP
  unfold OKP at hPP
  have h1 : HS V c ⟨T, Z, u, h, P, L⟩ [0, 1, 2, 3, 4, 5, 6, 7, 8, 9, 10, 11, 12, 13, 14, 15, 16, 17, 18, 19, 20, 21, 22, 23] σ σ := HS.start h0
  refine m_iconst F (v := 0) (by decide) e_X10_wordHere_0 ?_
  refine m_istore_n F (lv' := [(1, .int 0), (0, .ref c)]) e_X10_wordHere_1 (by decide) rfl ?_
  refine m_iconst F (v := 0) (by decide) e_X10_wordHere_2 ?_
  refine m_istore_n F (lv' := [(2, .int 0), (1, .int 0), (0, .ref c)]) e_X10_wordHere_3 (by decide) rfl ?_
  refine Wm.lvsub (lv' := [(0, .ref c), (1, .int 0), (2, .int 0)]) ?_ [2, 1, 0] rfl
  exact lq_X10_wordHere_4 F hQ hob hP  (48 - 0 + 1) 0 0 _ h1 (by omega) (Nat.lt_succ_self _)
set_option maxRecDepth 20000 in
theorem lq_X10_nameHere_7 {V : VX} {X : MX} {N : Nat} {σ : Mem} {c T Z u h : Nat} {P : NP} {L : Nat → LQ}   (F : Fx V X yX10_nameHere cX10_nameHere 2 none (rmd 0 0 0)) (hQ : Rt V X 0 0 N (fun r τ => HS V c (⟨T, Z, u, h, P, L⟩ : RG) [0, 2, 3, 4, 5, 6, 7, 8, 9, 10, 11, 12, 13, 14, 15, 16, 17, 18, 19, 20, 21, 22, 23] σ τ ∧ r = none)) (hob : OKB L) (hP : OKP P)   : ∀ (fuel : Nat) (i : Nat) (τ : Mem), HS V c (⟨T, Z, u, h, P, L⟩ : RG) [0, 2, 3, 4, 5, 6, 7, 8, 9, 10, 11, 12, 13, 14, 15, 16, 17, 18, 19, 20, 21, 22, 23] σ τ → i ≤ 6 → 6 - i < fuel → Wm V X 2 N τ 0 0 7 [(0, .ref c), (1, .int (nI i))] [] := by
  intro fuel
  induction fuel with
  | zero => intros; rename_i hm; exact absurd hm (Nat.not_lt_zero _)
  | succ fuel ih =>
    intro i τ h1 hi hm
    have hPP := hP
    unfold OKP at hPP
    refine m_iload_n F rfl e_X10_nameHere_7 ?_
    refine m_bipush F (v := 6) (by decide) e_X10_nameHere_8 ?_
    refine m_icmp_ge F e_X10_nameHere_10 (fun q10 => ?_) (fun q10 => ?_)
    · have c10 : i ≥ 6 := (nI_leI (a := 6) (b := i) (by omega) (by omega)).mp q10
      exact m_vret F hQ e_X10_nameHere_63 (⟨h1, rfl⟩)
    · have c10 : i < 6 := by have hh := mt (nI_leI (a := 6) (b := i) (by omega) (by omega)).mpr q10; omega
      refine m_aload_n F rfl e_X10_nameHere_13 ?_
      refine m_aload_n F rfl e_X10_nameHere_14 ?_
      refine r_get F e_X10_nameHere_15 fl_X10_120 h1 rfl (fun v hv f7785 => ?_)
      obtain ⟨x7786, rfl⟩ := hv
      refine m_iconst F (v := 5) (by decide) e_X10_nameHere_18 ?_
      refine m_ishl F e_X10_nameHere_19 ?_
      refine Wm.top (fun x7787 _ => ?_)
      refine m_aload_n F rfl e_X10_nameHere_20 ?_
      refine r_get F e_X10_nameHere_21 fl_X10_107 h1 rfl (fun v hv f7788 => ?_)
      obtain ⟨n7789, hn7789, rfl⟩ := hv
      replace hn7789 : n7789 ≤ 700 := hn7789
      refine m_iload_n F rfl e_X10_nameHere_24 ?_
      refine m_iadd F e_X10_nameHere_25 ?_
      refine Wm.topE (w := nI (n7789 + i)) (nI_add n7789 i) ?_
      refine m_aload_n F rfl e_X10_nameHere_26 ?_
      refine r_get F e_X10_nameHere_27 fl_X10_97 h1 rfl (fun v hv f7790 => ?_)
      obtain rfl : v = .int (nI (P.a)) := hv
      refine m_icmp_ge F e_X10_nameHere_30 (fun q30 => ?_) (fun q30 => ?_)
      · have c30 : (n7789 + i) ≥ P.a := (nI_leI (a := P.a) (b := (n7789 + i)) (by omega) (by omega)).mp q30
        refine m_iconst F (v := 0) (by decide) e_X10_nameHere_52 ?_
        refine m_ior F e_X10_nameHere_53 ?_
        refine Wm.top (fun x7791 _ => ?_)
        refine r_put F (g' := (⟨T, Z, u, h, P, L⟩ : RG)) e_X10_nameHere_54 fp_X10_120 h1 (by decide) ⟨_, rfl⟩ (fun _ _ _ _ q => q) (fun _ _ _ q => q) rfl rfl (by decide) (fun σ7792 h7793 g7794 g7795 f7796 => ?_)
        refine m_iinc F (v := nI (i + 1)) (lv' := [(1, .int (nI (i + 1))), (0, .ref c)]) e_X10_nameHere_57 rfl (nI_add i 1) (by decide) rfl ?_
        refine m_goto F e_X10_nameHere_60 ?_
        refine Wm.lvsub (lv' := [(0, .ref c), (1, .int (nI (i + 1)))]) ?_ [1, 0] rfl
        exact ih (i + 1) _ h7793 (by omega) (by omega)
      · have c30 : (n7789 + i) < P.a := by have hh := mt (nI_leI (a := P.a) (b := (n7789 + i)) (by omega) (by omega)).mpr q30; omega
        refine m_aload_n F rfl e_X10_nameHere_33 ?_
        refine r_get F e_X10_nameHere_34 fl_X10_7 h1 rfl (fun v hv f7797 => ?_)
        obtain rfl : v = .ref (c + 1) := hv
        refine m_aload_n F rfl e_X10_nameHere_37 ?_
        refine r_getC F e_X10_nameHere_38 fl_X10_107 h1 (f7788) ?_
        refine m_iload_n F rfl e_X10_nameHere_41 ?_
        refine m_iadd F e_X10_nameHere_42 ?_
        refine Wm.topE (w := nI (n7789 + i)) (nI_add n7789 i) ?_
        refine r_iald F (len := 700) (j := n7789 + i) e_X10_nameHere_43 h1 (fun _ h => h) (by decide) (nI_clamp (by omega)) (vp_in_nI (by omega) (by decide)) (fun x7798 h7799 f7800 => ?_)
        refine m_bipush F (v := 97) (by decide) e_X10_nameHere_44 ?_
        refine m_isub F e_X10_nameHere_46 ?_
        refine Wm.top (fun x7801 _ => ?_)
        refine m_iconst F (v := 1) (by decide) e_X10_nameHere_47 ?_
        refine m_iadd F e_X10_nameHere_48 ?_
        refine Wm.top (fun x7802 _ => ?_)
        refine m_goto F e_X10_nameHere_49 ?_
        refine m_ior F e_X10_nameHere_53 ?_
        refine Wm.top (fun x7803 _ => ?_)
        refine r_put F (g' := (⟨T, Z, u, h, P, L⟩ : RG)) e_X10_nameHere_54 fp_X10_120 h1 (by decide) ⟨_, rfl⟩ (fun _ _ _ _ q => q) (fun _ _ _ q => q) rfl rfl (by decide) (fun σ7804 h7805 g7806 g7807 f7808 => ?_)
        refine m_iinc F (v := nI (i + 1)) (lv' := [(1, .int (nI (i + 1))), (0, .ref c)]) e_X10_nameHere_57 rfl (nI_add i 1) (by decide) rfl ?_
        refine m_goto F e_X10_nameHere_60 ?_
        refine Wm.lvsub (lv' := [(0, .ref c), (1, .int (nI (i + 1)))]) ?_ [1, 0] rfl
        exact ih (i + 1) _ h7805 (by omega) (by omega)
set_option maxRecDepth 20000 in
theorem q_X10_nameHere (l : Launch) (V : VX) (c T Z u h : Nat) (P : NP) (L : Nat → LQ) (N : Nat) (σ : Mem)  (h0 : HR V c ⟨T, Z, u, h, P, L⟩ σ) (hob : OKB L) (hP : OKP P)  : Ct l V yX10_nameHere cX10_nameHere 2 none 0 0 0 N σ [.ref c] (fun r τ => HS V c (⟨T, Z, u, h, P, L⟩ : RG) [0, 2, 3, 4, 5, 6, 7, 8, 9, 10, 11, 12, 13, 14, 15, 16, 17, 18, 19, 20, 21, 22, 23] σ τ ∧ r = none) := by
  refine Ct.of (by decide) (Nat.le_of_ble_eq_true rfl) [(0, .ref c)] rfl (fun X hX F hQ => ?_)
  have hPP := hP
  unfold OKP at hPP
  have h1 : HS V c ⟨T, Z, u, h, P, L⟩ [0, 2, 3, 4, 5, 6, 7, 8, 9, 10, 11, 12, 13, 14, 15, 16, 17, 18, 19, 20, 21, 22, 23] σ σ := HS.start h0
  refine m_aload_n F rfl e_X10_nameHere_0 ?_
  refine m_iconst F (v := 0) (by decide) e_X10_nameHere_1 ?_
  refine r_put F (g' := (⟨T, Z, u, h, P, L⟩ : RG)) e_X10_nameHere_2 fp_X10_120 h1 (by decide) ⟨_, rfl⟩ (fun _ _ _ _ q => q) (fun _ _ _ q => q) rfl rfl (by decide) (fun σ7809 h7810 g7811 g7812 f7813 => ?_)
  refine m_iconst F (v := 0) (by decide) e_X10_nameHere_5 ?_
  refine m_istore_n F (lv' := [(1, .int 0), (0, .ref c)]) e_X10_nameHere_6 (by decide) rfl ?_
  refine Wm.lvsub (lv' := [(0, .ref c), (1, .int 0)]) ?_ [1, 0] rfl
  exact lq_X10_nameHere_7 F hQ hob hP  (6 - 0 + 1) 0 _ h7810 (by omega) (Nat.lt_succ_self _)
set_option maxRecDepth 20000 in
theorem lq_X10_token_162 {V : VX} {X : MX} {N : Nat} {σ : Mem} {c T Z u h : Nat} {P : NP} {L : Nat → LQ}   (F : Fx V X yX10_token cX10_token 2 none (rmd 5 0 0)) (hQ : Rt V X 0 0 N (fun r τ => ∃ P9 : NP, OKP P9 ∧ RA P P9 ∧ (fld τ c 21 = some (.int 4) ∨ P.a < P9.a) ∧ HS V c (⟨T, Z, u, h, P9, L⟩ : RG) [0, 2, 3, 4, 5, 6, 7, 8, 9, 10, 11, 12, 13, 14, 15, 16, 17, 18, 19, 20, 21, 22, 23] σ τ ∧ r = none)) (hob : OKB L) (hP : OKP P)   : ∀ (fuel : Nat)  (P1 : NP) (τ : Mem), HS V c (⟨T, Z, u, h, P1, L⟩ : RG) [0, 2, 3, 4, 5, 6, 7, 8, 9, 10, 11, 12, 13, 14, 15, 16, 17, 18, 19, 20, 21, 22, 23] σ τ → OKP P1 → RA P P1 → P.a < P1.a → 700 - P1.a < fuel → Wm V X 2 N τ 0 0 162 [(0, .ref c)] [] := by
  intro fuel
  induction fuel with
  | zero => intros; rename_i hm; exact absurd hm (Nat.not_lt_zero _)
  | succ fuel ih =>
    intro  P1 τ h1 hP1 hR1 hi hm
    have hPP := hP
    unfold OKP at hPP
    have hPP1 := hP1
    unfold OKP at hPP1
    unfold RA at hR1
    refine m_aload_n F rfl e_X10_token_162 ?_
    refine r_callV F e_X10_token_163 (q_X10_here (x_l X) V c T Z u h P1 L _ _  h1.1 (hob) hP1 ) cb_X10_here ml_X10_103 im_X10_here se_X10_here h1 rfl rfl (rest := []) rfl (Nat.le_of_ble_eq_true rfl) ⟨Nat.le_of_ble_eq_true rfl, Nat.le_of_ble_eq_true rfl⟩ ⟨Nat.le_of_ble_eq_true rfl, Nat.le_of_ble_eq_true rfl⟩ (fun r σ7814 hp => ?_)
    obtain ⟨h7815, x7817, gex7817, rfl⟩ := hp
    have h7816 := HS.trans h1 h7815 (by decide)
    refine m_callS F e_X10_token_166 (q_X10_isDigit2 (x_l X) V _ _ x7817 ) cb_X10_isDigit ml_X10_126 sm_X10_isDigit rfl (rest := []) rfl (Nat.le_of_ble_eq_true rfl) ⟨Nat.le_of_ble_eq_true rfl, Nat.le_of_ble_eq_true rfl⟩ ⟨Nat.le_of_ble_eq_true rfl, Nat.le_of_ble_eq_true rfl⟩ (k' := 0) (z' := 0) (N' := N) rfl rfl rfl (fun r σ7818 hp => ?_)
    obtain ⟨rfl, c7821⟩ := hp
    rcases c7821 with ⟨g7822, rfl⟩ | ⟨g7822, rfl⟩
    · refine m_if_eq F e_X10_token_169 (fun _ => ?_) (fun q => absurd (by decide) q)
      exact m_vret F hQ e_X10_token_245 (⟨P1, hP1, (by unfold RA; omega), (Or.inr (by omega)), h7816, rfl⟩)
    · refine m_if_eq F e_X10_token_169 (fun q => absurd q (by decide)) (fun _ => ?_)
      have ha7823 := gex7817.lt (fun e => g7822.1 (by rw [e]; decide))
      have ha7824 := gex7817.lt (fun e => g7822.1 (by rw [e]; decide))
      have ha7825 := gex7817.lt (fun e => g7822.1 (by rw [e]; decide))
      refine m_aload_n F rfl e_X10_token_172 ?_
      refine m_aload_n F rfl e_X10_token_173 ?_
      refine r_get F e_X10_token_174 fl_X10_120 h7816 rfl (fun v hv f7826 => ?_)
      obtain ⟨x7827, rfl⟩ := hv
      refine m_ldc F kc_X10_129 e_X10_token_177 ?_
      refine m_icmp_le F e_X10_token_179 (fun q179 => ?_) (fun q179 => ?_)
      · refine m_bipush F (v := 10) (by decide) e_X10_token_189 ?_
        refine m_aload_n F rfl e_X10_token_191 ?_
        refine r_getC F e_X10_token_192 fl_X10_120 h7816 (f7826) ?_
        refine m_imul F e_X10_token_195 ?_
        refine Wm.top (fun x7828 _ => ?_)
        refine m_aload_n F rfl e_X10_token_196 ?_
        refine r_callV F e_X10_token_197 (q_X10_here (x_l X) V c T Z u h P1 L _ _  h7816.1 (hob) hP1 ) cb_X10_here ml_X10_103 im_X10_here se_X10_here h7816 rfl rfl (rest := [.int x7828, .ref c]) rfl (Nat.le_of_ble_eq_true rfl) ⟨Nat.le_of_ble_eq_true rfl, Nat.le_of_ble_eq_true rfl⟩ ⟨Nat.le_of_ble_eq_true rfl, Nat.le_of_ble_eq_true rfl⟩ (fun r σ7829 hp => ?_)
        obtain ⟨h7830, x7832, gex7832, rfl⟩ := hp
        have h7831 := HS.trans h7816 h7830 (by decide)
        have he7833 := gex7817.of (fld_eq (h7830.2 c (by rw [show kC c c = 1 from kC_at (k := 0) (by decide)]; decide))) (elI_eq (h7830.2 (c + 1) (by rw [kC_at (k := 1) (by decide)]; decide)))
        obtain rfl : x7817 = x7832 := HE.uniq he7833 gex7832
        refine m_iadd F e_X10_token_200 ?_
        refine Wm.top (fun x7834 _ => ?_)
        refine m_bipush F (v := 48) (by decide) e_X10_token_201 ?_
        refine m_isub F e_X10_token_203 ?_
        refine Wm.top (fun x7835 _ => ?_)
        refine r_put F (g' := (⟨T, Z, u, h, P1, L⟩ : RG)) e_X10_token_204 fp_X10_120 h7831 (by decide) ⟨_, rfl⟩ (fun _ _ _ _ q => q) (fun _ _ _ q => q) rfl rfl (by decide) (fun σ7836 h7837 g7838 g7839 f7840 => ?_)
        have he7841 := gex7832.of (g7839 18 (by decide)) (elI_eq (g7838 _ (by omega)))
        refine m_aload_n F rfl e_X10_token_207 ?_
        refine m_dup F rfl e_X10_token_208 ?_
        refine r_get F e_X10_token_209 fl_X10_97 h7837 rfl (fun v hv f7842 => ?_)
        obtain rfl : v = .int (nI (P1.a)) := hv
        refine m_iconst F (v := 1) (by decide) e_X10_token_212 ?_
        refine m_iadd F e_X10_token_213 ?_
        refine Wm.topE (w := nI (P1.a + 1)) (nI_add P1.a 1) ?_
        refine r_put F (g' := (⟨T, Z, u, h, (mkP P1.n0 P1.n2 P1.n5 P1.n7 P1.m0 P1.m5 P1.w2 P1.w7 P1.kk (P1.a + 1)), L⟩ : RG)) e_X10_token_214 fp_X10_97 h7837 (by decide) rfl ctl_a CR.setA rfl rfl (by decide) (fun σ7843 h7844 g7845 g7846 f7847 => ?_)
        obtain ⟨P7848, eP7848⟩ : ∃ P9, P9 = (mkP P1.n0 P1.n2 P1.n5 P1.n7 P1.m0 P1.m5 P1.w2 P1.w7 P1.kk (P1.a + 1)) := ⟨_, rfl⟩
        rw [← eP7848] at h7844
        have fP7848 : P7848.n0 = P1.n0 ∧ P7848.n2 = P1.n2 ∧ P7848.n5 = P1.n5 ∧ P7848.n7 = P1.n7 ∧ P7848.m0 = P1.m0 ∧ P7848.m5 = P1.m5 ∧ P7848.w2 = P1.w2 ∧ P7848.w7 = P1.w7 ∧ P7848.kk = P1.kk ∧ P7848.a = P1.a + 1 := by rw [eP7848]; exact ⟨rfl, rfl, rfl, rfl, rfl, rfl, rfl, rfl, rfl, rfl⟩
        have he7849 := he7841.of (g7846 18 (by decide)) (elI_eq (g7845 _ (by omega)))
        refine m_goto F e_X10_token_217 ?_
        have oP7850 : OKP P7848 := by unfold OKP; omega
        exact ih  P7848 _ h7844 oP7850 (by unfold RA; omega) (by omega) (by omega)
      · obtain ⟨n7851, hn7851, rfl⟩ := nI_nn (x := x7827) (fun e => q179 (Int32.le_trans (Int32.le_of_lt e) (by decide)))
        have c179 : n7851 > 9999999 := by have hh := mt (nI_leI (a := n7851) (b := 9999999) (by omega) (by omega)).mpr q179; omega
        refine m_aload_n F rfl e_X10_token_182 ?_
        refine r_getC F e_X10_token_183 fl_X10_120 h7816 (f7826) ?_
        refine m_goto F e_X10_token_186 ?_
        refine r_put F (g' := (⟨T, Z, u, h, P1, L⟩ : RG)) e_X10_token_204 fp_X10_120 h7816 (by decide) ⟨_, rfl⟩ (fun _ _ _ _ q => q) (fun _ _ _ q => q) rfl rfl (by decide) (fun σ7852 h7853 g7854 g7855 f7856 => ?_)
        have he7857 := gex7817.of (g7855 18 (by decide)) (elI_eq (g7854 _ (by omega)))
        refine m_aload_n F rfl e_X10_token_207 ?_
        refine m_dup F rfl e_X10_token_208 ?_
        refine r_get F e_X10_token_209 fl_X10_97 h7853 rfl (fun v hv f7858 => ?_)
        obtain rfl : v = .int (nI (P1.a)) := hv
        refine m_iconst F (v := 1) (by decide) e_X10_token_212 ?_
        refine m_iadd F e_X10_token_213 ?_
        refine Wm.topE (w := nI (P1.a + 1)) (nI_add P1.a 1) ?_
        refine r_put F (g' := (⟨T, Z, u, h, (mkP P1.n0 P1.n2 P1.n5 P1.n7 P1.m0 P1.m5 P1.w2 P1.w7 P1.kk (P1.a + 1)), L⟩ : RG)) e_X10_token_214 fp_X10_97 h7853 (by decide) rfl ctl_a CR.setA rfl rfl (by decide) (fun σ7859 h7860 g7861 g7862 f7863 => ?_)
        obtain ⟨P7864, eP7864⟩ : ∃ P9, P9 = (mkP P1.n0 P1.n2 P1.n5 P1.n7 P1.m0 P1.m5 P1.w2 P1.w7 P1.kk (P1.a + 1)) := ⟨_, rfl⟩
        rw [← eP7864] at h7860
        have fP7864 : P7864.n0 = P1.n0 ∧ P7864.n2 = P1.n2 ∧ P7864.n5 = P1.n5 ∧ P7864.n7 = P1.n7 ∧ P7864.m0 = P1.m0 ∧ P7864.m5 = P1.m5 ∧ P7864.w2 = P1.w2 ∧ P7864.w7 = P1.w7 ∧ P7864.kk = P1.kk ∧ P7864.a = P1.a + 1 := by rw [eP7864]; exact ⟨rfl, rfl, rfl, rfl, rfl, rfl, rfl, rfl, rfl, rfl⟩
        have he7865 := he7857.of (g7862 18 (by decide)) (elI_eq (g7861 _ (by omega)))
        refine m_goto F e_X10_token_217 ?_
        have oP7866 : OKP P7864 := by unfold OKP; omega
        exact ih  P7864 _ h7860 oP7866 (by unfold RA; omega) (by omega) (by omega)
set_option maxRecDepth 20000 in
theorem lq_X10_token_64 {V : VX} {X : MX} {N : Nat} {σ : Mem} {c T Z u h : Nat} {P : NP} {L : Nat → LQ}   (F : Fx V X yX10_token cX10_token 2 none (rmd 5 0 0)) (hQ : Rt V X 0 0 N (fun r τ => ∃ P9 : NP, OKP P9 ∧ RA P P9 ∧ (fld τ c 21 = some (.int 4) ∨ P.a < P9.a) ∧ HS V c (⟨T, Z, u, h, P9, L⟩ : RG) [0, 2, 3, 4, 5, 6, 7, 8, 9, 10, 11, 12, 13, 14, 15, 16, 17, 18, 19, 20, 21, 22, 23] σ τ ∧ r = none)) (hob : OKB L) (hP : OKP P)   : ∀ (fuel : Nat)  (P1 : NP) (τ : Mem), HS V c (⟨T, Z, u, h, P1, L⟩ : RG) [0, 2, 3, 4, 5, 6, 7, 8, 9, 10, 11, 12, 13, 14, 15, 16, 17, 18, 19, 20, 21, 22, 23] σ τ → OKP P1 → RA P P1 → P.a < P1.a → 700 - P1.a < fuel → Wm V X 2 N τ 0 0 64 [(0, .ref c)] [] := by
  intro fuel
  induction fuel with
  | zero => intros; rename_i hm; exact absurd hm (Nat.not_lt_zero _)
  | succ fuel ih =>
    intro  P1 τ h1 hP1 hR1 hi hm
    have hPP := hP
    unfold OKP at hPP
    have hPP1 := hP1
    unfold OKP at hPP1
    unfold RA at hR1
    refine m_aload_n F rfl e_X10_token_64 ?_
    refine r_callV F e_X10_token_65 (q_X10_here (x_l X) V c T Z u h P1 L _ _  h1.1 (hob) hP1 ) cb_X10_here ml_X10_103 im_X10_here se_X10_here h1 rfl rfl (rest := []) rfl (Nat.le_of_ble_eq_true rfl) ⟨Nat.le_of_ble_eq_true rfl, Nat.le_of_ble_eq_true rfl⟩ ⟨Nat.le_of_ble_eq_true rfl, Nat.le_of_ble_eq_true rfl⟩ (fun r σ7867 hp => ?_)
    obtain ⟨h7868, x7870, gex7870, rfl⟩ := hp
    have h7869 := HS.trans h1 h7868 (by decide)
    refine m_callS F e_X10_token_68 (q_X10_isSmall2 (x_l X) V _ _ x7870 ) cb_X10_isSmall ml_X10_113 sm_X10_isSmall rfl (rest := []) rfl (Nat.le_of_ble_eq_true rfl) ⟨Nat.le_of_ble_eq_true rfl, Nat.le_of_ble_eq_true rfl⟩ ⟨Nat.le_of_ble_eq_true rfl, Nat.le_of_ble_eq_true rfl⟩ (k' := 0) (z' := 0) (N' := N) rfl rfl rfl (fun r σ7871 hp => ?_)
    obtain ⟨rfl, c7874⟩ := hp
    rcases c7874 with ⟨g7875, rfl⟩ | ⟨g7875, rfl⟩
    · refine m_if_eq F e_X10_token_71 (fun _ => ?_) (fun q => absurd (by decide) q)
      refine m_aload_n F rfl e_X10_token_87 ?_
      refine m_aload_n F rfl e_X10_token_88 ?_
      refine r_callV F e_X10_token_89 (q_X10_wordHere (x_l X) V c T Z u h P1 L _ _  h7869.1 (hob) hP1 ) cb_X10_wordHere ml_X10_117 im_X10_wordHere se_X10_wordHere h7869 rfl rfl (rest := [.ref c]) rfl (Nat.le_of_ble_eq_true rfl) ⟨Nat.le_of_ble_eq_true rfl, Nat.le_of_ble_eq_true rfl⟩ ⟨Nat.le_of_ble_eq_true rfl, Nat.le_of_ble_eq_true rfl⟩ (fun r σ7876 hp => ?_)
      obtain ⟨h7877, x7879, rfl⟩ := hp
      have h7878 := HS.trans h7869 h7877 (by decide)
      have he7880 := gex7870.of (fld_eq (h7877.2 c (by rw [show kC c c = 1 from kC_at (k := 0) (by decide)]; decide))) (elI_eq (h7877.2 (c + 1) (by rw [kC_at (k := 1) (by decide)]; decide)))
      refine r_put F (g' := (⟨T, Z, u, h, P1, L⟩ : RG)) e_X10_token_92 fp_X10_120 h7878 (by decide) ⟨_, rfl⟩ (fun _ _ _ _ q => q) (fun _ _ _ q => q) rfl rfl (by decide) (fun σ7881 h7882 g7883 g7884 f7885 => ?_)
      have he7886 := he7880.of (g7884 18 (by decide)) (elI_eq (g7883 _ (by omega)))
      refine m_aload_n F rfl e_X10_token_95 ?_
      refine m_aload_n F rfl e_X10_token_96 ?_
      refine r_getC F e_X10_token_97 fl_X10_120 h7882 (f7885) ?_
      refine m_iconst F (v := (-1)) (by decide) e_X10_token_100 ?_
      refine m_icmp_eq F e_X10_token_101 (fun q101 => ?_) (fun q101 => ?_)
      · subst q101
        refine m_aload_n F rfl e_X10_token_108 ?_
        refine r_get F e_X10_token_109 fl_X10_97 h7882 rfl (fun v hv f7887 => ?_)
        obtain rfl : v = .int (nI (P1.a)) := hv
        refine m_aload_n F rfl e_X10_token_112 ?_
        refine r_get F e_X10_token_113 fl_X10_107 h7882 rfl (fun v hv f7888 => ?_)
        obtain ⟨n7889, hn7889, rfl⟩ := hv
        replace hn7889 : n7889 ≤ 700 := hn7889
        refine m_isub F e_X10_token_116 ?_
        refine Wm.top (fun x7890 _ => ?_)
        refine m_bipush F (v := 6) (by decide) e_X10_token_117 ?_
        refine m_icmp_le F e_X10_token_119 (fun q119 => ?_) (fun q119 => ?_)
        · refine m_iconst F (v := 1) (by decide) e_X10_token_126 ?_
          refine r_put F (g' := (⟨T, Z, u, h, P1, L⟩ : RG)) e_X10_token_127 fp_X10_110 h7882 (by decide) ⟨_, rfl⟩ (fun _ _ _ _ q => q) (fun _ _ _ q => q) rfl rfl (by decide) (fun σ7891 h7892 g7893 g7894 f7895 => ?_)
          have he7896 := he7886.of (g7894 18 (by decide)) (elI_eq (g7893 _ (by omega)))
          refine m_aload_n F rfl e_X10_token_130 ?_
          refine r_getC F e_X10_token_131 fl_X10_110 h7892 (f7895) ?_
          refine m_iconst F (v := 1) (by decide) e_X10_token_134 ?_
          refine m_icmp_ne F e_X10_token_135 (fun q => absurd (by decide) q) (fun _ => ?_)
          refine m_aload_n F rfl e_X10_token_138 ?_
          refine r_callV F e_X10_token_139 (q_X10_nameHere (x_l X) V c T Z u h P1 L _ _  h7892.1 (hob) hP1 ) cb_X10_nameHere ml_X10_123 im_X10_nameHere se_X10_nameHere h7892 rfl rfl (rest := []) rfl (Nat.le_of_ble_eq_true rfl) ⟨Nat.le_of_ble_eq_true rfl, Nat.le_of_ble_eq_true rfl⟩ ⟨Nat.le_of_ble_eq_true rfl, Nat.le_of_ble_eq_true rfl⟩ (fun r σ7897 hp => ?_)
          obtain ⟨h7898, rfl⟩ := hp
          have h7899 := HS.trans h7892 h7898 (by decide)
          refine m_goto F e_X10_token_142 ?_
          exact m_vret F hQ e_X10_token_245 (⟨P1, hP1, (by unfold RA; omega), (Or.inr (by omega)), h7899, rfl⟩)
        · obtain ⟨n7900, hn7900, rfl⟩ := nI_nn (x := x7890) (fun e => q119 (Int32.le_trans (Int32.le_of_lt e) (by decide)))
          have c119 : n7900 > 6 := by have hh := mt (nI_leI (a := n7900) (b := 6) (by omega) (by omega)).mpr q119; omega
          refine m_iconst F (v := 5) (by decide) e_X10_token_122 ?_
          refine m_goto F e_X10_token_123 ?_
          refine r_put F (g' := (⟨T, Z, u, h, P1, L⟩ : RG)) e_X10_token_127 fp_X10_110 h7882 (by decide) ⟨_, rfl⟩ (fun _ _ _ _ q => q) (fun _ _ _ q => q) rfl rfl (by decide) (fun σ7901 h7902 g7903 g7904 f7905 => ?_)
          have he7906 := he7886.of (g7904 18 (by decide)) (elI_eq (g7903 _ (by omega)))
          refine m_aload_n F rfl e_X10_token_130 ?_
          refine r_getC F e_X10_token_131 fl_X10_110 h7902 (f7905) ?_
          refine m_iconst F (v := 1) (by decide) e_X10_token_134 ?_
          refine m_icmp_ne F e_X10_token_135 (fun _ => ?_) (fun q => absurd q (by decide))
          exact m_vret F hQ e_X10_token_245 (⟨P1, hP1, (by unfold RA; omega), (Or.inr (by omega)), h7902, rfl⟩)
      · refine m_iconst F (v := 0) (by decide) e_X10_token_104 ?_
        refine m_goto F e_X10_token_105 ?_
        refine r_put F (g' := (⟨T, Z, u, h, P1, L⟩ : RG)) e_X10_token_127 fp_X10_110 h7882 (by decide) ⟨_, rfl⟩ (fun _ _ _ _ q => q) (fun _ _ _ q => q) rfl rfl (by decide) (fun σ7907 h7908 g7909 g7910 f7911 => ?_)
        have he7912 := he7886.of (g7910 18 (by decide)) (elI_eq (g7909 _ (by omega)))
        refine m_aload_n F rfl e_X10_token_130 ?_
        refine r_getC F e_X10_token_131 fl_X10_110 h7908 (f7911) ?_
        refine m_iconst F (v := 1) (by decide) e_X10_token_134 ?_
        refine m_icmp_ne F e_X10_token_135 (fun _ => ?_) (fun q => absurd q (by decide))
        exact m_vret F hQ e_X10_token_245 (⟨P1, hP1, (by unfold RA; omega), (Or.inr (by omega)), h7908, rfl⟩)
    · refine m_if_eq F e_X10_token_71 (fun q => absurd q (by decide)) (fun _ => ?_)
      have ha7913 := gex7870.lt (fun e => g7875.1 (by rw [e]; decide))
      have ha7914 := gex7870.lt (fun e => g7875.1 (by rw [e]; decide))
      have ha7915 := gex7870.lt (fun e => g7875.1 (by rw [e]; decide))
      refine m_aload_n F rfl e_X10_token_74 ?_
      refine m_dup F rfl e_X10_token_75 ?_
      refine r_get F e_X10_token_76 fl_X10_97 h7869 rfl (fun v hv f7916 => ?_)
      obtain rfl : v = .int (nI (P1.a)) := hv
      refine m_iconst F (v := 1) (by decide) e_X10_token_79 ?_
      refine m_iadd F e_X10_token_80 ?_
      refine Wm.topE (w := nI (P1.a + 1)) (nI_add P1.a 1) ?_
      refine r_put F (g' := (⟨T, Z, u, h, (mkP P1.n0 P1.n2 P1.n5 P1.n7 P1.m0 P1.m5 P1.w2 P1.w7 P1.kk (P1.a + 1)), L⟩ : RG)) e_X10_token_81 fp_X10_97 h7869 (by decide) rfl ctl_a CR.setA rfl rfl (by decide) (fun σ7917 h7918 g7919 g7920 f7921 => ?_)
      obtain ⟨P7922, eP7922⟩ : ∃ P9, P9 = (mkP P1.n0 P1.n2 P1.n5 P1.n7 P1.m0 P1.m5 P1.w2 P1.w7 P1.kk (P1.a + 1)) := ⟨_, rfl⟩
      rw [← eP7922] at h7918
      have fP7922 : P7922.n0 = P1.n0 ∧ P7922.n2 = P1.n2 ∧ P7922.n5 = P1.n5 ∧ P7922.n7 = P1.n7 ∧ P7922.m0 = P1.m0 ∧ P7922.m5 = P1.m5 ∧ P7922.w2 = P1.w2 ∧ P7922.w7 = P1.w7 ∧ P7922.kk = P1.kk ∧ P7922.a = P1.a + 1 := by rw [eP7922]; exact ⟨rfl, rfl, rfl, rfl, rfl, rfl, rfl, rfl, rfl, rfl⟩
      have he7923 := gex7870.of (g7920 18 (by decide)) (elI_eq (g7919 _ (by omega)))
      refine m_goto F e_X10_token_84 ?_
      have oP7924 : OKP P7922 := by unfold OKP; omega
      exact ih  P7922 _ h7918 oP7924 (by unfold RA; omega) (by omega) (by omega)
set_option maxRecDepth 20000 in
theorem lq_X10_token_0 {V : VX} {X : MX} {N : Nat} {σ : Mem} {c T Z u h : Nat} {P : NP} {L : Nat → LQ}   (F : Fx V X yX10_token cX10_token 2 none (rmd 5 0 0)) (hQ : Rt V X 0 0 N (fun r τ => ∃ P9 : NP, OKP P9 ∧ RA P P9 ∧ (fld τ c 21 = some (.int 4) ∨ P.a < P9.a) ∧ HS V c (⟨T, Z, u, h, P9, L⟩ : RG) [0, 2, 3, 4, 5, 6, 7, 8, 9, 10, 11, 12, 13, 14, 15, 16, 17, 18, 19, 20, 21, 22, 23] σ τ ∧ r = none)) (hob : OKB L) (hP : OKP P)   : ∀ (fuel : Nat)  (P1 : NP) (τ : Mem), HS V c (⟨T, Z, u, h, P1, L⟩ : RG) [0, 2, 3, 4, 5, 6, 7, 8, 9, 10, 11, 12, 13, 14, 15, 16, 17, 18, 19, 20, 21, 22, 23] σ τ → OKP P1 → RA P P1 → True → 700 - P1.a < fuel → Wm V X 2 N τ 0 0 0 [(0, .ref c)] [] := by
  intro fuel
  induction fuel with
  | zero => intros; rename_i hm; exact absurd hm (Nat.not_lt_zero _)
  | succ fuel ih =>
    intro  P1 τ h1 hP1 hR1 hi hm
    have hPP := hP
    unfold OKP at hPP
    have hPP1 := hP1
    unfold OKP at hPP1
    unfold RA at hR1
    refine m_aload_n F rfl e_X10_token_0 ?_
    refine r_callV F e_X10_token_1 (q_X10_here (x_l X) V c T Z u h P1 L _ _  h1.1 (hob) hP1 ) cb_X10_here ml_X10_103 im_X10_here se_X10_here h1 rfl rfl (rest := []) rfl (Nat.le_of_ble_eq_true rfl) ⟨Nat.le_of_ble_eq_true rfl, Nat.le_of_ble_eq_true rfl⟩ ⟨Nat.le_of_ble_eq_true rfl, Nat.le_of_ble_eq_true rfl⟩ (fun r σ7925 hp => ?_)
    obtain ⟨h7926, x7928, gex7928, rfl⟩ := hp
    have h7927 := HS.trans h1 h7926 (by decide)
    refine m_bipush F (v := 10) (by decide) e_X10_token_4 ?_
    refine m_icmp_eq F e_X10_token_6 (fun q6 => ?_) (fun q6 => ?_)
    · subst q6
      have ha7929 := gex7928.lt (by decide)
      refine m_aload_n F rfl e_X10_token_18 ?_
      refine m_dup F rfl e_X10_token_19 ?_
      refine r_get F e_X10_token_20 fl_X10_97 h7927 rfl (fun v hv f7930 => ?_)
      obtain rfl : v = .int (nI (P1.a)) := hv
      refine m_iconst F (v := 1) (by decide) e_X10_token_23 ?_
      refine m_iadd F e_X10_token_24 ?_
      refine Wm.topE (w := nI (P1.a + 1)) (nI_add P1.a 1) ?_
      refine r_put F (g' := (⟨T, Z, u, h, (mkP P1.n0 P1.n2 P1.n5 P1.n7 P1.m0 P1.m5 P1.w2 P1.w7 P1.kk (P1.a + 1)), L⟩ : RG)) e_X10_token_25 fp_X10_97 h7927 (by decide) rfl ctl_a CR.setA rfl rfl (by decide) (fun σ7931 h7932 g7933 g7934 f7935 => ?_)
      obtain ⟨P7936, eP7936⟩ : ∃ P9, P9 = (mkP P1.n0 P1.n2 P1.n5 P1.n7 P1.m0 P1.m5 P1.w2 P1.w7 P1.kk (P1.a + 1)) := ⟨_, rfl⟩
      rw [← eP7936] at h7932
      have fP7936 : P7936.n0 = P1.n0 ∧ P7936.n2 = P1.n2 ∧ P7936.n5 = P1.n5 ∧ P7936.n7 = P1.n7 ∧ P7936.m0 = P1.m0 ∧ P7936.m5 = P1.m5 ∧ P7936.w2 = P1.w2 ∧ P7936.w7 = P1.w7 ∧ P7936.kk = P1.kk ∧ P7936.a = P1.a + 1 := by rw [eP7936]; exact ⟨rfl, rfl, rfl, rfl, rfl, rfl, rfl, rfl, rfl, rfl⟩
      have he7937 := gex7928.of (g7934 18 (by decide)) (elI_eq (g7933 _ (by omega)))
      refine m_goto F e_X10_token_28 ?_
      have oP7938 : OKP P7936 := by unfold OKP; omega
      exact ih  P7936 _ h7932 oP7938 (by unfold RA; omega) trivial (by omega)
    · refine m_aload_n F rfl e_X10_token_9 ?_
      refine r_callV F e_X10_token_10 (q_X10_here (x_l X) V c T Z u h P1 L _ _  h7927.1 (hob) hP1 ) cb_X10_here ml_X10_103 im_X10_here se_X10_here h7927 rfl rfl (rest := []) rfl (Nat.le_of_ble_eq_true rfl) ⟨Nat.le_of_ble_eq_true rfl, Nat.le_of_ble_eq_true rfl⟩ ⟨Nat.le_of_ble_eq_true rfl, Nat.le_of_ble_eq_true rfl⟩ (fun r σ7939 hp => ?_)
      obtain ⟨h7940, x7942, gex7942, rfl⟩ := hp
      have h7941 := HS.trans h7927 h7940 (by decide)
      have he7943 := gex7928.of (fld_eq (h7940.2 c (by rw [show kC c c = 1 from kC_at (k := 0) (by decide)]; decide))) (elI_eq (h7940.2 (c + 1) (by rw [kC_at (k := 1) (by decide)]; decide)))
      obtain rfl : x7928 = x7942 := HE.uniq he7943 gex7942
      refine m_bipush F (v := 32) (by decide) e_X10_token_13 ?_
      refine m_icmp_ne F e_X10_token_15 (fun q15 => ?_) (fun q15 => ?_)
      · refine m_aload_n F rfl e_X10_token_31 ?_
        refine m_aload_n F rfl e_X10_token_32 ?_
        refine r_get F e_X10_token_33 fl_X10_97 h7941 rfl (fun v hv f7944 => ?_)
        obtain rfl : v = .int (nI (P1.a)) := hv
        refine r_put F (g' := (⟨T, Z, u, h, P1, L⟩ : RG)) e_X10_token_36 fp_X10_107 h7941 (by decide) ⟨P1.a, (show P1.a ≤ 700 by omega), rfl⟩ (fun _ _ _ _ q => q) (fun _ _ _ q => q) rfl rfl (by decide) (fun σ7945 h7946 g7947 g7948 f7949 => ?_)
        have he7950 := gex7942.of (g7948 18 (by decide)) (elI_eq (g7947 _ (by omega)))
        refine m_aload_n F rfl e_X10_token_39 ?_
        refine r_callV F e_X10_token_40 (q_X10_here (x_l X) V c T Z u h P1 L _ _  h7946.1 (hob) hP1 ) cb_X10_here ml_X10_103 im_X10_here se_X10_here h7946 rfl rfl (rest := []) rfl (Nat.le_of_ble_eq_true rfl) ⟨Nat.le_of_ble_eq_true rfl, Nat.le_of_ble_eq_true rfl⟩ ⟨Nat.le_of_ble_eq_true rfl, Nat.le_of_ble_eq_true rfl⟩ (fun r σ7951 hp => ?_)
        obtain ⟨h7952, x7954, gex7954, rfl⟩ := hp
        have h7953 := HS.trans h7946 h7952 (by decide)
        have he7955 := he7950.of (fld_eq (h7952.2 c (by rw [show kC c c = 1 from kC_at (k := 0) (by decide)]; decide))) (elI_eq (h7952.2 (c + 1) (by rw [kC_at (k := 1) (by decide)]; decide)))
        obtain rfl : x7928 = x7954 := HE.uniq he7955 gex7954
        refine m_istore_n F (lv' := [(1, .int x7928), (0, .ref c)]) e_X10_token_43 (by decide) rfl ?_
        refine m_iload_n F rfl e_X10_token_44 ?_
        refine m_iconst F (v := (-1)) (by decide) e_X10_token_45 ?_
        refine m_icmp_ne F e_X10_token_46 (fun q46 => ?_) (fun q46 => ?_)
        · have ha7956 := gex7954.lt q46
          refine m_iload_n F rfl e_X10_token_57 ?_
          refine m_callS F e_X10_token_58 (q_X10_isSmall2 (x_l X) V _ _ x7928 ) cb_X10_isSmall ml_X10_113 sm_X10_isSmall rfl (rest := []) rfl (Nat.le_of_ble_eq_true rfl) ⟨Nat.le_of_ble_eq_true rfl, Nat.le_of_ble_eq_true rfl⟩ ⟨Nat.le_of_ble_eq_true rfl, Nat.le_of_ble_eq_true rfl⟩ (k' := 0) (z' := 0) (N' := N) rfl rfl rfl (fun r σ7957 hp => ?_)
          obtain ⟨rfl, c7960⟩ := hp
          rcases c7960 with ⟨g7961, rfl⟩ | ⟨g7961, rfl⟩
          · refine m_if_eq F e_X10_token_61 (fun _ => ?_) (fun q => absurd (by decide) q)
            refine m_iload_n F rfl e_X10_token_145 ?_
            refine m_callS F e_X10_token_146 (q_X10_isDigit2 (x_l X) V _ _ x7928 ) cb_X10_isDigit ml_X10_126 sm_X10_isDigit rfl (rest := []) rfl (Nat.le_of_ble_eq_true rfl) ⟨Nat.le_of_ble_eq_true rfl, Nat.le_of_ble_eq_true rfl⟩ ⟨Nat.le_of_ble_eq_true rfl, Nat.le_of_ble_eq_true rfl⟩ (k' := 0) (z' := 0) (N' := N) rfl rfl rfl (fun r σ7962 hp => ?_)
            obtain ⟨rfl, c7965⟩ := hp
            rcases c7965 with ⟨g7966, rfl⟩ | ⟨g7966, rfl⟩
            · refine m_if_eq F e_X10_token_149 (fun _ => ?_) (fun q => absurd (by decide) q)
              refine m_aload_n F rfl e_X10_token_220 ?_
              refine m_iload_n F rfl e_X10_token_221 ?_
              refine m_bipush F (v := 59) (by decide) e_X10_token_222 ?_
              refine m_icmp_ne F e_X10_token_224 (fun q224 => ?_) (fun q224 => ?_)
              · refine m_iconst F (v := 5) (by decide) e_X10_token_231 ?_
                refine r_put F (g' := (⟨T, Z, u, h, P1, L⟩ : RG)) e_X10_token_232 fp_X10_110 h7953 (by decide) ⟨_, rfl⟩ (fun _ _ _ _ q => q) (fun _ _ _ q => q) rfl rfl (by decide) (fun σ7967 h7968 g7969 g7970 f7971 => ?_)
                have he7972 := gex7954.of (g7970 18 (by decide)) (elI_eq (g7969 _ (by omega)))
                refine m_aload_n F rfl e_X10_token_235 ?_
                refine m_dup F rfl e_X10_token_236 ?_
                refine r_getC F e_X10_token_237 fl_X10_97 h7968 ((g7970 19 (by decide)).trans ((fld_eq (h7952.2 c (by rw [show kC c c = 1 from kC_at (k := 0) (by decide)]; decide))).trans ((g7948 19 (by decide)).trans f7944))) ?_
                refine m_iconst F (v := 1) (by decide) e_X10_token_240 ?_
                refine m_iadd F e_X10_token_241 ?_
                refine Wm.topE (w := nI (P1.a + 1)) (nI_add P1.a 1) ?_
                refine r_put F (g' := (⟨T, Z, u, h, (mkP P1.n0 P1.n2 P1.n5 P1.n7 P1.m0 P1.m5 P1.w2 P1.w7 P1.kk (P1.a + 1)), L⟩ : RG)) e_X10_token_242 fp_X10_97 h7968 (by decide) rfl ctl_a CR.setA rfl rfl (by decide) (fun σ7973 h7974 g7975 g7976 f7977 => ?_)
                obtain ⟨P7978, eP7978⟩ : ∃ P9, P9 = (mkP P1.n0 P1.n2 P1.n5 P1.n7 P1.m0 P1.m5 P1.w2 P1.w7 P1.kk (P1.a + 1)) := ⟨_, rfl⟩
                rw [← eP7978] at h7974
                have fP7978 : P7978.n0 = P1.n0 ∧ P7978.n2 = P1.n2 ∧ P7978.n5 = P1.n5 ∧ P7978.n7 = P1.n7 ∧ P7978.m0 = P1.m0 ∧ P7978.m5 = P1.m5 ∧ P7978.w2 = P1.w2 ∧ P7978.w7 = P1.w7 ∧ P7978.kk = P1.kk ∧ P7978.a = P1.a + 1 := by rw [eP7978]; exact ⟨rfl, rfl, rfl, rfl, rfl, rfl, rfl, rfl, rfl, rfl⟩
                have he7979 := he7972.of (g7976 18 (by decide)) (elI_eq (g7975 _ (by omega)))
                have oP7980 : OKP P7978 := by unfold OKP; omega
                exact m_vret F hQ e_X10_token_245 (⟨P7978, oP7980, (by unfold RA; omega), (Or.inr (by omega)), h7974, rfl⟩)
              · subst q224
                refine m_iconst F (v := 3) (by decide) e_X10_token_227 ?_
                refine m_goto F e_X10_token_228 ?_
                refine r_put F (g' := (⟨T, Z, u, h, P1, L⟩ : RG)) e_X10_token_232 fp_X10_110 h7953 (by decide) ⟨_, rfl⟩ (fun _ _ _ _ q => q) (fun _ _ _ q => q) rfl rfl (by decide) (fun σ7981 h7982 g7983 g7984 f7985 => ?_)
                have he7986 := gex7954.of (g7984 18 (by decide)) (elI_eq (g7983 _ (by omega)))
                refine m_aload_n F rfl e_X10_token_235 ?_
                refine m_dup F rfl e_X10_token_236 ?_
                refine r_getC F e_X10_token_237 fl_X10_97 h7982 ((g7984 19 (by decide)).trans ((fld_eq (h7952.2 c (by rw [show kC c c = 1 from kC_at (k := 0) (by decide)]; decide))).trans ((g7948 19 (by decide)).trans f7944))) ?_
                refine m_iconst F (v := 1) (by decide) e_X10_token_240 ?_
                refine m_iadd F e_X10_token_241 ?_
                refine Wm.topE (w := nI (P1.a + 1)) (nI_add P1.a 1) ?_
                refine r_put F (g' := (⟨T, Z, u, h, (mkP P1.n0 P1.n2 P1.n5 P1.n7 P1.m0 P1.m5 P1.w2 P1.w7 P1.kk (P1.a + 1)), L⟩ : RG)) e_X10_token_242 fp_X10_97 h7982 (by decide) rfl ctl_a CR.setA rfl rfl (by decide) (fun σ7987 h7988 g7989 g7990 f7991 => ?_)
                obtain ⟨P7992, eP7992⟩ : ∃ P9, P9 = (mkP P1.n0 P1.n2 P1.n5 P1.n7 P1.m0 P1.m5 P1.w2 P1.w7 P1.kk (P1.a + 1)) := ⟨_, rfl⟩
                rw [← eP7992] at h7988
                have fP7992 : P7992.n0 = P1.n0 ∧ P7992.n2 = P1.n2 ∧ P7992.n5 = P1.n5 ∧ P7992.n7 = P1.n7 ∧ P7992.m0 = P1.m0 ∧ P7992.m5 = P1.m5 ∧ P7992.w2 = P1.w2 ∧ P7992.w7 = P1.w7 ∧ P7992.kk = P1.kk ∧ P7992.a = P1.a + 1 := by rw [eP7992]; exact ⟨rfl, rfl, rfl, rfl, rfl, rfl, rfl, rfl, rfl, rfl⟩
                have he7993 := he7986.of (g7990 18 (by decide)) (elI_eq (g7989 _ (by omega)))
                have oP7994 : OKP P7992 := by unfold OKP; omega
                exact m_vret F hQ e_X10_token_245 (⟨P7992, oP7994, (by unfold RA; omega), (Or.inr (by omega)), h7988, rfl⟩)
            · refine m_if_eq F e_X10_token_149 (fun q => absurd q (by decide)) (fun _ => ?_)
              refine m_aload_n F rfl e_X10_token_152 ?_
              refine m_iconst F (v := 2) (by decide) e_X10_token_153 ?_
              refine r_put F (g' := (⟨T, Z, u, h, P1, L⟩ : RG)) e_X10_token_154 fp_X10_110 h7953 (by decide) ⟨_, rfl⟩ (fun _ _ _ _ q => q) (fun _ _ _ q => q) rfl rfl (by decide) (fun σ7995 h7996 g7997 g7998 f7999 => ?_)
              have he8000 := gex7954.of (g7998 18 (by decide)) (elI_eq (g7997 _ (by omega)))
              refine m_aload_n F rfl e_X10_token_157 ?_
              refine m_iconst F (v := 0) (by decide) e_X10_token_158 ?_
              refine r_put F (g' := (⟨T, Z, u, h, P1, L⟩ : RG)) e_X10_token_159 fp_X10_120 h7996 (by decide) ⟨_, rfl⟩ (fun _ _ _ _ q => q) (fun _ _ _ q => q) rfl rfl (by decide) (fun σ8001 h8002 g8003 g8004 f8005 => ?_)
              have he8006 := he8000.of (g8004 18 (by decide)) (elI_eq (g8003 _ (by omega)))
              refine m_aload_n F rfl e_X10_token_162 ?_
              refine r_callV F e_X10_token_163 (q_X10_here (x_l X) V c T Z u h P1 L _ _  h8002.1 (hob) hP1 ) cb_X10_here ml_X10_103 im_X10_here se_X10_here h8002 rfl rfl (rest := []) rfl (Nat.le_of_ble_eq_true rfl) ⟨Nat.le_of_ble_eq_true rfl, Nat.le_of_ble_eq_true rfl⟩ ⟨Nat.le_of_ble_eq_true rfl, Nat.le_of_ble_eq_true rfl⟩ (fun r σ8007 hp => ?_)
              obtain ⟨h8008, x8010, gex8010, rfl⟩ := hp
              have h8009 := HS.trans h8002 h8008 (by decide)
              have he8011 := he8006.of (fld_eq (h8008.2 c (by rw [show kC c c = 1 from kC_at (k := 0) (by decide)]; decide))) (elI_eq (h8008.2 (c + 1) (by rw [kC_at (k := 1) (by decide)]; decide)))
              obtain rfl : x7928 = x8010 := HE.uniq he8011 gex8010
              refine m_callS F e_X10_token_166 (q_X10_isDigit2 (x_l X) V _ _ x7928 ) cb_X10_isDigit ml_X10_126 sm_X10_isDigit rfl (rest := []) rfl (Nat.le_of_ble_eq_true rfl) ⟨Nat.le_of_ble_eq_true rfl, Nat.le_of_ble_eq_true rfl⟩ ⟨Nat.le_of_ble_eq_true rfl, Nat.le_of_ble_eq_true rfl⟩ (k' := 0) (z' := 0) (N' := N) rfl rfl rfl (fun r σ8012 hp => ?_)
              obtain ⟨rfl, c8015⟩ := hp
              rcases c8015 with ⟨g8016, rfl⟩ | ⟨g8016, rfl⟩
              · exact absurd g7966 g8016
              · refine m_if_eq F e_X10_token_169 (fun q => absurd q (by decide)) (fun _ => ?_)
                have ha8017 := gex8010.lt (fun e => g8016.1 (by rw [e]; decide))
                have ha8018 := gex8010.lt (fun e => g8016.1 (by rw [e]; decide))
                have ha8019 := gex8010.lt (fun e => g8016.1 (by rw [e]; decide))
                refine m_aload_n F rfl e_X10_token_172 ?_
                refine m_aload_n F rfl e_X10_token_173 ?_
                refine r_getC F e_X10_token_174 fl_X10_120 h8009 ((fld_eq (h8008.2 c (by rw [show kC c c = 1 from kC_at (k := 0) (by decide)]; decide))).trans f8005) ?_
                refine m_ldc F kc_X10_129 e_X10_token_177 ?_
                refine m_icmp_le F e_X10_token_179 (fun _ => ?_) (fun q => absurd (by decide) q)
                refine m_bipush F (v := 10) (by decide) e_X10_token_189 ?_
                refine m_aload_n F rfl e_X10_token_191 ?_
                refine r_getC F e_X10_token_192 fl_X10_120 h8009 ((fld_eq (h8008.2 c (by rw [show kC c c = 1 from kC_at (k := 0) (by decide)]; decide))).trans f8005) ?_
                refine m_imul F e_X10_token_195 ?_
                refine Wm.topE (w := 0) (by decide) ?_
                refine m_aload_n F rfl e_X10_token_196 ?_
                refine r_callV F e_X10_token_197 (q_X10_here (x_l X) V c T Z u h P1 L _ _  h8009.1 (hob) hP1 ) cb_X10_here ml_X10_103 im_X10_here se_X10_here h8009 rfl rfl (rest := [.int 0, .ref c]) rfl (Nat.le_of_ble_eq_true rfl) ⟨Nat.le_of_ble_eq_true rfl, Nat.le_of_ble_eq_true rfl⟩ ⟨Nat.le_of_ble_eq_true rfl, Nat.le_of_ble_eq_true rfl⟩ (fun r σ8020 hp => ?_)
                obtain ⟨h8021, x8023, gex8023, rfl⟩ := hp
                have h8022 := HS.trans h8009 h8021 (by decide)
                have he8024 := gex8010.of (fld_eq (h8021.2 c (by rw [show kC c c = 1 from kC_at (k := 0) (by decide)]; decide))) (elI_eq (h8021.2 (c + 1) (by rw [kC_at (k := 1) (by decide)]; decide)))
                obtain rfl : x7928 = x8023 := HE.uniq he8024 gex8023
                refine m_iadd F e_X10_token_200 ?_
                refine Wm.top (fun x8025 _ => ?_)
                refine m_bipush F (v := 48) (by decide) e_X10_token_201 ?_
                refine m_isub F e_X10_token_203 ?_
                refine Wm.top (fun x8026 _ => ?_)
                refine r_put F (g' := (⟨T, Z, u, h, P1, L⟩ : RG)) e_X10_token_204 fp_X10_120 h8022 (by decide) ⟨_, rfl⟩ (fun _ _ _ _ q => q) (fun _ _ _ q => q) rfl rfl (by decide) (fun σ8027 h8028 g8029 g8030 f8031 => ?_)
                have he8032 := gex8023.of (g8030 18 (by decide)) (elI_eq (g8029 _ (by omega)))
                refine m_aload_n F rfl e_X10_token_207 ?_
                refine m_dup F rfl e_X10_token_208 ?_
                refine r_getC F e_X10_token_209 fl_X10_97 h8028 ((g8030 19 (by decide)).trans ((fld_eq (h8021.2 c (by rw [show kC c c = 1 from kC_at (k := 0) (by decide)]; decide))).trans ((fld_eq (h8008.2 c (by rw [show kC c c = 1 from kC_at (k := 0) (by decide)]; decide))).trans ((g8004 19 (by decide)).trans ((g7998 19 (by decide)).trans ((fld_eq (h7952.2 c (by rw [show kC c c = 1 from kC_at (k := 0) (by decide)]; decide))).trans ((g7948 19 (by decide)).trans f7944))))))) ?_
                refine m_iconst F (v := 1) (by decide) e_X10_token_212 ?_
                refine m_iadd F e_X10_token_213 ?_
                refine Wm.topE (w := nI (P1.a + 1)) (nI_add P1.a 1) ?_
                refine r_put F (g' := (⟨T, Z, u, h, (mkP P1.n0 P1.n2 P1.n5 P1.n7 P1.m0 P1.m5 P1.w2 P1.w7 P1.kk (P1.a + 1)), L⟩ : RG)) e_X10_token_214 fp_X10_97 h8028 (by decide) rfl ctl_a CR.setA rfl rfl (by decide) (fun σ8033 h8034 g8035 g8036 f8037 => ?_)
                obtain ⟨P8038, eP8038⟩ : ∃ P9, P9 = (mkP P1.n0 P1.n2 P1.n5 P1.n7 P1.m0 P1.m5 P1.w2 P1.w7 P1.kk (P1.a + 1)) := ⟨_, rfl⟩
                rw [← eP8038] at h8034
                have fP8038 : P8038.n0 = P1.n0 ∧ P8038.n2 = P1.n2 ∧ P8038.n5 = P1.n5 ∧ P8038.n7 = P1.n7 ∧ P8038.m0 = P1.m0 ∧ P8038.m5 = P1.m5 ∧ P8038.w2 = P1.w2 ∧ P8038.w7 = P1.w7 ∧ P8038.kk = P1.kk ∧ P8038.a = P1.a + 1 := by rw [eP8038]; exact ⟨rfl, rfl, rfl, rfl, rfl, rfl, rfl, rfl, rfl, rfl⟩
                have he8039 := he8032.of (g8036 18 (by decide)) (elI_eq (g8035 _ (by omega)))
                refine m_goto F e_X10_token_217 ?_
                refine Wm.lvsub (lv' := [(0, .ref c)]) ?_ [1] rfl
                have oP8040 : OKP P8038 := by unfold OKP; omega
                exact lq_X10_token_162 F hQ hob hP  (700 - P8038.a + 1)  P8038 _ h8034 oP8040 (by unfold RA; omega) (by omega) (Nat.lt_succ_self _)
          · refine m_if_eq F e_X10_token_61 (fun q => absurd q (by decide)) (fun _ => ?_)
            refine m_aload_n F rfl e_X10_token_64 ?_
            refine r_callV F e_X10_token_65 (q_X10_here (x_l X) V c T Z u h P1 L _ _  h7953.1 (hob) hP1 ) cb_X10_here ml_X10_103 im_X10_here se_X10_here h7953 rfl rfl (rest := []) rfl (Nat.le_of_ble_eq_true rfl) ⟨Nat.le_of_ble_eq_true rfl, Nat.le_of_ble_eq_true rfl⟩ ⟨Nat.le_of_ble_eq_true rfl, Nat.le_of_ble_eq_true rfl⟩ (fun r σ8041 hp => ?_)
            obtain ⟨h8042, x8044, gex8044, rfl⟩ := hp
            have h8043 := HS.trans h7953 h8042 (by decide)
            have he8045 := gex7954.of (fld_eq (h8042.2 c (by rw [show kC c c = 1 from kC_at (k := 0) (by decide)]; decide))) (elI_eq (h8042.2 (c + 1) (by rw [kC_at (k := 1) (by decide)]; decide)))
            obtain rfl : x7928 = x8044 := HE.uniq he8045 gex8044
            refine m_callS F e_X10_token_68 (q_X10_isSmall2 (x_l X) V _ _ x7928 ) cb_X10_isSmall ml_X10_113 sm_X10_isSmall rfl (rest := []) rfl (Nat.le_of_ble_eq_true rfl) ⟨Nat.le_of_ble_eq_true rfl, Nat.le_of_ble_eq_true rfl⟩ ⟨Nat.le_of_ble_eq_true rfl, Nat.le_of_ble_eq_true rfl⟩ (k' := 0) (z' := 0) (N' := N) rfl rfl rfl (fun r σ8046 hp => ?_)
            obtain ⟨rfl, c8049⟩ := hp
            rcases c8049 with ⟨g8050, rfl⟩ | ⟨g8050, rfl⟩
            · exact absurd g7961 g8050
            · refine m_if_eq F e_X10_token_71 (fun q => absurd q (by decide)) (fun _ => ?_)
              have ha8051 := gex8044.lt (fun e => g8050.1 (by rw [e]; decide))
              have ha8052 := gex8044.lt (fun e => g8050.1 (by rw [e]; decide))
              have ha8053 := gex8044.lt (fun e => g8050.1 (by rw [e]; decide))
              refine m_aload_n F rfl e_X10_token_74 ?_
              refine m_dup F rfl e_X10_token_75 ?_
              refine r_getC F e_X10_token_76 fl_X10_97 h8043 ((fld_eq (h8042.2 c (by rw [show kC c c = 1 from kC_at (k := 0) (by decide)]; decide))).trans ((fld_eq (h7952.2 c (by rw [show kC c c = 1 from kC_at (k := 0) (by decide)]; decide))).trans ((g7948 19 (by decide)).trans f7944))) ?_
              refine m_iconst F (v := 1) (by decide) e_X10_token_79 ?_
              refine m_iadd F e_X10_token_80 ?_
              refine Wm.topE (w := nI (P1.a + 1)) (nI_add P1.a 1) ?_
              refine r_put F (g' := (⟨T, Z, u, h, (mkP P1.n0 P1.n2 P1.n5 P1.n7 P1.m0 P1.m5 P1.w2 P1.w7 P1.kk (P1.a + 1)), L⟩ : RG)) e_X10_token_81 fp_X10_97 h8043 (by decide) rfl ctl_a CR.setA rfl rfl (by decide) (fun σ8054 h8055 g8056 g8057 f8058 => ?_)
              obtain ⟨P8059, eP8059⟩ : ∃ P9, P9 = (mkP P1.n0 P1.n2 P1.n5 P1.n7 P1.m0 P1.m5 P1.w2 P1.w7 P1.kk (P1.a + 1)) := ⟨_, rfl⟩
              rw [← eP8059] at h8055
              have fP8059 : P8059.n0 = P1.n0 ∧ P8059.n2 = P1.n2 ∧ P8059.n5 = P1.n5 ∧ P8059.n7 = P1.n7 ∧ P8059.m0 = P1.m0 ∧ P8059.m5 = P1.m5 ∧ P8059.w2 = P1.w2 ∧ P8059.w7 = P1.w7 ∧ P8059.kk = P1.kk ∧ P8059.a = P1.a + 1 := by rw [eP8059]; exact ⟨rfl, rfl, rfl, rfl, rfl, rfl, rfl, rfl, rfl, rfl⟩
              have he8060 := gex8044.of (g8057 18 (by decide)) (elI_eq (g8056 _ (by omega)))
              refine m_goto F e_X10_token_84 ?_
              refine Wm.lvsub (lv' := [(0, .ref c)]) ?_ [1] rfl
              have oP8061 : OKP P8059 := by unfold OKP; omega
              exact lq_X10_token_64 F hQ hob hP  (700 - P8059.a + 1)  P8059 _ h8055 oP8061 (by unfold RA; omega) (by omega) (Nat.lt_succ_self _)
        · subst q46
          refine m_aload_n F rfl e_X10_token_49 ?_
          refine m_iconst F (v := 4) (by decide) e_X10_token_50 ?_
          refine r_put F (g' := (⟨T, Z, u, h, P1, L⟩ : RG)) e_X10_token_51 fp_X10_110 h7953 (by decide) ⟨_, rfl⟩ (fun _ _ _ _ q => q) (fun _ _ _ q => q) rfl rfl (by decide) (fun σ8062 h8063 g8064 g8065 f8066 => ?_)
          have he8067 := gex7954.of (g8065 18 (by decide)) (elI_eq (g8064 _ (by omega)))
          refine m_goto F e_X10_token_54 ?_
          exact m_vret F hQ e_X10_token_245 (⟨P1, hP1, (by unfold RA; omega), (Or.inl (f8066)), h8063, rfl⟩)
      · subst q15
        have ha8068 := gex7942.lt (by decide)
        refine m_aload_n F rfl e_X10_token_18 ?_
        refine m_dup F rfl e_X10_token_19 ?_
        refine r_get F e_X10_token_20 fl_X10_97 h7941 rfl (fun v hv f8069 => ?_)
        obtain rfl : v = .int (nI (P1.a)) := hv
        refine m_iconst F (v := 1) (by decide) e_X10_token_23 ?_
        refine m_iadd F e_X10_token_24 ?_
        refine Wm.topE (w := nI (P1.a + 1)) (nI_add P1.a 1) ?_
        refine r_put F (g' := (⟨T, Z, u, h, (mkP P1.n0 P1.n2 P1.n5 P1.n7 P1.m0 P1.m5 P1.w2 P1.w7 P1.kk (P1.a + 1)), L⟩ : RG)) e_X10_token_25 fp_X10_97 h7941 (by decide) rfl ctl_a CR.setA rfl rfl (by decide) (fun σ8070 h8071 g8072 g8073 f8074 => ?_)
        obtain ⟨P8075, eP8075⟩ : ∃ P9, P9 = (mkP P1.n0 P1.n2 P1.n5 P1.n7 P1.m0 P1.m5 P1.w2 P1.w7 P1.kk (P1.a + 1)) := ⟨_, rfl⟩
        rw [← eP8075] at h8071
        have fP8075 : P8075.n0 = P1.n0 ∧ P8075.n2 = P1.n2 ∧ P8075.n5 = P1.n5 ∧ P8075.n7 = P1.n7 ∧ P8075.m0 = P1.m0 ∧ P8075.m5 = P1.m5 ∧ P8075.w2 = P1.w2 ∧ P8075.w7 = P1.w7 ∧ P8075.kk = P1.kk ∧ P8075.a = P1.a + 1 := by rw [eP8075]; exact ⟨rfl, rfl, rfl, rfl, rfl, rfl, rfl, rfl, rfl, rfl⟩
        have he8076 := gex7942.of (g8073 18 (by decide)) (elI_eq (g8072 _ (by omega)))
        refine m_goto F e_X10_token_28 ?_
        have oP8077 : OKP P8075 := by unfold OKP; omega
        exact ih  P8075 _ h8071 oP8077 (by unfold RA; omega) trivial (by omega)
set_option maxRecDepth 20000 in
theorem q_X10_token (l : Launch) (V : VX) (c T Z u h : Nat) (P : NP) (L : Nat → LQ) (N : Nat) (σ : Mem)  (h0 : HR V c ⟨T, Z, u, h, P, L⟩ σ) (hob : OKB L) (hP : OKP P)  : Ct l V yX10_token cX10_token 2 none 5 0 0 N σ [.ref c] (fun r τ => ∃ P9 : NP, OKP P9 ∧ RA P P9 ∧ (fld τ c 21 = some (.int 4) ∨ P.a < P9.a) ∧ HS V c (⟨T, Z, u, h, P9, L⟩ : RG) [0, 2, 3, 4, 5, 6, 7, 8, 9, 10, 11, 12, 13, 14, 15, 16, 17, 18, 19, 20, 21, 22, 23] σ τ ∧ r = none) := by
  refine Ct.of (by decide) (Nat.le_of_ble_eq_true rfl) [(0, .ref c)] rfl (fun X hX F hQ => ?_)
  have hPP := hP
  unfold OKP at hPP
  have h1 : HS V c ⟨T, Z, u, h, P, L⟩ [0, 2, 3, 4, 5, 6, 7, 8, 9, 10, 11, 12, 13, 14, 15, 16, 17, 18, 19, 20, 21, 22, 23] σ σ := HS.start h0
  exact lq_X10_token_0 F hQ hob hP  (700 - P.a + 1)  P _ h1 hP (by unfold RA; omega) trivial (Nat.lt_succ_self _)
set_option maxRecDepth 20000 in
theorem q_X10_wrong (l : Launch) (V : VX) (c T Z u h : Nat) (P : NP) (L : Nat → LQ) (N : Nat) (σ : Mem) (x901 : Int32) (h0 : HR V c ⟨T, Z, u, h, P, L⟩ σ) (hob : OKB L) (hP : OKP P) (hp0 : x901 ≠ 0) : Ct l V yX10_wrong cX10_wrong 2 none 0 0 0 N σ [.ref c, .int x901] (fun r τ => HS V c (⟨T, 0, u, h, P, L⟩ : RG) [0, 2, 3, 4, 5, 6, 7, 8, 9, 10, 11, 12, 13, 14, 15, 16, 17, 18, 19, 20, 21, 22, 23] σ τ ∧ r = none) := by
  refine Ct.of (by decide) (Nat.le_of_ble_eq_true rfl) [(0, .ref c), (1, .int x901)] rfl (fun X hX F hQ => ?_)
  have hPP := hP
  unfold OKP at hPP
  have h1 : HS V c ⟨T, Z, u, h, P, L⟩ [0, 2, 3, 4, 5, 6, 7, 8, 9, 10, 11, 12, 13, 14, 15, 16, 17, 18, 19, 20, 21, 22, 23] σ σ := HS.start h0
  refine m_aload_n F rfl e_X10_wrong_0 ?_
  refine r_get F e_X10_wrong_1 fl_X10_141 h1 rfl (fun v hv f8078 => ?_)
  obtain ⟨x8079, hx8079, rfl⟩ := hv
  replace hx8079 : Z = 0 → x8079 ≠ 0 := hx8079
  refine m_if_eq F e_X10_wrong_4 (fun q4 => ?_) (fun q4 => ?_)
  · subst q4
    refine m_aload_n F rfl e_X10_wrong_8 ?_
    refine m_iload_n F rfl e_X10_wrong_9 ?_
    refine r_put F (g' := (⟨T, 0, u, h, P, L⟩ : RG)) e_X10_wrong_10 fp_X10_141 h1 (by decide) ⟨_, (fun _ => hp0), rfl⟩ ctl_Z CR.ctl rfl rfl (by decide) (fun σ8080 h8081 g8082 g8083 f8084 => ?_)
    refine m_aload_n F rfl e_X10_wrong_13 ?_
    refine m_aload_n F rfl e_X10_wrong_14 ?_
    refine r_get F e_X10_wrong_15 fl_X10_107 h8081 rfl (fun v hv f8085 => ?_)
    obtain ⟨n8086, hn8086, rfl⟩ := hv
    replace hn8086 : n8086 ≤ 700 := hn8086
    refine r_put F (g' := (⟨T, 0, u, h, P, L⟩ : RG)) e_X10_wrong_18 fp_X10_144 h8081 (by decide) ⟨_, rfl⟩ (fun _ _ _ _ q => q) (fun _ _ _ q => q) rfl rfl (by decide) (fun σ8087 h8088 g8089 g8090 f8091 => ?_)
    exact m_vret F hQ e_X10_wrong_21 (⟨h8088, rfl⟩)
  · have h8092 := HS.z0 h1 (f8078) q4
    exact m_vret F hQ e_X10_wrong_7 (⟨h8092, rfl⟩)
set_option maxRecDepth 20000 in
theorem q_X10_goOn (l : Launch) (V : VX) (c T Z u h : Nat) (P : NP) (L : Nat → LQ) (N : Nat) (σ : Mem)  (h0 : HR V c ⟨T, Z, u, h, P, L⟩ σ) (hob : OKB L) (hP : OKP P)  : Ct l V yX10_goOn cX10_goOn 1 none 6 0 0 N σ [.ref c] (fun r τ => ∃ P9 : NP, OKP P9 ∧ RA P P9 ∧ PG c P.a P9.a τ ∧ HS V c (⟨T, Z, u, h, P9, L⟩ : RG) [0, 2, 3, 4, 5, 6, 7, 8, 9, 10, 11, 12, 13, 14, 15, 16, 17, 18, 19, 20, 21, 22, 23] σ τ ∧ r = none) := by
  refine Ct.of (by decide) (Nat.le_of_ble_eq_true rfl) [(0, .ref c)] rfl (fun X hX F hQ => ?_)
  have hPP := hP
  unfold OKP at hPP
  have h1 : HS V c ⟨T, Z, u, h, P, L⟩ [0, 2, 3, 4, 5, 6, 7, 8, 9, 10, 11, 12, 13, 14, 15, 16, 17, 18, 19, 20, 21, 22, 23] σ σ := HS.start h0
  refine m_aload_n F rfl e_X10_goOn_0 ?_
  refine r_get F e_X10_goOn_1 fl_X10_141 h1 rfl (fun v hv f8093 => ?_)
  obtain ⟨x8094, hx8094, rfl⟩ := hv
  replace hx8094 : Z = 0 → x8094 ≠ 0 := hx8094
  refine m_if_ne F e_X10_goOn_4 (fun q4 => ?_) (fun q4 => ?_)
  · have h8095 := HS.z0 h1 (f8093) q4
    have h8096 : HS V c _ [0, 2, 3, 4, 5, 6, 7, 8, 9, 10, 11, 12, 13, 14, 15, 16, 17, 18, 19, 20, 21, 22, 23] _ _ := ⟨HR.mono (Z' := Z) (by intro e; first | rfl | assumption | omega) h8095.1, h8095.2⟩
    exact m_vret F hQ e_X10_goOn_11 (⟨P, hP, (by unfold RA; omega), (PG.a1 h8095.1 (f8093) q4), h8096, rfl⟩)
  · subst q4
    refine m_aload_n F rfl e_X10_goOn_7 ?_
    refine r_callV F e_X10_goOn_8 (q_X10_token (x_l X) V c T Z u h P L _ _  h1.1 (hob) hP ) cb_X10_token ml_X10_147 im_X10_token se_X10_token h1 rfl rfl (rest := []) rfl (Nat.le_of_ble_eq_true rfl) ⟨Nat.le_of_ble_eq_true rfl, Nat.le_of_ble_eq_true rfl⟩ ⟨Nat.le_of_ble_eq_true rfl, Nat.le_of_ble_eq_true rfl⟩ (fun r σ8097 hp => ?_)
    obtain ⟨P8100, oP8100, rP8100, pr8101, h8098, rfl⟩ := hp
    have h8099 := HS.trans h1 h8098 (by decide)
    have xP8100 := oP8100
    unfold OKP at xP8100
    unfold RA at rP8100
    exact m_vret F hQ e_X10_goOn_11 (⟨P8100, oP8100, (by unfold RA; omega), (PG.a2 h8099.1 pr8101), h8099, rfl⟩)
set_option maxRecDepth 20000 in
theorem q_X10_numeral (l : Launch) (V : VX) (c T Z u h : Nat) (P : NP) (L : Nat → LQ) (N : Nat) (σ : Mem) (n901 : Nat) (n902 : Nat) (h0 : HR V c ⟨T, Z, u, h, P, L⟩ σ) (hob : OKB L) (hP : OKP P) (hn901 : n901 ≤ 10000000) (hn902 : n902 ≤ 10000000) : Ct l V yX10_numeral cX10_numeral 4 (some .int) 7 0 0 N σ [.ref c, .int (nI n901), .int (nI n902)] (fun r τ => ∃ P9 : NP, OKP P9 ∧ RA P P9 ∧ HS V c (⟨T, Z, u, h, P9, L⟩ : RG) [0, 2, 3, 4, 5, 6, 7, 8, 9, 10, 11, 12, 13, 14, 15, 16, 17, 18, 19, 20, 21, 22, 23] σ τ ∧ ((∃ n : Nat, n901 ≤ n ∧ n ≤ n902 ∧ r = some (.int (nI n))) ∨ (HR V c ⟨T, 0, u, h, P9, L⟩ τ ∧ r = some (.int (nI n901))))) := by
  refine Ct.of (by decide) (Nat.le_of_ble_eq_true rfl) [(0, .ref c), (1, .int (nI n901)), (2, .int (nI n902))] rfl (fun X hX F hQ => ?_)
  have hPP := hP
  unfold OKP at hPP
  have h1 : HS V c ⟨T, Z, u, h, P, L⟩ [0, 2, 3, 4, 5, 6, 7, 8, 9, 10, 11, 12, 13, 14, 15, 16, 17, 18, 19, 20, 21, 22, 23] σ σ := HS.start h0
  refine m_aload_n F rfl e_X10_numeral_0 ?_
  refine r_get F e_X10_numeral_1 fl_X10_141 h1 rfl (fun v hv f8102 => ?_)
  obtain ⟨x8103, hx8103, rfl⟩ := hv
  replace hx8103 : Z = 0 → x8103 ≠ 0 := hx8103
  refine m_if_eq F e_X10_numeral_4 (fun q4 => ?_) (fun q4 => ?_)
  · subst q4
    refine m_aload_n F rfl e_X10_numeral_9 ?_
    refine r_get F e_X10_numeral_10 fl_X10_110 h1 rfl (fun v hv f8104 => ?_)
    obtain ⟨x8105, rfl⟩ := hv
    refine m_iconst F (v := 2) (by decide) e_X10_numeral_13 ?_
    refine m_icmp_eq F e_X10_numeral_14 (fun q14 => ?_) (fun q14 => ?_)
    · subst q14
      refine m_aload_n F rfl e_X10_numeral_25 ?_
      refine r_get F e_X10_numeral_26 fl_X10_120 h1 rfl (fun v hv f8106 => ?_)
      obtain ⟨x8107, rfl⟩ := hv
      refine m_iload_n F rfl e_X10_numeral_29 ?_
      refine m_icmp_lt F e_X10_numeral_30 (fun q30 => ?_) (fun q30 => ?_)
      · refine m_aload_n F rfl e_X10_numeral_41 ?_
        refine m_iconst F (v := 2) (by decide) e_X10_numeral_42 ?_
        refine r_callV F e_X10_numeral_43 (q_X10_wrong (x_l X) V c T Z u h P L _ _ 2 h1.1 (hob) hP (by first | omega | assumption | decide)) cb_X10_wrong ml_X10_150 im_X10_wrong se_X10_wrong h1 rfl rfl (rest := []) rfl (Nat.le_of_ble_eq_true rfl) ⟨Nat.le_of_ble_eq_true rfl, Nat.le_of_ble_eq_true rfl⟩ ⟨Nat.le_of_ble_eq_true rfl, Nat.le_of_ble_eq_true rfl⟩ (fun r σ8108 hp => ?_)
        obtain ⟨h8109, rfl⟩ := hp
        have h8110 := HS.trans h1 h8109 (by decide)
        refine m_aload_n F rfl e_X10_numeral_46 ?_
        refine r_get F e_X10_numeral_47 fl_X10_141 h8110 rfl (fun v hv f8111 => ?_)
        obtain ⟨x8112, hx8112, rfl⟩ := hv
        replace hx8112 : 0 = 0 → x8112 ≠ 0 := hx8112
        refine m_if_ne F e_X10_numeral_50 (fun q50 => ?_) (fun q50 => ?_)
        · have h8113 := HS.z0 h8110 (f8111) q50
          refine m_iload_n F rfl e_X10_numeral_60 ?_
          refine m_istore_n F (lv' := [(3, .int (nI n901)), (0, .ref c), (1, .int (nI n901)), (2, .int (nI n902))]) e_X10_numeral_61 (by decide) rfl ?_
          refine m_aload_n F rfl e_X10_numeral_62 ?_
          refine r_callV F e_X10_numeral_63 (q_X10_goOn (x_l X) V c T 0 u h P L _ _  h8113.1 (hob) hP ) cb_X10_goOn ml_X10_154 im_X10_goOn se_X10_goOn h8113 rfl rfl (rest := []) rfl (Nat.le_of_ble_eq_true rfl) ⟨Nat.le_of_ble_eq_true rfl, Nat.le_of_ble_eq_true rfl⟩ ⟨Nat.le_of_ble_eq_true rfl, Nat.le_of_ble_eq_true rfl⟩ (fun r σ8114 hp => ?_)
          obtain ⟨P8117, oP8117, rP8117, pr8118, h8115, rfl⟩ := hp
          have h8116 := HS.trans h8113 h8115 (by decide)
          have xP8117 := oP8117
          unfold OKP at xP8117
          unfold RA at rP8117
          refine m_iload_n F rfl e_X10_numeral_66 ?_
          have h8119 : HS V c _ [0, 2, 3, 4, 5, 6, 7, 8, 9, 10, 11, 12, 13, 14, 15, 16, 17, 18, 19, 20, 21, 22, 23] _ _ := ⟨HR.mono (Z' := Z) (by intro e; first | rfl | assumption | omega) h8116.1, h8116.2⟩
          exact m_iret F hQ e_X10_numeral_67 (⟨P8117, oP8117, (by unfold RA; omega), h8119, Or.inr ⟨h8116.1, rfl⟩⟩)
        · first | exact absurd q50 (hx8112 rfl) | contradiction
      · obtain ⟨n8120, hn8120, rfl⟩ := nI_nn (x := x8107) (fun e => q30 (Int32.lt_of_lt_of_le e (nI_0le (by omega))))
        have c30 : n8120 ≥ n901 := by have hh := mt (nI_ltI (a := n8120) (b := n901) (by omega) (by omega)).mpr q30; omega
        refine m_aload_n F rfl e_X10_numeral_33 ?_
        refine r_getC F e_X10_numeral_34 fl_X10_120 h1 (f8106) ?_
        refine m_iload_n F rfl e_X10_numeral_37 ?_
        refine m_icmp_le F e_X10_numeral_38 (fun q38 => ?_) (fun q38 => ?_)
        · have c38 : n8120 ≤ n902 := (nI_leI (a := n8120) (b := n902) (by omega) (by omega)).mp q38
          refine m_aload_n F rfl e_X10_numeral_46 ?_
          refine r_getC F e_X10_numeral_47 fl_X10_141 h1 (f8102) ?_
          refine m_if_ne F e_X10_numeral_50 (fun q => absurd (by decide) q) (fun _ => ?_)
          refine m_aload_n F rfl e_X10_numeral_53 ?_
          refine r_getC F e_X10_numeral_54 fl_X10_120 h1 (f8106) ?_
          refine m_goto F e_X10_numeral_57 ?_
          refine m_istore_n F (lv' := [(3, .int (nI n8120)), (0, .ref c), (1, .int (nI n901)), (2, .int (nI n902))]) e_X10_numeral_61 (by decide) rfl ?_
          refine m_aload_n F rfl e_X10_numeral_62 ?_
          refine r_callV F e_X10_numeral_63 (q_X10_goOn (x_l X) V c T Z u h P L _ _  h1.1 (hob) hP ) cb_X10_goOn ml_X10_154 im_X10_goOn se_X10_goOn h1 rfl rfl (rest := []) rfl (Nat.le_of_ble_eq_true rfl) ⟨Nat.le_of_ble_eq_true rfl, Nat.le_of_ble_eq_true rfl⟩ ⟨Nat.le_of_ble_eq_true rfl, Nat.le_of_ble_eq_true rfl⟩ (fun r σ8121 hp => ?_)
          obtain ⟨P8124, oP8124, rP8124, pr8125, h8122, rfl⟩ := hp
          have h8123 := HS.trans h1 h8122 (by decide)
          have xP8124 := oP8124
          unfold OKP at xP8124
          unfold RA at rP8124
          refine m_iload_n F rfl e_X10_numeral_66 ?_
          exact m_iret F hQ e_X10_numeral_67 (⟨P8124, oP8124, (by unfold RA; omega), h8123, Or.inl ⟨n8120, by omega, by omega, rfl⟩⟩)
        · have c38 : n8120 > n902 := by have hh := mt (nI_leI (a := n8120) (b := n902) (by omega) (by omega)).mpr q38; omega
          refine m_aload_n F rfl e_X10_numeral_41 ?_
          refine m_iconst F (v := 2) (by decide) e_X10_numeral_42 ?_
          refine r_callV F e_X10_numeral_43 (q_X10_wrong (x_l X) V c T Z u h P L _ _ 2 h1.1 (hob) hP (by first | omega | assumption | decide)) cb_X10_wrong ml_X10_150 im_X10_wrong se_X10_wrong h1 rfl rfl (rest := []) rfl (Nat.le_of_ble_eq_true rfl) ⟨Nat.le_of_ble_eq_true rfl, Nat.le_of_ble_eq_true rfl⟩ ⟨Nat.le_of_ble_eq_true rfl, Nat.le_of_ble_eq_true rfl⟩ (fun r σ8126 hp => ?_)
          obtain ⟨h8127, rfl⟩ := hp
          have h8128 := HS.trans h1 h8127 (by decide)
          refine m_aload_n F rfl e_X10_numeral_46 ?_
          refine r_get F e_X10_numeral_47 fl_X10_141 h8128 rfl (fun v hv f8129 => ?_)
          obtain ⟨x8130, hx8130, rfl⟩ := hv
          replace hx8130 : 0 = 0 → x8130 ≠ 0 := hx8130
          refine m_if_ne F e_X10_numeral_50 (fun q50 => ?_) (fun q50 => ?_)
          · have h8131 := HS.z0 h8128 (f8129) q50
            refine m_iload_n F rfl e_X10_numeral_60 ?_
            refine m_istore_n F (lv' := [(3, .int (nI n901)), (0, .ref c), (1, .int (nI n901)), (2, .int (nI n902))]) e_X10_numeral_61 (by decide) rfl ?_
            refine m_aload_n F rfl e_X10_numeral_62 ?_
            refine r_callV F e_X10_numeral_63 (q_X10_goOn (x_l X) V c T 0 u h P L _ _  h8131.1 (hob) hP ) cb_X10_goOn ml_X10_154 im_X10_goOn se_X10_goOn h8131 rfl rfl (rest := []) rfl (Nat.le_of_ble_eq_true rfl) ⟨Nat.le_of_ble_eq_true rfl, Nat.le_of_ble_eq_true rfl⟩ ⟨Nat.le_of_ble_eq_true rfl, Nat.le_of_ble_eq_true rfl⟩ (fun r σ8132 hp => ?_)
            obtain ⟨P8135, oP8135, rP8135, pr8136, h8133, rfl⟩ := hp
            have h8134 := HS.trans h8131 h8133 (by decide)
            have xP8135 := oP8135
            unfold OKP at xP8135
            unfold RA at rP8135
            refine m_iload_n F rfl e_X10_numeral_66 ?_
            have h8137 : HS V c _ [0, 2, 3, 4, 5, 6, 7, 8, 9, 10, 11, 12, 13, 14, 15, 16, 17, 18, 19, 20, 21, 22, 23] _ _ := ⟨HR.mono (Z' := Z) (by intro e; first | rfl | assumption | omega) h8134.1, h8134.2⟩
            exact m_iret F hQ e_X10_numeral_67 (⟨P8135, oP8135, (by unfold RA; omega), h8137, Or.inr ⟨h8134.1, rfl⟩⟩)
          · first | exact absurd q50 (hx8130 rfl) | contradiction
    · refine m_aload_n F rfl e_X10_numeral_17 ?_
      refine m_iconst F (v := 1) (by decide) e_X10_numeral_18 ?_
      refine r_callV F e_X10_numeral_19 (q_X10_wrong (x_l X) V c T Z u h P L _ _ 1 h1.1 (hob) hP (by first | omega | assumption | decide)) cb_X10_wrong ml_X10_150 im_X10_wrong se_X10_wrong h1 rfl rfl (rest := []) rfl (Nat.le_of_ble_eq_true rfl) ⟨Nat.le_of_ble_eq_true rfl, Nat.le_of_ble_eq_true rfl⟩ ⟨Nat.le_of_ble_eq_true rfl, Nat.le_of_ble_eq_true rfl⟩ (fun r σ8138 hp => ?_)
      obtain ⟨h8139, rfl⟩ := hp
      have h8140 := HS.trans h1 h8139 (by decide)
      refine m_goto F e_X10_numeral_22 ?_
      refine m_aload_n F rfl e_X10_numeral_46 ?_
      refine r_get F e_X10_numeral_47 fl_X10_141 h8140 rfl (fun v hv f8141 => ?_)
      obtain ⟨x8142, hx8142, rfl⟩ := hv
      replace hx8142 : 0 = 0 → x8142 ≠ 0 := hx8142
      refine m_if_ne F e_X10_numeral_50 (fun q50 => ?_) (fun q50 => ?_)
      · have h8143 := HS.z0 h8140 (f8141) q50
        refine m_iload_n F rfl e_X10_numeral_60 ?_
        refine m_istore_n F (lv' := [(3, .int (nI n901)), (0, .ref c), (1, .int (nI n901)), (2, .int (nI n902))]) e_X10_numeral_61 (by decide) rfl ?_
        refine m_aload_n F rfl e_X10_numeral_62 ?_
        refine r_callV F e_X10_numeral_63 (q_X10_goOn (x_l X) V c T 0 u h P L _ _  h8143.1 (hob) hP ) cb_X10_goOn ml_X10_154 im_X10_goOn se_X10_goOn h8143 rfl rfl (rest := []) rfl (Nat.le_of_ble_eq_true rfl) ⟨Nat.le_of_ble_eq_true rfl, Nat.le_of_ble_eq_true rfl⟩ ⟨Nat.le_of_ble_eq_true rfl, Nat.le_of_ble_eq_true rfl⟩ (fun r σ8144 hp => ?_)
        obtain ⟨P8147, oP8147, rP8147, pr8148, h8145, rfl⟩ := hp
        have h8146 := HS.trans h8143 h8145 (by decide)
        have xP8147 := oP8147
        unfold OKP at xP8147
        unfold RA at rP8147
        refine m_iload_n F rfl e_X10_numeral_66 ?_
        have h8149 : HS V c _ [0, 2, 3, 4, 5, 6, 7, 8, 9, 10, 11, 12, 13, 14, 15, 16, 17, 18, 19, 20, 21, 22, 23] _ _ := ⟨HR.mono (Z' := Z) (by intro e; first | rfl | assumption | omega) h8146.1, h8146.2⟩
        exact m_iret F hQ e_X10_numeral_67 (⟨P8147, oP8147, (by unfold RA; omega), h8149, Or.inr ⟨h8146.1, rfl⟩⟩)
      · first | exact absurd q50 (hx8142 rfl) | contradiction
  · have h8150 := HS.z0 h1 (f8102) q4
    refine m_iload_n F rfl e_X10_numeral_7 ?_
    have h8151 : HS V c _ [0, 2, 3, 4, 5, 6, 7, 8, 9, 10, 11, 12, 13, 14, 15, 16, 17, 18, 19, 20, 21, 22, 23] _ _ := ⟨HR.mono (Z' := Z) (by intro e; first | rfl | assumption | omega) h8150.1, h8150.2⟩
    exact m_iret F hQ e_X10_numeral_8 (⟨P, hP, (by unfold RA; omega), h8151, Or.inr ⟨h8150.1, rfl⟩⟩)
set_option maxRecDepth 20000 in
theorem q_X10_reading0 (l : Launch) (V : VX) (c T Z u h : Nat) (P : NP) (L : Nat → LQ) (N : Nat) (σ : Mem)  (h0 : HR V c ⟨T, Z, u, h, P, L⟩ σ) (hob : OKB L) (hP : OKP P)  : Ct l V yX10_reading cX10_reading 2 (some .int) 0 0 0 N σ [.ref c, .int 0] (fun r τ => HS V c (⟨T, Z, u, h, P, L⟩ : RG) [0, 1, 2, 3, 4, 5, 6, 7, 8, 9, 10, 11, 12, 13, 14, 15, 16, 17, 18, 19, 20, 21, 22, 23] σ τ ∧ r = some (.int (nI P.n5))) := by
  refine Ct.of (by decide) (Nat.le_of_ble_eq_true rfl) [(0, .ref c), (1, .int 0)] rfl (fun X hX F hQ => ?_)
  have hPP := hP
  unfold OKP at hPP
  have h1 : HS V c ⟨T, Z, u, h, P, L⟩ [0, 1, 2, 3, 4, 5, 6, 7, 8, 9, 10, 11, 12, 13, 14, 15, 16, 17, 18, 19, 20, 21, 22, 23] σ σ := HS.start h0
  refine m_aload_n F rfl e_X10_reading_0 ?_
  refine r_get F e_X10_reading_1 fl_X10_13 h1 rfl (fun v hv f8152 => ?_)
  obtain rfl : v = .ref (c + 2) := hv
  refine m_iconst F (v := 5) (by decide) e_X10_reading_4 ?_
  refine m_iload_n F rfl e_X10_reading_5 ?_
  refine m_iadd F e_X10_reading_6 ?_
  refine Wm.topE (w := 5) (by decide) ?_
  refine r_iald F (len := 10) (j := 5) e_X10_reading_7 h1 (fun _ h => h) (by decide) (by decide) (by unfold vp_in; decide) (fun x8153 h8154 f8155 => ?_)
  obtain rfl : x8153 = nI P.n5 := h8154.2.2.1 rfl
  exact m_iret F hQ e_X10_reading_8 (⟨h1, rfl⟩)
set_option maxRecDepth 20000 in
theorem q_X10_reading2 (l : Launch) (V : VX) (c T Z u h : Nat) (P : NP) (L : Nat → LQ) (N : Nat) (σ : Mem)  (h0 : HR V c ⟨T, Z, u, h, P, L⟩ σ) (hob : OKB L) (hP : OKP P)  : Ct l V yX10_reading cX10_reading 2 (some .int) 0 0 0 N σ [.ref c, .int 2] (fun r τ => HS V c (⟨T, Z, u, h, P, L⟩ : RG) [0, 1, 2, 3, 4, 5, 6, 7, 8, 9, 10, 11, 12, 13, 14, 15, 16, 17, 18, 19, 20, 21, 22, 23] σ τ ∧ r = some (.int (nI P.n7))) := by
  refine Ct.of (by decide) (Nat.le_of_ble_eq_true rfl) [(0, .ref c), (1, .int 2)] rfl (fun X hX F hQ => ?_)
  have hPP := hP
  unfold OKP at hPP
  have h1 : HS V c ⟨T, Z, u, h, P, L⟩ [0, 1, 2, 3, 4, 5, 6, 7, 8, 9, 10, 11, 12, 13, 14, 15, 16, 17, 18, 19, 20, 21, 22, 23] σ σ := HS.start h0
  refine m_aload_n F rfl e_X10_reading_0 ?_
  refine r_get F e_X10_reading_1 fl_X10_13 h1 rfl (fun v hv f8156 => ?_)
  obtain rfl : v = .ref (c + 2) := hv
  refine m_iconst F (v := 5) (by decide) e_X10_reading_4 ?_
  refine m_iload_n F rfl e_X10_reading_5 ?_
  refine m_iadd F e_X10_reading_6 ?_
  refine Wm.topE (w := 7) (by decide) ?_
  refine r_iald F (len := 10) (j := 7) e_X10_reading_7 h1 (fun _ h => h) (by decide) (by decide) (by unfold vp_in; decide) (fun x8157 h8158 f8159 => ?_)
  obtain rfl : x8157 = nI P.n7 := h8158.2.2.2.1 rfl
  exact m_iret F hQ e_X10_reading_8 (⟨h1, rfl⟩)
set_option maxRecDepth 20000 in
theorem q_X10_reading3 (l : Launch) (V : VX) (c T Z u h : Nat) (P : NP) (L : Nat → LQ) (N : Nat) (σ : Mem)  (h0 : HR V c ⟨T, Z, u, h, P, L⟩ σ) (hob : OKB L) (hP : OKP P)  : Ct l V yX10_reading cX10_reading 2 (some .int) 0 0 0 N σ [.ref c, .int 3] (fun r τ => HS V c (⟨T, Z, u, h, P, L⟩ : RG) [0, 1, 2, 3, 4, 5, 6, 7, 8, 9, 10, 11, 12, 13, 14, 15, 16, 17, 18, 19, 20, 21, 22, 23] σ τ ∧ ∃ n : Nat, n ≤ 4 ∧ elI τ (c + 2) 8 = some (nI n) ∧ r = some (.int (nI n))) := by
  refine Ct.of (by decide) (Nat.le_of_ble_eq_true rfl) [(0, .ref c), (1, .int 3)] rfl (fun X hX F hQ => ?_)
  have hPP := hP
  unfold OKP at hPP
  have h1 : HS V c ⟨T, Z, u, h, P, L⟩ [0, 1, 2, 3, 4, 5, 6, 7, 8, 9, 10, 11, 12, 13, 14, 15, 16, 17, 18, 19, 20, 21, 22, 23] σ σ := HS.start h0
  refine m_aload_n F rfl e_X10_reading_0 ?_
  refine r_get F e_X10_reading_1 fl_X10_13 h1 rfl (fun v hv f8160 => ?_)
  obtain rfl : v = .ref (c + 2) := hv
  refine m_iconst F (v := 5) (by decide) e_X10_reading_4 ?_
  refine m_iload_n F rfl e_X10_reading_5 ?_
  refine m_iadd F e_X10_reading_6 ?_
  refine Wm.topE (w := 8) (by decide) ?_
  refine r_iald F (len := 10) (j := 8) e_X10_reading_7 h1 (fun _ h => h) (by decide) (by decide) (by unfold vp_in; decide) (fun x8161 h8162 f8163 => ?_)
  obtain ⟨n8164, hn8164, rfl⟩ := h8162.2.2.2.2.2 rfl
  exact m_iret F hQ e_X10_reading_8 (⟨h1, n8164, by omega, f8163, rfl⟩)
set_option maxRecDepth 20000 in
theorem q_X10_reading1 (l : Launch) (V : VX) (c T Z u h : Nat) (P : NP) (L : Nat → LQ) (N : Nat) (σ : Mem)  (h0 : HR V c ⟨T, Z, u, h, P, L⟩ σ) (hob : OKB L) (hP : OKP P)  : Ct l V yX10_reading cX10_reading 2 (some .int) 0 0 0 N σ [.ref c, .int 1] (fun r τ => HS V c (⟨T, Z, u, h, P, L⟩ : RG) [0, 1, 2, 3, 4, 5, 6, 7, 8, 9, 10, 11, 12, 13, 14, 15, 16, 17, 18, 19, 20, 21, 22, 23] σ τ ∧ ∃ x : Int32, r = some (.int x)) := by
  refine Ct.of (by decide) (Nat.le_of_ble_eq_true rfl) [(0, .ref c), (1, .int 1)] rfl (fun X hX F hQ => ?_)
  have hPP := hP
  unfold OKP at hPP
  have h1 : HS V c ⟨T, Z, u, h, P, L⟩ [0, 1, 2, 3, 4, 5, 6, 7, 8, 9, 10, 11, 12, 13, 14, 15, 16, 17, 18, 19, 20, 21, 22, 23] σ σ := HS.start h0
  refine m_aload_n F rfl e_X10_reading_0 ?_
  refine r_get F e_X10_reading_1 fl_X10_13 h1 rfl (fun v hv f8165 => ?_)
  obtain rfl : v = .ref (c + 2) := hv
  refine m_iconst F (v := 5) (by decide) e_X10_reading_4 ?_
  refine m_iload_n F rfl e_X10_reading_5 ?_
  refine m_iadd F e_X10_reading_6 ?_
  refine Wm.topE (w := 6) (by decide) ?_
  refine r_iald F (len := 10) (j := 6) e_X10_reading_7 h1 (fun _ h => h) (by decide) (by decide) (by unfold vp_in; decide) (fun x8166 h8167 f8168 => ?_)
  exact m_iret F hQ e_X10_reading_8 (⟨h1, _, rfl⟩)
set_option maxRecDepth 20000 in
theorem q_X10_reading4 (l : Launch) (V : VX) (c T Z u h : Nat) (P : NP) (L : Nat → LQ) (N : Nat) (σ : Mem)  (h0 : HR V c ⟨T, Z, u, h, P, L⟩ σ) (hob : OKB L) (hP : OKP P)  : Ct l V yX10_reading cX10_reading 2 (some .int) 0 0 0 N σ [.ref c, .int 4] (fun r τ => HS V c (⟨T, Z, u, h, P, L⟩ : RG) [0, 1, 2, 3, 4, 5, 6, 7, 8, 9, 10, 11, 12, 13, 14, 15, 16, 17, 18, 19, 20, 21, 22, 23] σ τ ∧ ∃ x : Int32, r = some (.int x)) := by
  refine Ct.of (by decide) (Nat.le_of_ble_eq_true rfl) [(0, .ref c), (1, .int 4)] rfl (fun X hX F hQ => ?_)
  have hPP := hP
  unfold OKP at hPP
  have h1 : HS V c ⟨T, Z, u, h, P, L⟩ [0, 1, 2, 3, 4, 5, 6, 7, 8, 9, 10, 11, 12, 13, 14, 15, 16, 17, 18, 19, 20, 21, 22, 23] σ σ := HS.start h0
  refine m_aload_n F rfl e_X10_reading_0 ?_
  refine r_get F e_X10_reading_1 fl_X10_13 h1 rfl (fun v hv f8169 => ?_)
  obtain rfl : v = .ref (c + 2) := hv
  refine m_iconst F (v := 5) (by decide) e_X10_reading_4 ?_
  refine m_iload_n F rfl e_X10_reading_5 ?_
  refine m_iadd F e_X10_reading_6 ?_
  refine Wm.topE (w := 9) (by decide) ?_
  refine r_iald F (len := 10) (j := 9) e_X10_reading_7 h1 (fun _ h => h) (by decide) (by decide) (by unfold vp_in; decide) (fun x8170 h8171 f8172 => ?_)
  exact m_iret F hQ e_X10_reading_8 (⟨h1, _, rfl⟩)
set_option maxRecDepth 20000 in
theorem q_X10_reads0 (l : Launch) (V : VX) (c T Z u h : Nat) (P : NP) (L : Nat → LQ) (N : Nat) (σ : Mem) (n902 : Nat) (h0 : HR V c ⟨T, Z, u, h, P, L⟩ σ) (hob : OKB L) (hP : OKP P) (hn902 : n902 ≤ 4) (hp0 : n902 ≤ P.m5) : Ct l V yX10_reads cX10_reads 3 none 0 0 0 N σ [.ref c, .int 0, .int (nI n902)] (fun r τ => HS V c (⟨T, Z, u, h, (mkP P.n0 P.n2 n902 P.n7 P.m0 P.m5 P.w2 P.w7 P.kk P.a), L⟩ : RG) [0, 1, 2, 4, 5, 6, 7, 8, 9, 10, 11, 12, 13, 14, 15, 16, 17, 18, 19, 20, 21, 22, 23] σ τ ∧ r = none) := by
  refine Ct.of (by decide) (Nat.le_of_ble_eq_true rfl) [(0, .ref c), (1, .int 0), (2, .int (nI n902))] rfl (fun X hX F hQ => ?_)
  have hPP := hP
  unfold OKP at hPP
  have h1 : HS V c ⟨T, Z, u, h, P, L⟩ [0, 1, 2, 4, 5, 6, 7, 8, 9, 10, 11, 12, 13, 14, 15, 16, 17, 18, 19, 20, 21, 22, 23] σ σ := HS.start h0
  refine m_aload_n F rfl e_X10_reads_0 ?_
  refine r_get F e_X10_reads_1 fl_X10_13 h1 rfl (fun v hv f8173 => ?_)
  obtain rfl : v = .ref (c + 2) := hv
  refine m_iconst F (v := 5) (by decide) e_X10_reads_4 ?_
  refine m_iload_n F rfl e_X10_reads_5 ?_
  refine m_iadd F e_X10_reads_6 ?_
  refine Wm.topE (w := 5) (by decide) ?_
  refine m_iload_n F rfl e_X10_reads_7 ?_
  refine r_iast F (g' := (⟨T, Z, u, h, (mkP P.n0 P.n2 n902 P.n7 P.m0 P.m5 P.w2 P.w7 P.kk P.a), L⟩ : RG)) (len := 10) (j := 5) e_X10_reads_8 h1 (fun _ h => h) (fun f h => ⟨f, rfl, h⟩) (by decide) (by decide) (by decide) (by unfold vp_in; decide) (by refine ⟨?_, ?_, ?_, ?_, ?_, ?_⟩ <;> intro e <;> first | exact absurd e (by decide) | rfl | exact ⟨_, by omega, rfl⟩) (fun i hi y hy => ⟨hy.1, hy.2.1, fun e => absurd e hi, hy.2.2.2.1, hy.2.2.2.2.1, hy.2.2.2.2.2⟩) (by intro i hi x hx; unfold CR at hx ⊢; split at hx <;> first | exact hx | exact absurd rfl hi) (fun σ8174 h8175 g8176 f8177 g8178 => ?_)
  exact m_vret F hQ e_X10_reads_9 (⟨h8175, rfl⟩)
set_option maxRecDepth 20000 in
theorem q_X10_reads2 (l : Launch) (V : VX) (c T Z u h : Nat) (P : NP) (L : Nat → LQ) (N : Nat) (σ : Mem) (n902 : Nat) (h0 : HR V c ⟨T, Z, u, h, P, L⟩ σ) (hob : OKB L) (hP : OKP P) (hn902 : n902 ≤ 8) (hp0 : n902 ≤ P.w7) : Ct l V yX10_reads cX10_reads 3 none 0 0 0 N σ [.ref c, .int 2, .int (nI n902)] (fun r τ => HS V c (⟨T, Z, u, h, (mkP P.n0 P.n2 P.n5 n902 P.m0 P.m5 P.w2 P.w7 P.kk P.a), L⟩ : RG) [0, 1, 2, 4, 5, 6, 7, 8, 9, 10, 11, 12, 13, 14, 15, 16, 17, 18, 19, 20, 21, 22, 23] σ τ ∧ r = none) := by
  refine Ct.of (by decide) (Nat.le_of_ble_eq_true rfl) [(0, .ref c), (1, .int 2), (2, .int (nI n902))] rfl (fun X hX F hQ => ?_)
  have hPP := hP
  unfold OKP at hPP
  have h1 : HS V c ⟨T, Z, u, h, P, L⟩ [0, 1, 2, 4, 5, 6, 7, 8, 9, 10, 11, 12, 13, 14, 15, 16, 17, 18, 19, 20, 21, 22, 23] σ σ := HS.start h0
  refine m_aload_n F rfl e_X10_reads_0 ?_
  refine r_get F e_X10_reads_1 fl_X10_13 h1 rfl (fun v hv f8179 => ?_)
  obtain rfl : v = .ref (c + 2) := hv
  refine m_iconst F (v := 5) (by decide) e_X10_reads_4 ?_
  refine m_iload_n F rfl e_X10_reads_5 ?_
  refine m_iadd F e_X10_reads_6 ?_
  refine Wm.topE (w := 7) (by decide) ?_
  refine m_iload_n F rfl e_X10_reads_7 ?_
  refine r_iast F (g' := (⟨T, Z, u, h, (mkP P.n0 P.n2 P.n5 n902 P.m0 P.m5 P.w2 P.w7 P.kk P.a), L⟩ : RG)) (len := 10) (j := 7) e_X10_reads_8 h1 (fun _ h => h) (fun f h => ⟨f, rfl, h⟩) (by decide) (by decide) (by decide) (by unfold vp_in; decide) (by refine ⟨?_, ?_, ?_, ?_, ?_, ?_⟩ <;> intro e <;> first | exact absurd e (by decide) | rfl | exact ⟨_, by omega, rfl⟩) (fun i hi y hy => ⟨hy.1, hy.2.1, hy.2.2.1, fun e => absurd e hi, hy.2.2.2.2.1, hy.2.2.2.2.2⟩) (by intro i hi x hx; unfold CR at hx ⊢; split at hx <;> first | exact hx | exact absurd rfl hi) (fun σ8180 h8181 g8182 f8183 g8184 => ?_)
  exact m_vret F hQ e_X10_reads_9 (⟨h8181, rfl⟩)
set_option maxRecDepth 20000 in
theorem q_X10_reads3 (l : Launch) (V : VX) (c T Z u h : Nat) (P : NP) (L : Nat → LQ) (N : Nat) (σ : Mem) (n902 : Nat) (h0 : HR V c ⟨T, Z, u, h, P, L⟩ σ) (hob : OKB L) (hP : OKP P) (hn902 : n902 ≤ 4) : Ct l V yX10_reads cX10_reads 3 none 0 0 0 N σ [.ref c, .int 3, .int (nI n902)] (fun r τ => HS V c (⟨T, Z, u, h, P, L⟩ : RG) [0, 1, 2, 4, 5, 6, 7, 8, 9, 10, 11, 12, 13, 14, 15, 16, 17, 18, 19, 20, 21, 22, 23] σ τ ∧ r = none) := by
  refine Ct.of (by decide) (Nat.le_of_ble_eq_true rfl) [(0, .ref c), (1, .int 3), (2, .int (nI n902))] rfl (fun X hX F hQ => ?_)
  have hPP := hP
  unfold OKP at hPP
  have h1 : HS V c ⟨T, Z, u, h, P, L⟩ [0, 1, 2, 4, 5, 6, 7, 8, 9, 10, 11, 12, 13, 14, 15, 16, 17, 18, 19, 20, 21, 22, 23] σ σ := HS.start h0
  refine m_aload_n F rfl e_X10_reads_0 ?_
  refine r_get F e_X10_reads_1 fl_X10_13 h1 rfl (fun v hv f8185 => ?_)
  obtain rfl : v = .ref (c + 2) := hv
  refine m_iconst F (v := 5) (by decide) e_X10_reads_4 ?_
  refine m_iload_n F rfl e_X10_reads_5 ?_
  refine m_iadd F e_X10_reads_6 ?_
  refine Wm.topE (w := 8) (by decide) ?_
  refine m_iload_n F rfl e_X10_reads_7 ?_
  refine r_iast F (g' := (⟨T, Z, u, h, P, L⟩ : RG)) (len := 10) (j := 8) e_X10_reads_8 h1 (fun _ h => h) (fun f h => ⟨f, rfl, h⟩) (by decide) (by decide) (by decide) (by unfold vp_in; decide) (by refine ⟨?_, ?_, ?_, ?_, ?_, ?_⟩ <;> intro e <;> first | exact absurd e (by decide) | rfl | exact ⟨_, by omega, rfl⟩) (fun _ _ _ h => h) (fun _ _ _ h => h) (fun σ8186 h8187 g8188 f8189 g8190 => ?_)
  exact m_vret F hQ e_X10_reads_9 (⟨h8187, rfl⟩)
set_option maxRecDepth 20000 in
theorem q_X10_reads1 (l : Launch) (V : VX) (c T Z u h : Nat) (P : NP) (L : Nat → LQ) (N : Nat) (σ : Mem) (x902 : Int32) (h0 : HR V c ⟨T, Z, u, h, P, L⟩ σ) (hob : OKB L) (hP : OKP P)  : Ct l V yX10_reads cX10_reads 3 none 0 0 0 N σ [.ref c, .int 1, .int x902] (fun r τ => HS V c (⟨T, Z, u, h, P, L⟩ : RG) [0, 1, 2, 4, 5, 6, 7, 8, 9, 10, 11, 12, 13, 14, 15, 16, 17, 18, 19, 20, 21, 22, 23] σ τ ∧ r = none) := by
  refine Ct.of (by decide) (Nat.le_of_ble_eq_true rfl) [(0, .ref c), (1, .int 1), (2, .int x902)] rfl (fun X hX F hQ => ?_)
  have hPP := hP
  unfold OKP at hPP
  have h1 : HS V c ⟨T, Z, u, h, P, L⟩ [0, 1, 2, 4, 5, 6, 7, 8, 9, 10, 11, 12, 13, 14, 15, 16, 17, 18, 19, 20, 21, 22, 23] σ σ := HS.start h0
  refine m_aload_n F rfl e_X10_reads_0 ?_
  refine r_get F e_X10_reads_1 fl_X10_13 h1 rfl (fun v hv f8191 => ?_)
  obtain rfl : v = .ref (c + 2) := hv
  refine m_iconst F (v := 5) (by decide) e_X10_reads_4 ?_
  refine m_iload_n F rfl e_X10_reads_5 ?_
  refine m_iadd F e_X10_reads_6 ?_
  refine Wm.topE (w := 6) (by decide) ?_
  refine m_iload_n F rfl e_X10_reads_7 ?_
  refine r_iast F (g' := (⟨T, Z, u, h, P, L⟩ : RG)) (len := 10) (j := 6) e_X10_reads_8 h1 (fun _ h => h) (fun f h => ⟨f, rfl, h⟩) (by decide) (by decide) (by decide) (by unfold vp_in; decide) (by refine ⟨?_, ?_, ?_, ?_, ?_, ?_⟩ <;> intro e <;> first | exact absurd e (by decide) | rfl | exact ⟨_, by omega, rfl⟩) (fun _ _ _ h => h) (fun _ _ _ h => h) (fun σ8192 h8193 g8194 f8195 g8196 => ?_)
  exact m_vret F hQ e_X10_reads_9 (⟨h8193, rfl⟩)
set_option maxRecDepth 20000 in
theorem q_X10_reads4 (l : Launch) (V : VX) (c T Z u h : Nat) (P : NP) (L : Nat → LQ) (N : Nat) (σ : Mem) (x902 : Int32) (h0 : HR V c ⟨T, Z, u, h, P, L⟩ σ) (hob : OKB L) (hP : OKP P)  : Ct l V yX10_reads cX10_reads 3 none 0 0 0 N σ [.ref c, .int 4, .int x902] (fun r τ => HS V c (⟨T, Z, u, h, P, L⟩ : RG) [0, 1, 2, 4, 5, 6, 7, 8, 9, 10, 11, 12, 13, 14, 15, 16, 17, 18, 19, 20, 21, 22, 23] σ τ ∧ r = none) := by
  refine Ct.of (by decide) (Nat.le_of_ble_eq_true rfl) [(0, .ref c), (1, .int 4), (2, .int x902)] rfl (fun X hX F hQ => ?_)
  have hPP := hP
  unfold OKP at hPP
  have h1 : HS V c ⟨T, Z, u, h, P, L⟩ [0, 1, 2, 4, 5, 6, 7, 8, 9, 10, 11, 12, 13, 14, 15, 16, 17, 18, 19, 20, 21, 22, 23] σ σ := HS.start h0
  refine m_aload_n F rfl e_X10_reads_0 ?_
  refine r_get F e_X10_reads_1 fl_X10_13 h1 rfl (fun v hv f8197 => ?_)
  obtain rfl : v = .ref (c + 2) := hv
  refine m_iconst F (v := 5) (by decide) e_X10_reads_4 ?_
  refine m_iload_n F rfl e_X10_reads_5 ?_
  refine m_iadd F e_X10_reads_6 ?_
  refine Wm.topE (w := 9) (by decide) ?_
  refine m_iload_n F rfl e_X10_reads_7 ?_
  refine r_iast F (g' := (⟨T, Z, u, h, P, L⟩ : RG)) (len := 10) (j := 9) e_X10_reads_8 h1 (fun _ h => h) (fun f h => ⟨f, rfl, h⟩) (by decide) (by decide) (by decide) (by unfold vp_in; decide) (by refine ⟨?_, ?_, ?_, ?_, ?_, ?_⟩ <;> intro e <;> first | exact absurd e (by decide) | rfl | exact ⟨_, by omega, rfl⟩) (fun _ _ _ h => h) (fun _ _ _ h => h) (fun σ8198 h8199 g8200 f8201 g8202 => ?_)
  exact m_vret F hQ e_X10_reads_9 (⟨h8199, rfl⟩)
set_option maxRecDepth 20000 in
theorem q_X10_atHand (l : Launch) (V : VX) (c T Z u h : Nat) (P : NP) (L : Nat → LQ) (N : Nat) (σ : Mem)  (h0 : HR V c ⟨T, Z, u, h, P, L⟩ σ) (hob : OKB L) (hP : OKP P)  : Ct l V yX10_atHand cX10_atHand 2 (some .int) 7 0 0 N σ [.ref c] (fun r τ => ∃ P9 : NP, OKP P9 ∧ RA P P9 ∧ HS V c (⟨T, Z, u, h, P9, L⟩ : RG) [0, 2, 3, 4, 5, 6, 7, 8, 9, 10, 11, 12, 13, 14, 15, 16, 17, 18, 19, 20, 21, 22, 23] σ τ ∧ ∃ n : Nat, 4 ≤ n ∧ n ≤ 7 ∧ r = some (.int (nI n))) := by
  refine Ct.of (by decide) (Nat.le_of_ble_eq_true rfl) [(0, .ref c)] rfl (fun X hX F hQ => ?_)
  have hPP := hP
  unfold OKP at hPP
  have h1 : HS V c ⟨T, Z, u, h, P, L⟩ [0, 2, 3, 4, 5, 6, 7, 8, 9, 10, 11, 12, 13, 14, 15, 16, 17, 18, 19, 20, 21, 22, 23] σ σ := HS.start h0
  refine m_aload_n F rfl e_X10_atHand_0 ?_
  refine r_callV F e_X10_atHand_1 (q_X10_goOn (x_l X) V c T Z u h P L _ _  h1.1 (hob) hP ) cb_X10_goOn ml_X10_154 im_X10_goOn se_X10_goOn h1 rfl rfl (rest := []) rfl (Nat.le_of_ble_eq_true rfl) ⟨Nat.le_of_ble_eq_true rfl, Nat.le_of_ble_eq_true rfl⟩ ⟨Nat.le_of_ble_eq_true rfl, Nat.le_of_ble_eq_true rfl⟩ (fun r σ8203 hp => ?_)
  obtain ⟨P8206, oP8206, rP8206, pr8207, h8204, rfl⟩ := hp
  have h8205 := HS.trans h1 h8204 (by decide)
  have xP8206 := oP8206
  unfold OKP at xP8206
  unfold RA at rP8206
  refine m_aload_n F rfl e_X10_atHand_4 ?_
  refine r_get F e_X10_atHand_5 fl_X10_141 h8205 rfl (fun v hv f8208 => ?_)
  obtain ⟨x8209, hx8209, rfl⟩ := hv
  replace hx8209 : Z = 0 → x8209 ≠ 0 := hx8209
  refine m_if_eq F e_X10_atHand_8 (fun q8 => ?_) (fun q8 => ?_)
  · subst q8
    refine m_aload_n F rfl e_X10_atHand_13 ?_
    refine r_get F e_X10_atHand_14 fl_X10_110 h8205 rfl (fun v hv f8210 => ?_)
    obtain ⟨x8211, rfl⟩ := hv
    refine m_iconst F (v := 1) (by decide) e_X10_atHand_17 ?_
    refine m_icmp_eq F e_X10_atHand_18 (fun q18 => ?_) (fun q18 => ?_)
    · subst q18
      refine m_aload_n F rfl e_X10_atHand_26 ?_
      refine r_getC F e_X10_atHand_27 fl_X10_141 h8205 (f8208) ?_
      refine m_if_ne F e_X10_atHand_30 (fun q => absurd (by decide) q) (fun _ => ?_)
      refine m_aload_n F rfl e_X10_atHand_33 ?_
      refine m_iconst F (v := 4) (by decide) e_X10_atHand_34 ?_
      refine m_aload_n F rfl e_X10_atHand_35 ?_
      refine m_iconst F (v := 0) (by decide) e_X10_atHand_36 ?_
      refine r_callV F e_X10_atHand_37 (q_X10_reading0 (x_l X) V c T Z u h P8206 L _ _  h8205.1 (hob) oP8206 ) cb_X10_reading ml_X10_157 im_X10_reading se_X10_reading h8205 rfl rfl (rest := [.int 4, .ref c]) rfl (Nat.le_of_ble_eq_true rfl) ⟨Nat.le_of_ble_eq_true rfl, Nat.le_of_ble_eq_true rfl⟩ ⟨Nat.le_of_ble_eq_true rfl, Nat.le_of_ble_eq_true rfl⟩ (fun r σ8212 hp => ?_)
      obtain ⟨h8213, rfl⟩ := hp
      have h8214 := HS.trans h8205 h8213 (by decide)
      refine m_aload_n F rfl e_X10_atHand_40 ?_
      refine r_get F e_X10_atHand_41 fl_X10_120 h8214 rfl (fun v hv f8215 => ?_)
      obtain ⟨x8216, rfl⟩ := hv
      refine r_callV F e_X10_atHand_44 (q_X10_namedAt (x_l X) V c T Z u h P8206 L _ _ 4 P8206.n5 x8216 h8214.1 (hob) oP8206 (by omega) (by omega)) cb_X10_namedAt ml_X10_161 im_X10_namedAt se_X10_namedAt h8214 rfl rfl (rest := []) rfl (Nat.le_of_ble_eq_true rfl) ⟨Nat.le_of_ble_eq_true rfl, Nat.le_of_ble_eq_true rfl⟩ ⟨Nat.le_of_ble_eq_true rfl, Nat.le_of_ble_eq_true rfl⟩ (fun r σ8217 hp => ?_)
      obtain ⟨h8218, c8220⟩ := hp
      have h8219 := HS.trans h8214 h8218 (by decide)
      rcases c8220 with rfl | ⟨n8221, hn8221, rfl⟩
      · refine m_goto F e_X10_atHand_47 ?_
        refine m_istore_n F (lv' := [(1, .int (-1)), (0, .ref c)]) e_X10_atHand_51 (by decide) rfl ?_
        refine m_iload_n F rfl e_X10_atHand_52 ?_
        refine m_iconst F (v := (-1)) (by decide) e_X10_atHand_53 ?_
        refine m_icmp_ne F e_X10_atHand_54 (fun q => absurd (by decide) q) (fun _ => ?_)
        refine m_aload_n F rfl e_X10_atHand_57 ?_
        refine m_iconst F (v := 4) (by decide) e_X10_atHand_58 ?_
        refine r_callV F e_X10_atHand_59 (q_X10_wrong (x_l X) V c T Z u h P8206 L _ _ 4 h8219.1 (hob) oP8206 (by first | omega | assumption | decide)) cb_X10_wrong ml_X10_150 im_X10_wrong se_X10_wrong h8219 rfl rfl (rest := []) rfl (Nat.le_of_ble_eq_true rfl) ⟨Nat.le_of_ble_eq_true rfl, Nat.le_of_ble_eq_true rfl⟩ ⟨Nat.le_of_ble_eq_true rfl, Nat.le_of_ble_eq_true rfl⟩ (fun r σ8222 hp => ?_)
        obtain ⟨h8223, rfl⟩ := hp
        have h8224 := HS.trans h8219 h8223 (by decide)
        refine m_aload_n F rfl e_X10_atHand_62 ?_
        refine r_get F e_X10_atHand_63 fl_X10_141 h8224 rfl (fun v hv f8225 => ?_)
        obtain ⟨x8226, hx8226, rfl⟩ := hv
        replace hx8226 : 0 = 0 → x8226 ≠ 0 := hx8226
        refine m_if_ne F e_X10_atHand_66 (fun q66 => ?_) (fun q66 => ?_)
        · have h8227 := HS.z0 h8224 (f8225) q66
          refine m_iconst F (v := 4) (by decide) e_X10_atHand_75 ?_
          have h8228 : HS V c _ [0, 2, 3, 4, 5, 6, 7, 8, 9, 10, 11, 12, 13, 14, 15, 16, 17, 18, 19, 20, 21, 22, 23] _ _ := ⟨HR.mono (Z' := Z) (by intro e; first | rfl | assumption | omega) h8227.1, h8227.2⟩
          exact m_iret F hQ e_X10_atHand_76 (⟨P8206, oP8206, (by unfold RA; omega), h8228, 4, by omega, by omega, rfl⟩)
        · first | exact absurd q66 (hx8226 rfl) | contradiction
      · refine m_goto F e_X10_atHand_47 ?_
        refine m_istore_n F (lv' := [(1, .int (nI n8221)), (0, .ref c)]) e_X10_atHand_51 (by decide) rfl ?_
        refine m_iload_n F rfl e_X10_atHand_52 ?_
        refine m_iconst F (v := (-1)) (by decide) e_X10_atHand_53 ?_
        refine m_icmp_ne F e_X10_atHand_54 (fun q54 => ?_) (fun q54 => ?_)
        · refine m_aload_n F rfl e_X10_atHand_62 ?_
          refine r_getC F e_X10_atHand_63 fl_X10_141 h8219 ((fld_eq (h8218.2 c (by rw [show kC c c = 1 from kC_at (k := 0) (by decide)]; decide))).trans ((fld_eq (h8213.2 c (by rw [show kC c c = 1 from kC_at (k := 0) (by decide)]; decide))).trans f8208)) ?_
          refine m_if_ne F e_X10_atHand_66 (fun q => absurd (by decide) q) (fun _ => ?_)
          refine m_iconst F (v := 4) (by decide) e_X10_atHand_69 ?_
          refine m_iload_n F rfl e_X10_atHand_70 ?_
          refine m_iadd F e_X10_atHand_71 ?_
          refine Wm.topE (w := nI (4 + n8221)) (nI_add 4 n8221) ?_
          refine m_goto F e_X10_atHand_72 ?_
          exact m_iret F hQ e_X10_atHand_76 (⟨P8206, oP8206, (by unfold RA; omega), h8219, 4 + n8221, by omega, by omega, rfl⟩)
        · refine m_aload_n F rfl e_X10_atHand_57 ?_
          refine m_iconst F (v := 4) (by decide) e_X10_atHand_58 ?_
          refine r_callV F e_X10_atHand_59 (q_X10_wrong (x_l X) V c T Z u h P8206 L _ _ 4 h8219.1 (hob) oP8206 (by first | omega | assumption | decide)) cb_X10_wrong ml_X10_150 im_X10_wrong se_X10_wrong h8219 rfl rfl (rest := []) rfl (Nat.le_of_ble_eq_true rfl) ⟨Nat.le_of_ble_eq_true rfl, Nat.le_of_ble_eq_true rfl⟩ ⟨Nat.le_of_ble_eq_true rfl, Nat.le_of_ble_eq_true rfl⟩ (fun r σ8229 hp => ?_)
          obtain ⟨h8230, rfl⟩ := hp
          have h8231 := HS.trans h8219 h8230 (by decide)
          refine m_aload_n F rfl e_X10_atHand_62 ?_
          refine r_get F e_X10_atHand_63 fl_X10_141 h8231 rfl (fun v hv f8232 => ?_)
          obtain ⟨x8233, hx8233, rfl⟩ := hv
          replace hx8233 : 0 = 0 → x8233 ≠ 0 := hx8233
          refine m_if_ne F e_X10_atHand_66 (fun q66 => ?_) (fun q66 => ?_)
          · have h8234 := HS.z0 h8231 (f8232) q66
            refine m_iconst F (v := 4) (by decide) e_X10_atHand_75 ?_
            have h8235 : HS V c _ [0, 2, 3, 4, 5, 6, 7, 8, 9, 10, 11, 12, 13, 14, 15, 16, 17, 18, 19, 20, 21, 22, 23] _ _ := ⟨HR.mono (Z' := Z) (by intro e; first | rfl | assumption | omega) h8234.1, h8234.2⟩
            exact m_iret F hQ e_X10_atHand_76 (⟨P8206, oP8206, (by unfold RA; omega), h8235, 4, by omega, by omega, rfl⟩)
          · first | exact absurd q66 (hx8233 rfl) | contradiction
    · refine m_aload_n F rfl e_X10_atHand_21 ?_
      refine m_iconst F (v := 1) (by decide) e_X10_atHand_22 ?_
      refine r_callV F e_X10_atHand_23 (q_X10_wrong (x_l X) V c T Z u h P8206 L _ _ 1 h8205.1 (hob) oP8206 (by first | omega | assumption | decide)) cb_X10_wrong ml_X10_150 im_X10_wrong se_X10_wrong h8205 rfl rfl (rest := []) rfl (Nat.le_of_ble_eq_true rfl) ⟨Nat.le_of_ble_eq_true rfl, Nat.le_of_ble_eq_true rfl⟩ ⟨Nat.le_of_ble_eq_true rfl, Nat.le_of_ble_eq_true rfl⟩ (fun r σ8236 hp => ?_)
      obtain ⟨h8237, rfl⟩ := hp
      have h8238 := HS.trans h8205 h8237 (by decide)
      refine m_aload_n F rfl e_X10_atHand_26 ?_
      refine r_get F e_X10_atHand_27 fl_X10_141 h8238 rfl (fun v hv f8239 => ?_)
      obtain ⟨x8240, hx8240, rfl⟩ := hv
      replace hx8240 : 0 = 0 → x8240 ≠ 0 := hx8240
      refine m_if_ne F e_X10_atHand_30 (fun q30 => ?_) (fun q30 => ?_)
      · have h8241 := HS.z0 h8238 (f8239) q30
        refine m_iconst F (v := 0) (by decide) e_X10_atHand_50 ?_
        refine m_istore_n F (lv' := [(1, .int 0), (0, .ref c)]) e_X10_atHand_51 (by decide) rfl ?_
        refine m_iload_n F rfl e_X10_atHand_52 ?_
        refine m_iconst F (v := (-1)) (by decide) e_X10_atHand_53 ?_
        refine m_icmp_ne F e_X10_atHand_54 (fun _ => ?_) (fun q => absurd q (by decide))
        refine m_aload_n F rfl e_X10_atHand_62 ?_
        refine r_getC F e_X10_atHand_63 fl_X10_141 h8241 (f8239) ?_
        refine m_if_ne F e_X10_atHand_66 (fun q66 => ?_) (fun q66 => ?_)
        · have h8242 := HS.z0 h8241 (f8239) q66
          refine m_iconst F (v := 4) (by decide) e_X10_atHand_75 ?_
          have h8243 : HS V c _ [0, 2, 3, 4, 5, 6, 7, 8, 9, 10, 11, 12, 13, 14, 15, 16, 17, 18, 19, 20, 21, 22, 23] _ _ := ⟨HR.mono (Z' := Z) (by intro e; first | rfl | assumption | omega) h8242.1, h8242.2⟩
          exact m_iret F hQ e_X10_atHand_76 (⟨P8206, oP8206, (by unfold RA; omega), h8243, 4, by omega, by omega, rfl⟩)
        · first | exact absurd q66 (hx8240 rfl) | contradiction
      · first | exact absurd q30 (hx8240 rfl) | contradiction
  · have h8244 := HS.z0 h8205 (f8208) q8
    refine m_iconst F (v := 4) (by decide) e_X10_atHand_11 ?_
    have h8245 : HS V c _ [0, 2, 3, 4, 5, 6, 7, 8, 9, 10, 11, 12, 13, 14, 15, 16, 17, 18, 19, 20, 21, 22, 23] _ _ := ⟨HR.mono (Z' := Z) (by intro e; first | rfl | assumption | omega) h8244.1, h8244.2⟩
    exact m_iret F hQ e_X10_atHand_12 (⟨P8206, oP8206, (by unfold RA; omega), h8245, 4, by omega, by omega, rfl⟩)
set_option maxRecDepth 20000 in
theorem lq_X10_readLease_157 {V : VX} {X : MX} {N : Nat} {σ : Mem} {c T Z u h : Nat} {P : NP} {L : Nat → LQ}   (F : Fx V X yX10_readLease cX10_readLease 3 none (rmd 8 0 0)) (hQ : Rt V X 0 0 N (fun r τ => ∃ P9 : NP, OKP P9 ∧ RP P P9 ∧ HS V c (⟨T, Z, u, h, P9, L⟩ : RG) [0, 2, 12, 13, 14, 15, 16, 17, 18, 19, 20, 21, 22, 23] σ τ ∧ r = none)) (hob : OKB L) (hP : OKP P)   : ∀ (fuel : Nat) (a : Nat) (i : Nat) (P1 : NP) (τ : Mem), HS V c (⟨T, Z, u, h, P1, L⟩ : RG) [0, 2, 12, 13, 14, 15, 16, 17, 18, 19, 20, 21, 22, 23] σ τ → OKP P1 → RP P P1 → a = 4 + P1.n5 ∧ i ≤ 48 ∧ P1.n5 ≤ 3 ∧ P1.n5 + 1 ≤ P1.m5 → 48 - i < fuel → Wm V X 3 N τ 0 0 157 [(0, .ref c), (1, .int (nI a)), (2, .int (nI i))] [] := by
  intro fuel
  induction fuel with
  | zero => intros; rename_i hm; exact absurd hm (Nat.not_lt_zero _)
  | succ fuel ih =>
    intro a i P1 τ h1 hP1 hR1 hi hm
    have hPP := hP
    unfold OKP at hPP
    have hPP1 := hP1
    unfold OKP at hPP1
    unfold RP at hR1
    refine m_iload_n F rfl e_X10_readLease_157 ?_
    refine m_bipush F (v := 48) (by decide) e_X10_readLease_158 ?_
    refine m_icmp_ge F e_X10_readLease_160 (fun q160 => ?_) (fun q160 => ?_)
    · have c160 : i ≥ 48 := (nI_leI (a := 48) (b := i) (by omega) (by omega)).mp q160
      refine m_aload_n F rfl e_X10_readLease_181 ?_
      refine m_iconst F (v := 0) (by decide) e_X10_readLease_182 ?_
      refine m_aload_n F rfl e_X10_readLease_183 ?_
      refine m_iconst F (v := 0) (by decide) e_X10_readLease_184 ?_
      refine r_callV F e_X10_readLease_185 (q_X10_reading0 (x_l X) V c T Z u h P1 L _ _  h1.1 (hob) hP1 ) cb_X10_reading ml_X10_157 im_X10_reading se_X10_reading h1 rfl rfl (rest := [.int 0, .ref c]) rfl (Nat.le_of_ble_eq_true rfl) ⟨Nat.le_of_ble_eq_true rfl, Nat.le_of_ble_eq_true rfl⟩ ⟨Nat.le_of_ble_eq_true rfl, Nat.le_of_ble_eq_true rfl⟩ (fun r σ8246 hp => ?_)
      obtain ⟨h8247, rfl⟩ := hp
      have h8248 := HS.trans h1 h8247 (by decide)
      refine m_iconst F (v := 1) (by decide) e_X10_readLease_188 ?_
      refine m_iadd F e_X10_readLease_189 ?_
      refine Wm.topE (w := nI (P1.n5 + 1)) (nI_add P1.n5 1) ?_
      refine r_callV F e_X10_readLease_190 (q_X10_reads0 (x_l X) V c T Z u h P1 L _ _ (P1.n5 + 1) h8248.1 (hob) hP1 (by omega) (by first | omega | assumption | decide)) cb_X10_reads ml_X10_170 im_X10_reads se_X10_reads h8248 rfl rfl (rest := []) rfl (Nat.le_of_ble_eq_true rfl) ⟨Nat.le_of_ble_eq_true rfl, Nat.le_of_ble_eq_true rfl⟩ ⟨Nat.le_of_ble_eq_true rfl, Nat.le_of_ble_eq_true rfl⟩ (fun r σ8249 hp => ?_)
      obtain ⟨h8250, rfl⟩ := hp
      have h8251 := HS.trans h8248 h8250 (by decide)
      obtain ⟨P8252, eP8252⟩ : ∃ P9, P9 = (mkP P1.n0 P1.n2 (P1.n5 + 1) P1.n7 P1.m0 P1.m5 P1.w2 P1.w7 P1.kk P1.a) := ⟨_, rfl⟩
      rw [← eP8252] at h8251
      have fP8252 : P8252.n0 = P1.n0 ∧ P8252.n2 = P1.n2 ∧ P8252.n5 = P1.n5 + 1 ∧ P8252.n7 = P1.n7 ∧ P8252.m0 = P1.m0 ∧ P8252.m5 = P1.m5 ∧ P8252.w2 = P1.w2 ∧ P8252.w7 = P1.w7 ∧ P8252.kk = P1.kk ∧ P8252.a = P1.a := by rw [eP8252]; exact ⟨rfl, rfl, rfl, rfl, rfl, rfl, rfl, rfl, rfl, rfl⟩
      have oP8253 : OKP P8252 := by unfold OKP; omega
      exact m_vret F hQ e_X10_readLease_193 (⟨P8252, oP8253, (by unfold RP; omega), h8251, rfl⟩)
    · have c160 : i < 48 := by have hh := mt (nI_leI (a := 48) (b := i) (by omega) (by omega)).mpr q160; omega
      refine m_aload_n F rfl e_X10_readLease_163 ?_
      refine r_get F e_X10_readLease_164 fl_X10_37 h1 rfl (fun v hv f8254 => ?_)
      obtain rfl : v = .ref (c + 10) := hv
      refine m_bipush F (v := 48) (by decide) e_X10_readLease_167 ?_
      refine m_iload_n F rfl e_X10_readLease_169 ?_
      refine m_imul F e_X10_readLease_170 ?_
      refine Wm.topE (w := nI (48 * a)) (pk_mul 48 a) ?_
      refine m_iload_n F rfl e_X10_readLease_171 ?_
      refine m_iadd F e_X10_readLease_172 ?_
      refine Wm.topE (w := nI ((48 * a) + i)) (nI_add (48 * a) i) ?_
      refine m_iconst F (v := 0) (by decide) e_X10_readLease_173 ?_
      refine r_iast F (g' := (⟨T, Z, u, h, P1, L⟩ : RG)) (len := 384) (j := (48 * a) + i) e_X10_readLease_174 h1 (fun _ h => h) (fun f h => ⟨f, rfl, h⟩) (by decide) (by decide) (nI_clamp (by omega)) (vp_in_nI (by omega) (by decide)) trivial (fun _ _ _ h => h) (fun _ _ _ h => h) (fun σ8255 h8256 g8257 f8258 g8259 => ?_)
      refine m_iinc F (v := nI (i + 1)) (lv' := [(2, .int (nI (i + 1))), (0, .ref c), (1, .int (nI a))]) e_X10_readLease_175 rfl (nI_add i 1) (by decide) rfl ?_
      refine m_goto F e_X10_readLease_178 ?_
      refine Wm.lvsub (lv' := [(0, .ref c), (1, .int (nI a)), (2, .int (nI (i + 1)))]) ?_ [1, 2, 0] rfl
      exact ih a (i + 1) P1 _ h8256 hP1 (by unfold RP; omega) (by omega) (by omega)
set_option maxRecDepth 20000 in
theorem q_X10_readLease (l : Launch) (V : VX) (c T Z u h : Nat) (P : NP) (L : Nat → LQ) (N : Nat) (σ : Mem)  (h0 : HR V c ⟨T, Z, u, h, P, L⟩ σ) (hob : OKB L) (hP : OKP P)  : Ct l V yX10_readLease cX10_readLease 3 none 8 0 0 N σ [.ref c] (fun r τ => ∃ P9 : NP, OKP P9 ∧ RP P P9 ∧ HS V c (⟨T, Z, u, h, P9, L⟩ : RG) [0, 2, 12, 13, 14, 15, 16, 17, 18, 19, 20, 21, 22, 23] σ τ ∧ r = none) := by
  refine Ct.of (by decide) (Nat.le_of_ble_eq_true rfl) [(0, .ref c)] rfl (fun X hX F hQ => ?_)
  have hPP := hP
  unfold OKP at hPP
  have h1 : HS V c ⟨T, Z, u, h, P, L⟩ [0, 2, 12, 13, 14, 15, 16, 17, 18, 19, 20, 21, 22, 23] σ σ := HS.start h0
  refine m_aload_n F rfl e_X10_readLease_0 ?_
  refine m_iconst F (v := 0) (by decide) e_X10_readLease_1 ?_
  refine r_callV F e_X10_readLease_2 (q_X10_reading0 (x_l X) V c T Z u h P L _ _  h1.1 (hob) hP ) cb_X10_reading ml_X10_157 im_X10_reading se_X10_reading h1 rfl rfl (rest := []) rfl (Nat.le_of_ble_eq_true rfl) ⟨Nat.le_of_ble_eq_true rfl, Nat.le_of_ble_eq_true rfl⟩ ⟨Nat.le_of_ble_eq_true rfl, Nat.le_of_ble_eq_true rfl⟩ (fun r σ8260 hp => ?_)
  obtain ⟨h8261, rfl⟩ := hp
  have h8262 := HS.trans h1 h8261 (by decide)
  refine m_iconst F (v := 4) (by decide) e_X10_readLease_5 ?_
  refine m_icmp_ne F e_X10_readLease_6 (fun q6 => ?_) (fun q6 => ?_)
  · have c6 : P.n5 ≠ 4 := by have hh := mt (nI_eq (a := P.n5) (b := 4) (by omega) (by omega)).mpr q6; omega
    refine m_aload_n F rfl e_X10_readLease_14 ?_
    refine r_callV F e_X10_readLease_15 (q_X10_goOn (x_l X) V c T Z u h P L _ _  h8262.1 (hob) hP ) cb_X10_goOn ml_X10_154 im_X10_goOn se_X10_goOn h8262 rfl rfl (rest := []) rfl (Nat.le_of_ble_eq_true rfl) ⟨Nat.le_of_ble_eq_true rfl, Nat.le_of_ble_eq_true rfl⟩ ⟨Nat.le_of_ble_eq_true rfl, Nat.le_of_ble_eq_true rfl⟩ (fun r σ8263 hp => ?_)
    obtain ⟨P8266, oP8266, rP8266, pr8267, h8264, rfl⟩ := hp
    have h8265 := HS.trans h8262 h8264 (by decide)
    have xP8266 := oP8266
    unfold OKP at xP8266
    unfold RA at rP8266
    refine m_aload_n F rfl e_X10_readLease_18 ?_
    refine r_get F e_X10_readLease_19 fl_X10_141 h8265 rfl (fun v hv f8268 => ?_)
    obtain ⟨x8269, hx8269, rfl⟩ := hv
    replace hx8269 : Z = 0 → x8269 ≠ 0 := hx8269
    refine m_if_eq F e_X10_readLease_22 (fun q22 => ?_) (fun q22 => ?_)
    · subst q22
      refine m_aload_n F rfl e_X10_readLease_26 ?_
      refine r_get F e_X10_readLease_27 fl_X10_110 h8265 rfl (fun v hv f8270 => ?_)
      obtain ⟨x8271, rfl⟩ := hv
      refine m_iconst F (v := 1) (by decide) e_X10_readLease_30 ?_
      refine m_icmp_eq F e_X10_readLease_31 (fun q31 => ?_) (fun q31 => ?_)
      · subst q31
        refine m_aload_n F rfl e_X10_readLease_42 ?_
        refine m_iconst F (v := 4) (by decide) e_X10_readLease_43 ?_
        refine m_aload_n F rfl e_X10_readLease_44 ?_
        refine m_iconst F (v := 0) (by decide) e_X10_readLease_45 ?_
        refine r_callV F e_X10_readLease_46 (q_X10_reading0 (x_l X) V c T Z u h P8266 L _ _  h8265.1 (hob) oP8266 ) cb_X10_reading ml_X10_157 im_X10_reading se_X10_reading h8265 rfl rfl (rest := [.int 4, .ref c]) rfl (Nat.le_of_ble_eq_true rfl) ⟨Nat.le_of_ble_eq_true rfl, Nat.le_of_ble_eq_true rfl⟩ ⟨Nat.le_of_ble_eq_true rfl, Nat.le_of_ble_eq_true rfl⟩ (fun r σ8272 hp => ?_)
        obtain ⟨h8273, rfl⟩ := hp
        have h8274 := HS.trans h8265 h8273 (by decide)
        refine m_aload_n F rfl e_X10_readLease_49 ?_
        refine r_get F e_X10_readLease_50 fl_X10_120 h8274 rfl (fun v hv f8275 => ?_)
        obtain ⟨x8276, rfl⟩ := hv
        refine r_callV F e_X10_readLease_53 (q_X10_namedAt (x_l X) V c T Z u h P8266 L _ _ 4 P8266.n5 x8276 h8274.1 (hob) oP8266 (by omega) (by omega)) cb_X10_namedAt ml_X10_161 im_X10_namedAt se_X10_namedAt h8274 rfl rfl (rest := []) rfl (Nat.le_of_ble_eq_true rfl) ⟨Nat.le_of_ble_eq_true rfl, Nat.le_of_ble_eq_true rfl⟩ ⟨Nat.le_of_ble_eq_true rfl, Nat.le_of_ble_eq_true rfl⟩ (fun r σ8277 hp => ?_)
        obtain ⟨h8278, c8280⟩ := hp
        have h8279 := HS.trans h8274 h8278 (by decide)
        rcases c8280 with rfl | ⟨n8281, hn8281, rfl⟩
        · refine m_iconst F (v := (-1)) (by decide) e_X10_readLease_56 ?_
          refine m_icmp_eq F e_X10_readLease_57 (fun _ => ?_) (fun q => absurd (by decide) q)
          refine m_aload_n F rfl e_X10_readLease_65 ?_
          refine r_getC F e_X10_readLease_66 fl_X10_141 h8279 ((fld_eq (h8278.2 c (by rw [show kC c c = 1 from kC_at (k := 0) (by decide)]; decide))).trans ((fld_eq (h8273.2 c (by rw [show kC c c = 1 from kC_at (k := 0) (by decide)]; decide))).trans f8268)) ?_
          refine m_if_eq F e_X10_readLease_69 (fun _ => ?_) (fun q => absurd (by decide) q)
          refine m_iconst F (v := 4) (by decide) e_X10_readLease_73 ?_
          refine m_aload_n F rfl e_X10_readLease_74 ?_
          refine m_iconst F (v := 0) (by decide) e_X10_readLease_75 ?_
          refine r_callV F e_X10_readLease_76 (q_X10_reading0 (x_l X) V c T Z u h P8266 L _ _  h8279.1 (hob) oP8266 ) cb_X10_reading ml_X10_157 im_X10_reading se_X10_reading h8279 rfl rfl (rest := [.int 4]) rfl (Nat.le_of_ble_eq_true rfl) ⟨Nat.le_of_ble_eq_true rfl, Nat.le_of_ble_eq_true rfl⟩ ⟨Nat.le_of_ble_eq_true rfl, Nat.le_of_ble_eq_true rfl⟩ (fun r σ8282 hp => ?_)
          obtain ⟨h8283, rfl⟩ := hp
          have h8284 := HS.trans h8279 h8283 (by decide)
          refine m_iadd F e_X10_readLease_79 ?_
          refine Wm.topE (w := nI (4 + P8266.n5)) (nI_add 4 P8266.n5) ?_
          refine m_istore_n F (lv' := [(1, .int (nI (4 + P8266.n5))), (0, .ref c)]) e_X10_readLease_80 (by decide) rfl ?_
          refine m_aload_n F rfl e_X10_readLease_81 ?_
          refine r_get F e_X10_readLease_82 fl_X10_16 h8284 rfl (fun v hv f8285 => ?_)
          obtain rfl : v = .ref (c + 3) := hv
          refine m_iload_n F rfl e_X10_readLease_85 ?_
          refine m_aload_n F rfl e_X10_readLease_86 ?_
          refine r_getC F e_X10_readLease_87 fl_X10_120 h8284 ((fld_eq (h8283.2 c (by rw [show kC c c = 1 from kC_at (k := 0) (by decide)]; decide))).trans ((fld_eq (h8278.2 c (by rw [show kC c c = 1 from kC_at (k := 0) (by decide)]; decide))).trans f8275)) ?_
          refine r_iast F (g' := (⟨T, Z, u, h, P8266, L⟩ : RG)) (len := 8) (j := 4 + P8266.n5) e_X10_readLease_90 h8284 (fun _ h => h) (fun f h => ⟨f, rfl, h⟩) (by decide) (by decide) (nI_clamp (by omega)) (vp_in_nI (by omega) (by decide)) trivial (fun _ _ _ h => h) (fun _ _ _ h => h) (fun σ8286 h8287 g8288 f8289 g8290 => ?_)
          refine m_aload_n F rfl e_X10_readLease_91 ?_
          refine r_callV F e_X10_readLease_92 (q_X10_token (x_l X) V c T Z u h P8266 L _ _  h8287.1 (hob) oP8266 ) cb_X10_token ml_X10_147 im_X10_token se_X10_token h8287 rfl rfl (rest := []) rfl (Nat.le_of_ble_eq_true rfl) ⟨Nat.le_of_ble_eq_true rfl, Nat.le_of_ble_eq_true rfl⟩ ⟨Nat.le_of_ble_eq_true rfl, Nat.le_of_ble_eq_true rfl⟩ (fun r σ8291 hp => ?_)
          obtain ⟨P8294, oP8294, rP8294, pr8295, h8292, rfl⟩ := hp
          have h8293 := HS.trans h8287 h8292 (by decide)
          have xP8294 := oP8294
          unfold OKP at xP8294
          unfold RA at rP8294
          refine m_aload_n F rfl e_X10_readLease_95 ?_
          refine r_get F e_X10_readLease_96 fl_X10_19 h8293 rfl (fun v hv f8296 => ?_)
          obtain rfl : v = .ref (c + 4) := hv
          refine m_iload_n F rfl e_X10_readLease_99 ?_
          refine m_aload_n F rfl e_X10_readLease_100 ?_
          refine m_iconst F (v := 0) (by decide) e_X10_readLease_101 ?_
          refine m_bipush F (v := 20) (by decide) e_X10_readLease_102 ?_
          refine r_callV F e_X10_readLease_104 (q_X10_numeral (x_l X) V c T Z u h P8294 L _ _ 0 20 h8293.1 (hob) oP8294 (by omega) (by omega)) cb_X10_numeral ml_X10_165 im_X10_numeral se_X10_numeral h8293 rfl rfl (rest := [.int (nI (4 + P8266.n5)), .ref (c + 4)]) rfl (Nat.le_of_ble_eq_true rfl) ⟨Nat.le_of_ble_eq_true rfl, Nat.le_of_ble_eq_true rfl⟩ ⟨Nat.le_of_ble_eq_true rfl, Nat.le_of_ble_eq_true rfl⟩ (fun r σ8297 hp => ?_)
          obtain ⟨P8301, oP8301, rP8301, h8298, c8300⟩ := hp
          have h8299 := HS.trans h8293 h8298 (by decide)
          have xP8301 := oP8301
          unfold OKP at xP8301
          unfold RA at rP8301
          rcases c8300 with ⟨n8302, gn8302, hn8302, rfl⟩ | ⟨h8303, rfl⟩
          · refine r_iast F (g' := (⟨T, Z, u, h, P8301, L⟩ : RG)) (len := 8) (j := 4 + P8266.n5) e_X10_readLease_107 h8299 (fun _ h => h) (fun f h => ⟨f, rfl, h⟩) (by decide) (by decide) (nI_clamp (by omega)) (vp_in_nI (by omega) (by decide)) trivial (fun _ _ _ h => h) (fun _ _ _ h => h) (fun σ8304 h8305 g8306 f8307 g8308 => ?_)
            refine m_aload_n F rfl e_X10_readLease_108 ?_
            refine r_get F e_X10_readLease_109 fl_X10_22 h8305 rfl (fun v hv f8309 => ?_)
            obtain rfl : v = .ref (c + 5) := hv
            refine m_iload_n F rfl e_X10_readLease_112 ?_
            refine m_aload_n F rfl e_X10_readLease_113 ?_
            refine m_iconst F (v := 1) (by decide) e_X10_readLease_114 ?_
            refine m_bipush F (v := 48) (by decide) e_X10_readLease_115 ?_
            refine r_callV F e_X10_readLease_117 (q_X10_numeral (x_l X) V c T Z u h P8301 L _ _ 1 48 h8305.1 (hob) oP8301 (by omega) (by omega)) cb_X10_numeral ml_X10_165 im_X10_numeral se_X10_numeral h8305 rfl rfl (rest := [.int (nI (4 + P8266.n5)), .ref (c + 5)]) rfl (Nat.le_of_ble_eq_true rfl) ⟨Nat.le_of_ble_eq_true rfl, Nat.le_of_ble_eq_true rfl⟩ ⟨Nat.le_of_ble_eq_true rfl, Nat.le_of_ble_eq_true rfl⟩ (fun r σ8310 hp => ?_)
            obtain ⟨P8314, oP8314, rP8314, h8311, c8313⟩ := hp
            have h8312 := HS.trans h8305 h8311 (by decide)
            have xP8314 := oP8314
            unfold OKP at xP8314
            unfold RA at rP8314
            rcases c8313 with ⟨n8315, gn8315, hn8315, rfl⟩ | ⟨h8316, rfl⟩
            · refine r_iast F (g' := (⟨T, Z, u, h, (mkP P8314.n0 P8314.n2 P8314.n5 P8314.n7 P8314.m0 (P8314.n5 + 1) P8314.w2 P8314.w7 P8314.kk P8314.a), L⟩ : RG)) (len := 8) (j := 4 + P8266.n5) e_X10_readLease_120 h8312 (fun _ h => h) (fun f h => ⟨f, rfl, h⟩) (by decide) (by decide) (nI_clamp (by omega)) (vp_in_nI (by omega) (by decide)) ⟨n8315, by omega, rfl, fun h7 _ => absurd h7 (by omega), fun _ _ => by omega⟩ (fun i hi y hy => by obtain ⟨n9, a9, b9, c9, d9⟩ := hy; exact ⟨n9, a9, b9, c9, fun h7 h8 => d9 h7 (by have h6 : i < 4 + (P8314.n5 + 1) := h8; omega)⟩) (by intro i hi x hx; unfold CR at hx ⊢; split at hx <;> first | exact hx | exact absurd rfl hi) (fun σ8317 h8318 g8319 f8320 g8321 => ?_)
              obtain ⟨P8322, eP8322⟩ : ∃ P9, P9 = (mkP P8314.n0 P8314.n2 P8314.n5 P8314.n7 P8314.m0 (P8314.n5 + 1) P8314.w2 P8314.w7 P8314.kk P8314.a) := ⟨_, rfl⟩
              rw [← eP8322] at h8318
              have fP8322 : P8322.n0 = P8314.n0 ∧ P8322.n2 = P8314.n2 ∧ P8322.n5 = P8314.n5 ∧ P8322.n7 = P8314.n7 ∧ P8322.m0 = P8314.m0 ∧ P8322.m5 = P8314.n5 + 1 ∧ P8322.w2 = P8314.w2 ∧ P8322.w7 = P8314.w7 ∧ P8322.kk = P8314.kk ∧ P8322.a = P8314.a := by rw [eP8322]; exact ⟨rfl, rfl, rfl, rfl, rfl, rfl, rfl, rfl, rfl, rfl⟩
              refine m_aload_n F rfl e_X10_readLease_121 ?_
              refine r_get F e_X10_readLease_122 fl_X10_25 h8318 rfl (fun v hv f8323 => ?_)
              obtain rfl : v = .ref (c + 6) := hv
              refine m_iload_n F rfl e_X10_readLease_125 ?_
              refine m_aload_n F rfl e_X10_readLease_126 ?_
              refine m_iconst F (v := 0) (by decide) e_X10_readLease_127 ?_
              refine m_ldc F kc_X10_169 e_X10_readLease_128 ?_
              have oP8327 : OKP P8322 := by unfold OKP; omega
              refine r_callV F e_X10_readLease_130 (q_X10_numeral (x_l X) V c T Z u h P8322 L _ _ 0 200000 h8318.1 (hob) oP8327 (by omega) (by omega)) cb_X10_numeral ml_X10_165 im_X10_numeral se_X10_numeral h8318 rfl rfl (rest := [.int (nI (4 + P8266.n5)), .ref (c + 6)]) rfl (Nat.le_of_ble_eq_true rfl) ⟨Nat.le_of_ble_eq_true rfl, Nat.le_of_ble_eq_true rfl⟩ ⟨Nat.le_of_ble_eq_true rfl, Nat.le_of_ble_eq_true rfl⟩ (fun r σ8324 hp => ?_)
              obtain ⟨P8329, oP8329, rP8329, h8325, c8328⟩ := hp
              have h8326 := HS.trans h8318 h8325 (by decide)
              have xP8329 := oP8329
              unfold OKP at xP8329
              unfold RA at rP8329
              rcases c8328 with ⟨n8330, gn8330, hn8330, rfl⟩ | ⟨h8331, rfl⟩
              · refine r_iast F (g' := (⟨T, Z, u, h, P8329, L⟩ : RG)) (len := 8) (j := 4 + P8266.n5) e_X10_readLease_133 h8326 (fun _ h => h) (fun f h => ⟨f, rfl, h⟩) (by decide) (by decide) (nI_clamp (by omega)) (vp_in_nI (by omega) (by decide)) ⟨n8330, by omega, rfl⟩ (fun _ _ _ h => h) (fun _ _ _ h => h) (fun σ8332 h8333 g8334 f8335 g8336 => ?_)
                refine m_aload_n F rfl e_X10_readLease_134 ?_
                refine r_get F e_X10_readLease_135 fl_X10_28 h8333 rfl (fun v hv f8337 => ?_)
                obtain rfl : v = .ref (c + 7) := hv
                refine m_iload_n F rfl e_X10_readLease_138 ?_
                refine m_iconst F (v := 0) (by decide) e_X10_readLease_139 ?_
                refine r_iast F (g' := (⟨T, Z, u, h, P8329, L⟩ : RG)) (len := 8) (j := 4 + P8266.n5) e_X10_readLease_140 h8333 (fun _ h => h) (fun f h => ⟨f, rfl, h⟩) (by decide) (by decide) (nI_clamp (by omega)) (vp_in_nI (by omega) (by decide)) trivial (fun _ _ _ h => h) (fun _ _ _ h => h) (fun σ8338 h8339 g8340 f8341 g8342 => ?_)
                refine m_aload_n F rfl e_X10_readLease_141 ?_
                refine r_get F e_X10_readLease_142 fl_X10_31 h8339 rfl (fun v hv f8343 => ?_)
                obtain rfl : v = .ref (c + 8) := hv
                refine m_iload_n F rfl e_X10_readLease_145 ?_
                refine m_iconst F (v := 0) (by decide) e_X10_readLease_146 ?_
                refine r_iast F (g' := (⟨T, Z, u, h, P8329, L⟩ : RG)) (len := 8) (j := 4 + P8266.n5) e_X10_readLease_147 h8339 (fun _ h => h) (fun f h => ⟨f, rfl, h⟩) (by decide) (by decide) (nI_clamp (by omega)) (vp_in_nI (by omega) (by decide)) trivial (fun _ _ _ h => h) (fun _ _ _ h => h) (fun σ8344 h8345 g8346 f8347 g8348 => ?_)
                refine m_aload_n F rfl e_X10_readLease_148 ?_
                refine r_get F e_X10_readLease_149 fl_X10_34 h8345 rfl (fun v hv f8349 => ?_)
                obtain rfl : v = .ref (c + 9) := hv
                refine m_iload_n F rfl e_X10_readLease_152 ?_
                refine m_iconst F (v := 0) (by decide) e_X10_readLease_153 ?_
                refine r_iast F (g' := (⟨T, Z, u, h, P8329, L⟩ : RG)) (len := 8) (j := 4 + P8266.n5) e_X10_readLease_154 h8345 (fun _ h => h) (fun f h => ⟨f, rfl, h⟩) (by decide) (by decide) (nI_clamp (by omega)) (vp_in_nI (by omega) (by decide)) trivial (fun _ _ _ h => h) (fun _ _ _ h => h) (fun σ8350 h8351 g8352 f8353 g8354 => ?_)
                refine m_iconst F (v := 0) (by decide) e_X10_readLease_155 ?_
                refine m_istore_n F (lv' := [(2, .int 0), (1, .int (nI (4 + P8266.n5))), (0, .ref c)]) e_X10_readLease_156 (by decide) rfl ?_
                refine Wm.lvsub (lv' := [(0, .ref c), (1, .int (nI (4 + P8266.n5))), (2, .int 0)]) ?_ [2, 1, 0] rfl
                exact lq_X10_readLease_157 F hQ hob hP  (48 - 0 + 1) (4 + P8266.n5) 0 P8329 _ h8351 oP8329 (by unfold RP; omega) (by omega) (Nat.lt_succ_self _)
              · have h8355 : HS V c (⟨T, 0, u, h, P8329, L⟩ : RG) [0, 2, 12, 13, 14, 15, 16, 17, 18, 19, 20, 21, 22, 23] _ _ := ⟨h8331, h8326.2⟩
                refine r_iast F (g' := (⟨T, 0, u, h, P8329, L⟩ : RG)) (len := 8) (j := 4 + P8266.n5) e_X10_readLease_133 h8355 (fun _ h => h) (fun f h => ⟨f, rfl, h⟩) (by decide) (by decide) (nI_clamp (by omega)) (vp_in_nI (by omega) (by decide)) ⟨0, by omega, rfl⟩ (fun _ _ _ h => h) (fun _ _ _ h => h) (fun σ8356 h8357 g8358 f8359 g8360 => ?_)
                refine m_aload_n F rfl e_X10_readLease_134 ?_
                refine r_get F e_X10_readLease_135 fl_X10_28 h8357 rfl (fun v hv f8361 => ?_)
                obtain rfl : v = .ref (c + 7) := hv
                refine m_iload_n F rfl e_X10_readLease_138 ?_
                refine m_iconst F (v := 0) (by decide) e_X10_readLease_139 ?_
                refine r_iast F (g' := (⟨T, 0, u, h, P8329, L⟩ : RG)) (len := 8) (j := 4 + P8266.n5) e_X10_readLease_140 h8357 (fun _ h => h) (fun f h => ⟨f, rfl, h⟩) (by decide) (by decide) (nI_clamp (by omega)) (vp_in_nI (by omega) (by decide)) trivial (fun _ _ _ h => h) (fun _ _ _ h => h) (fun σ8362 h8363 g8364 f8365 g8366 => ?_)
                refine m_aload_n F rfl e_X10_readLease_141 ?_
                refine r_get F e_X10_readLease_142 fl_X10_31 h8363 rfl (fun v hv f8367 => ?_)
                obtain rfl : v = .ref (c + 8) := hv
                refine m_iload_n F rfl e_X10_readLease_145 ?_
                refine m_iconst F (v := 0) (by decide) e_X10_readLease_146 ?_
                refine r_iast F (g' := (⟨T, 0, u, h, P8329, L⟩ : RG)) (len := 8) (j := 4 + P8266.n5) e_X10_readLease_147 h8363 (fun _ h => h) (fun f h => ⟨f, rfl, h⟩) (by decide) (by decide) (nI_clamp (by omega)) (vp_in_nI (by omega) (by decide)) trivial (fun _ _ _ h => h) (fun _ _ _ h => h) (fun σ8368 h8369 g8370 f8371 g8372 => ?_)
                refine m_aload_n F rfl e_X10_readLease_148 ?_
                refine r_get F e_X10_readLease_149 fl_X10_34 h8369 rfl (fun v hv f8373 => ?_)
                obtain rfl : v = .ref (c + 9) := hv
                refine m_iload_n F rfl e_X10_readLease_152 ?_
                refine m_iconst F (v := 0) (by decide) e_X10_readLease_153 ?_
                refine r_iast F (g' := (⟨T, 0, u, h, P8329, L⟩ : RG)) (len := 8) (j := 4 + P8266.n5) e_X10_readLease_154 h8369 (fun _ h => h) (fun f h => ⟨f, rfl, h⟩) (by decide) (by decide) (nI_clamp (by omega)) (vp_in_nI (by omega) (by decide)) trivial (fun _ _ _ h => h) (fun _ _ _ h => h) (fun σ8374 h8375 g8376 f8377 g8378 => ?_)
                refine m_iconst F (v := 0) (by decide) e_X10_readLease_155 ?_
                refine m_istore_n F (lv' := [(2, .int 0), (1, .int (nI (4 + P8266.n5))), (0, .ref c)]) e_X10_readLease_156 (by decide) rfl ?_
                refine Wm.lvsub (lv' := [(0, .ref c), (1, .int (nI (4 + P8266.n5))), (2, .int 0)]) ?_ [2, 1, 0] rfl
                exact lq_X10_readLease_157 F hQ hob hP  (48 - 0 + 1) (4 + P8266.n5) 0 P8329 _ ⟨HR.mono (Z' := Z) (by intro e9; first | rfl | assumption | omega) h8375.1, h8375.2⟩ oP8329 (by unfold RP; omega) (by omega) (Nat.lt_succ_self _)
            · have h8379 : HS V c (⟨T, 0, u, h, P8314, L⟩ : RG) [0, 2, 12, 13, 14, 15, 16, 17, 18, 19, 20, 21, 22, 23] _ _ := ⟨h8316, h8312.2⟩
              refine r_iast F (g' := (⟨T, 0, u, h, (mkP P8314.n0 P8314.n2 P8314.n5 P8314.n7 P8314.m0 (P8314.n5 + 1) P8314.w2 P8314.w7 P8314.kk P8314.a), L⟩ : RG)) (len := 8) (j := 4 + P8266.n5) e_X10_readLease_120 h8379 (fun _ h => h) (fun f h => ⟨f, rfl, h⟩) (by decide) (by decide) (nI_clamp (by omega)) (vp_in_nI (by omega) (by decide)) ⟨1, by omega, rfl, fun h7 _ => absurd h7 (by omega), fun _ _ => by omega⟩ (fun i hi y hy => by obtain ⟨n9, a9, b9, c9, d9⟩ := hy; exact ⟨n9, a9, b9, c9, fun h7 h8 => d9 h7 (by have h6 : i < 4 + (P8314.n5 + 1) := h8; omega)⟩) (by intro i hi x hx; unfold CR at hx ⊢; split at hx <;> first | exact hx | exact absurd rfl hi) (fun σ8380 h8381 g8382 f8383 g8384 => ?_)
              obtain ⟨P8385, eP8385⟩ : ∃ P9, P9 = (mkP P8314.n0 P8314.n2 P8314.n5 P8314.n7 P8314.m0 (P8314.n5 + 1) P8314.w2 P8314.w7 P8314.kk P8314.a) := ⟨_, rfl⟩
              rw [← eP8385] at h8381
              have fP8385 : P8385.n0 = P8314.n0 ∧ P8385.n2 = P8314.n2 ∧ P8385.n5 = P8314.n5 ∧ P8385.n7 = P8314.n7 ∧ P8385.m0 = P8314.m0 ∧ P8385.m5 = P8314.n5 + 1 ∧ P8385.w2 = P8314.w2 ∧ P8385.w7 = P8314.w7 ∧ P8385.kk = P8314.kk ∧ P8385.a = P8314.a := by rw [eP8385]; exact ⟨rfl, rfl, rfl, rfl, rfl, rfl, rfl, rfl, rfl, rfl⟩
              refine m_aload_n F rfl e_X10_readLease_121 ?_
              refine r_get F e_X10_readLease_122 fl_X10_25 h8381 rfl (fun v hv f8386 => ?_)
              obtain rfl : v = .ref (c + 6) := hv
              refine m_iload_n F rfl e_X10_readLease_125 ?_
              refine m_aload_n F rfl e_X10_readLease_126 ?_
              refine m_iconst F (v := 0) (by decide) e_X10_readLease_127 ?_
              refine m_ldc F kc_X10_169 e_X10_readLease_128 ?_
              have oP8390 : OKP P8385 := by unfold OKP; omega
              refine r_callV F e_X10_readLease_130 (q_X10_numeral (x_l X) V c T 0 u h P8385 L _ _ 0 200000 h8381.1 (hob) oP8390 (by omega) (by omega)) cb_X10_numeral ml_X10_165 im_X10_numeral se_X10_numeral h8381 rfl rfl (rest := [.int (nI (4 + P8266.n5)), .ref (c + 6)]) rfl (Nat.le_of_ble_eq_true rfl) ⟨Nat.le_of_ble_eq_true rfl, Nat.le_of_ble_eq_true rfl⟩ ⟨Nat.le_of_ble_eq_true rfl, Nat.le_of_ble_eq_true rfl⟩ (fun r σ8387 hp => ?_)
              obtain ⟨P8392, oP8392, rP8392, h8388, c8391⟩ := hp
              have h8389 := HS.trans h8381 h8388 (by decide)
              have xP8392 := oP8392
              unfold OKP at xP8392
              unfold RA at rP8392
              rcases c8391 with ⟨n8393, gn8393, hn8393, rfl⟩ | ⟨h8394, rfl⟩
              · refine r_iast F (g' := (⟨T, 0, u, h, P8392, L⟩ : RG)) (len := 8) (j := 4 + P8266.n5) e_X10_readLease_133 h8389 (fun _ h => h) (fun f h => ⟨f, rfl, h⟩) (by decide) (by decide) (nI_clamp (by omega)) (vp_in_nI (by omega) (by decide)) ⟨n8393, by omega, rfl⟩ (fun _ _ _ h => h) (fun _ _ _ h => h) (fun σ8395 h8396 g8397 f8398 g8399 => ?_)
                refine m_aload_n F rfl e_X10_readLease_134 ?_
                refine r_get F e_X10_readLease_135 fl_X10_28 h8396 rfl (fun v hv f8400 => ?_)
                obtain rfl : v = .ref (c + 7) := hv
                refine m_iload_n F rfl e_X10_readLease_138 ?_
                refine m_iconst F (v := 0) (by decide) e_X10_readLease_139 ?_
                refine r_iast F (g' := (⟨T, 0, u, h, P8392, L⟩ : RG)) (len := 8) (j := 4 + P8266.n5) e_X10_readLease_140 h8396 (fun _ h => h) (fun f h => ⟨f, rfl, h⟩) (by decide) (by decide) (nI_clamp (by omega)) (vp_in_nI (by omega) (by decide)) trivial (fun _ _ _ h => h) (fun _ _ _ h => h) (fun σ8401 h8402 g8403 f8404 g8405 => ?_)
                refine m_aload_n F rfl e_X10_readLease_141 ?_
                refine r_get F e_X10_readLease_142 fl_X10_31 h8402 rfl (fun v hv f8406 => ?_)
                obtain rfl : v = .ref (c + 8) := hv
                refine m_iload_n F rfl e_X10_readLease_145 ?_
                refine m_iconst F (v := 0) (by decide) e_X10_readLease_146 ?_
                refine r_iast F (g' := (⟨T, 0, u, h, P8392, L⟩ : RG)) (len := 8) (j := 4 + P8266.n5) e_X10_readLease_147 h8402 (fun _ h => h) (fun f h => ⟨f, rfl, h⟩) (by decide) (by decide) (nI_clamp (by omega)) (vp_in_nI (by omega) (by decide)) trivial (fun _ _ _ h => h) (fun _ _ _ h => h) (fun σ8407 h8408 g8409 f8410 g8411 => ?_)
                refine m_aload_n F rfl e_X10_readLease_148 ?_
                refine r_get F e_X10_readLease_149 fl_X10_34 h8408 rfl (fun v hv f8412 => ?_)
                obtain rfl : v = .ref (c + 9) := hv
                refine m_iload_n F rfl e_X10_readLease_152 ?_
                refine m_iconst F (v := 0) (by decide) e_X10_readLease_153 ?_
                refine r_iast F (g' := (⟨T, 0, u, h, P8392, L⟩ : RG)) (len := 8) (j := 4 + P8266.n5) e_X10_readLease_154 h8408 (fun _ h => h) (fun f h => ⟨f, rfl, h⟩) (by decide) (by decide) (nI_clamp (by omega)) (vp_in_nI (by omega) (by decide)) trivial (fun _ _ _ h => h) (fun _ _ _ h => h) (fun σ8413 h8414 g8415 f8416 g8417 => ?_)
                refine m_iconst F (v := 0) (by decide) e_X10_readLease_155 ?_
                refine m_istore_n F (lv' := [(2, .int 0), (1, .int (nI (4 + P8266.n5))), (0, .ref c)]) e_X10_readLease_156 (by decide) rfl ?_
                refine Wm.lvsub (lv' := [(0, .ref c), (1, .int (nI (4 + P8266.n5))), (2, .int 0)]) ?_ [2, 1, 0] rfl
                exact lq_X10_readLease_157 F hQ hob hP  (48 - 0 + 1) (4 + P8266.n5) 0 P8392 _ ⟨HR.mono (Z' := Z) (by intro e9; first | rfl | assumption | omega) h8414.1, h8414.2⟩ oP8392 (by unfold RP; omega) (by omega) (Nat.lt_succ_self _)
              · have h8418 : HS V c (⟨T, 0, u, h, P8392, L⟩ : RG) [0, 2, 12, 13, 14, 15, 16, 17, 18, 19, 20, 21, 22, 23] _ _ := ⟨h8394, h8389.2⟩
                refine r_iast F (g' := (⟨T, 0, u, h, P8392, L⟩ : RG)) (len := 8) (j := 4 + P8266.n5) e_X10_readLease_133 h8418 (fun _ h => h) (fun f h => ⟨f, rfl, h⟩) (by decide) (by decide) (nI_clamp (by omega)) (vp_in_nI (by omega) (by decide)) ⟨0, by omega, rfl⟩ (fun _ _ _ h => h) (fun _ _ _ h => h) (fun σ8419 h8420 g8421 f8422 g8423 => ?_)
                refine m_aload_n F rfl e_X10_readLease_134 ?_
                refine r_get F e_X10_readLease_135 fl_X10_28 h8420 rfl (fun v hv f8424 => ?_)
                obtain rfl : v = .ref (c + 7) := hv
                refine m_iload_n F rfl e_X10_readLease_138 ?_
                refine m_iconst F (v := 0) (by decide) e_X10_readLease_139 ?_
                refine r_iast F (g' := (⟨T, 0, u, h, P8392, L⟩ : RG)) (len := 8) (j := 4 + P8266.n5) e_X10_readLease_140 h8420 (fun _ h => h) (fun f h => ⟨f, rfl, h⟩) (by decide) (by decide) (nI_clamp (by omega)) (vp_in_nI (by omega) (by decide)) trivial (fun _ _ _ h => h) (fun _ _ _ h => h) (fun σ8425 h8426 g8427 f8428 g8429 => ?_)
                refine m_aload_n F rfl e_X10_readLease_141 ?_
                refine r_get F e_X10_readLease_142 fl_X10_31 h8426 rfl (fun v hv f8430 => ?_)
                obtain rfl : v = .ref (c + 8) := hv
                refine m_iload_n F rfl e_X10_readLease_145 ?_
                refine m_iconst F (v := 0) (by decide) e_X10_readLease_146 ?_
                refine r_iast F (g' := (⟨T, 0, u, h, P8392, L⟩ : RG)) (len := 8) (j := 4 + P8266.n5) e_X10_readLease_147 h8426 (fun _ h => h) (fun f h => ⟨f, rfl, h⟩) (by decide) (by decide) (nI_clamp (by omega)) (vp_in_nI (by omega) (by decide)) trivial (fun _ _ _ h => h) (fun _ _ _ h => h) (fun σ8431 h8432 g8433 f8434 g8435 => ?_)
                refine m_aload_n F rfl e_X10_readLease_148 ?_
                refine r_get F e_X10_readLease_149 fl_X10_34 h8432 rfl (fun v hv f8436 => ?_)
                obtain rfl : v = .ref (c + 9) := hv
                refine m_iload_n F rfl e_X10_readLease_152 ?_
                refine m_iconst F (v := 0) (by decide) e_X10_readLease_153 ?_
                refine r_iast F (g' := (⟨T, 0, u, h, P8392, L⟩ : RG)) (len := 8) (j := 4 + P8266.n5) e_X10_readLease_154 h8432 (fun _ h => h) (fun f h => ⟨f, rfl, h⟩) (by decide) (by decide) (nI_clamp (by omega)) (vp_in_nI (by omega) (by decide)) trivial (fun _ _ _ h => h) (fun _ _ _ h => h) (fun σ8437 h8438 g8439 f8440 g8441 => ?_)
                refine m_iconst F (v := 0) (by decide) e_X10_readLease_155 ?_
                refine m_istore_n F (lv' := [(2, .int 0), (1, .int (nI (4 + P8266.n5))), (0, .ref c)]) e_X10_readLease_156 (by decide) rfl ?_
                refine Wm.lvsub (lv' := [(0, .ref c), (1, .int (nI (4 + P8266.n5))), (2, .int 0)]) ?_ [2, 1, 0] rfl
                exact lq_X10_readLease_157 F hQ hob hP  (48 - 0 + 1) (4 + P8266.n5) 0 P8392 _ ⟨HR.mono (Z' := Z) (by intro e9; first | rfl | assumption | omega) h8438.1, h8438.2⟩ oP8392 (by unfold RP; omega) (by omega) (Nat.lt_succ_self _)
          · have h8442 : HS V c (⟨T, 0, u, h, P8301, L⟩ : RG) [0, 2, 12, 13, 14, 15, 16, 17, 18, 19, 20, 21, 22, 23] _ _ := ⟨h8303, h8299.2⟩
            refine r_iast F (g' := (⟨T, 0, u, h, P8301, L⟩ : RG)) (len := 8) (j := 4 + P8266.n5) e_X10_readLease_107 h8442 (fun _ h => h) (fun f h => ⟨f, rfl, h⟩) (by decide) (by decide) (nI_clamp (by omega)) (vp_in_nI (by omega) (by decide)) trivial (fun _ _ _ h => h) (fun _ _ _ h => h) (fun σ8443 h8444 g8445 f8446 g8447 => ?_)
            refine m_aload_n F rfl e_X10_readLease_108 ?_
            refine r_get F e_X10_readLease_109 fl_X10_22 h8444 rfl (fun v hv f8448 => ?_)
            obtain rfl : v = .ref (c + 5) := hv
            refine m_iload_n F rfl e_X10_readLease_112 ?_
            refine m_aload_n F rfl e_X10_readLease_113 ?_
            refine m_iconst F (v := 1) (by decide) e_X10_readLease_114 ?_
            refine m_bipush F (v := 48) (by decide) e_X10_readLease_115 ?_
            refine r_callV F e_X10_readLease_117 (q_X10_numeral (x_l X) V c T 0 u h P8301 L _ _ 1 48 h8444.1 (hob) oP8301 (by omega) (by omega)) cb_X10_numeral ml_X10_165 im_X10_numeral se_X10_numeral h8444 rfl rfl (rest := [.int (nI (4 + P8266.n5)), .ref (c + 5)]) rfl (Nat.le_of_ble_eq_true rfl) ⟨Nat.le_of_ble_eq_true rfl, Nat.le_of_ble_eq_true rfl⟩ ⟨Nat.le_of_ble_eq_true rfl, Nat.le_of_ble_eq_true rfl⟩ (fun r σ8449 hp => ?_)
            obtain ⟨P8453, oP8453, rP8453, h8450, c8452⟩ := hp
            have h8451 := HS.trans h8444 h8450 (by decide)
            have xP8453 := oP8453
            unfold OKP at xP8453
            unfold RA at rP8453
            rcases c8452 with ⟨n8454, gn8454, hn8454, rfl⟩ | ⟨h8455, rfl⟩
            · refine r_iast F (g' := (⟨T, 0, u, h, (mkP P8453.n0 P8453.n2 P8453.n5 P8453.n7 P8453.m0 (P8453.n5 + 1) P8453.w2 P8453.w7 P8453.kk P8453.a), L⟩ : RG)) (len := 8) (j := 4 + P8266.n5) e_X10_readLease_120 h8451 (fun _ h => h) (fun f h => ⟨f, rfl, h⟩) (by decide) (by decide) (nI_clamp (by omega)) (vp_in_nI (by omega) (by decide)) ⟨n8454, by omega, rfl, fun h7 _ => absurd h7 (by omega), fun _ _ => by omega⟩ (fun i hi y hy => by obtain ⟨n9, a9, b9, c9, d9⟩ := hy; exact ⟨n9, a9, b9, c9, fun h7 h8 => d9 h7 (by have h6 : i < 4 + (P8453.n5 + 1) := h8; omega)⟩) (by intro i hi x hx; unfold CR at hx ⊢; split at hx <;> first | exact hx | exact absurd rfl hi) (fun σ8456 h8457 g8458 f8459 g8460 => ?_)
              obtain ⟨P8461, eP8461⟩ : ∃ P9, P9 = (mkP P8453.n0 P8453.n2 P8453.n5 P8453.n7 P8453.m0 (P8453.n5 + 1) P8453.w2 P8453.w7 P8453.kk P8453.a) := ⟨_, rfl⟩
              rw [← eP8461] at h8457
              have fP8461 : P8461.n0 = P8453.n0 ∧ P8461.n2 = P8453.n2 ∧ P8461.n5 = P8453.n5 ∧ P8461.n7 = P8453.n7 ∧ P8461.m0 = P8453.m0 ∧ P8461.m5 = P8453.n5 + 1 ∧ P8461.w2 = P8453.w2 ∧ P8461.w7 = P8453.w7 ∧ P8461.kk = P8453.kk ∧ P8461.a = P8453.a := by rw [eP8461]; exact ⟨rfl, rfl, rfl, rfl, rfl, rfl, rfl, rfl, rfl, rfl⟩
              refine m_aload_n F rfl e_X10_readLease_121 ?_
              refine r_get F e_X10_readLease_122 fl_X10_25 h8457 rfl (fun v hv f8462 => ?_)
              obtain rfl : v = .ref (c + 6) := hv
              refine m_iload_n F rfl e_X10_readLease_125 ?_
              refine m_aload_n F rfl e_X10_readLease_126 ?_
              refine m_iconst F (v := 0) (by decide) e_X10_readLease_127 ?_
              refine m_ldc F kc_X10_169 e_X10_readLease_128 ?_
              have oP8466 : OKP P8461 := by unfold OKP; omega
              refine r_callV F e_X10_readLease_130 (q_X10_numeral (x_l X) V c T 0 u h P8461 L _ _ 0 200000 h8457.1 (hob) oP8466 (by omega) (by omega)) cb_X10_numeral ml_X10_165 im_X10_numeral se_X10_numeral h8457 rfl rfl (rest := [.int (nI (4 + P8266.n5)), .ref (c + 6)]) rfl (Nat.le_of_ble_eq_true rfl) ⟨Nat.le_of_ble_eq_true rfl, Nat.le_of_ble_eq_true rfl⟩ ⟨Nat.le_of_ble_eq_true rfl, Nat.le_of_ble_eq_true rfl⟩ (fun r σ8463 hp => ?_)
              obtain ⟨P8468, oP8468, rP8468, h8464, c8467⟩ := hp
              have h8465 := HS.trans h8457 h8464 (by decide)
              have xP8468 := oP8468
              unfold OKP at xP8468
              unfold RA at rP8468
              rcases c8467 with ⟨n8469, gn8469, hn8469, rfl⟩ | ⟨h8470, rfl⟩
              · refine r_iast F (g' := (⟨T, 0, u, h, P8468, L⟩ : RG)) (len := 8) (j := 4 + P8266.n5) e_X10_readLease_133 h8465 (fun _ h => h) (fun f h => ⟨f, rfl, h⟩) (by decide) (by decide) (nI_clamp (by omega)) (vp_in_nI (by omega) (by decide)) ⟨n8469, by omega, rfl⟩ (fun _ _ _ h => h) (fun _ _ _ h => h) (fun σ8471 h8472 g8473 f8474 g8475 => ?_)
                refine m_aload_n F rfl e_X10_readLease_134 ?_
                refine r_get F e_X10_readLease_135 fl_X10_28 h8472 rfl (fun v hv f8476 => ?_)
                obtain rfl : v = .ref (c + 7) := hv
                refine m_iload_n F rfl e_X10_readLease_138 ?_
                refine m_iconst F (v := 0) (by decide) e_X10_readLease_139 ?_
                refine r_iast F (g' := (⟨T, 0, u, h, P8468, L⟩ : RG)) (len := 8) (j := 4 + P8266.n5) e_X10_readLease_140 h8472 (fun _ h => h) (fun f h => ⟨f, rfl, h⟩) (by decide) (by decide) (nI_clamp (by omega)) (vp_in_nI (by omega) (by decide)) trivial (fun _ _ _ h => h) (fun _ _ _ h => h) (fun σ8477 h8478 g8479 f8480 g8481 => ?_)
                refine m_aload_n F rfl e_X10_readLease_141 ?_
                refine r_get F e_X10_readLease_142 fl_X10_31 h8478 rfl (fun v hv f8482 => ?_)
                obtain rfl : v = .ref (c + 8) := hv
                refine m_iload_n F rfl e_X10_readLease_145 ?_
                refine m_iconst F (v := 0) (by decide) e_X10_readLease_146 ?_
                refine r_iast F (g' := (⟨T, 0, u, h, P8468, L⟩ : RG)) (len := 8) (j := 4 + P8266.n5) e_X10_readLease_147 h8478 (fun _ h => h) (fun f h => ⟨f, rfl, h⟩) (by decide) (by decide) (nI_clamp (by omega)) (vp_in_nI (by omega) (by decide)) trivial (fun _ _ _ h => h) (fun _ _ _ h => h) (fun σ8483 h8484 g8485 f8486 g8487 => ?_)
                refine m_aload_n F rfl e_X10_readLease_148 ?_
                refine r_get F e_X10_readLease_149 fl_X10_34 h8484 rfl (fun v hv f8488 => ?_)
                obtain rfl : v = .ref (c + 9) := hv
                refine m_iload_n F rfl e_X10_readLease_152 ?_
                refine m_iconst F (v := 0) (by decide) e_X10_readLease_153 ?_
                refine r_iast F (g' := (⟨T, 0, u, h, P8468, L⟩ : RG)) (len := 8) (j := 4 + P8266.n5) e_X10_readLease_154 h8484 (fun _ h => h) (fun f h => ⟨f, rfl, h⟩) (by decide) (by decide) (nI_clamp (by omega)) (vp_in_nI (by omega) (by decide)) trivial (fun _ _ _ h => h) (fun _ _ _ h => h) (fun σ8489 h8490 g8491 f8492 g8493 => ?_)
                refine m_iconst F (v := 0) (by decide) e_X10_readLease_155 ?_
                refine m_istore_n F (lv' := [(2, .int 0), (1, .int (nI (4 + P8266.n5))), (0, .ref c)]) e_X10_readLease_156 (by decide) rfl ?_
                refine Wm.lvsub (lv' := [(0, .ref c), (1, .int (nI (4 + P8266.n5))), (2, .int 0)]) ?_ [2, 1, 0] rfl
                exact lq_X10_readLease_157 F hQ hob hP  (48 - 0 + 1) (4 + P8266.n5) 0 P8468 _ ⟨HR.mono (Z' := Z) (by intro e9; first | rfl | assumption | omega) h8490.1, h8490.2⟩ oP8468 (by unfold RP; omega) (by omega) (Nat.lt_succ_self _)
              · have h8494 : HS V c (⟨T, 0, u, h, P8468, L⟩ : RG) [0, 2, 12, 13, 14, 15, 16, 17, 18, 19, 20, 21, 22, 23] _ _ := ⟨h8470, h8465.2⟩
                refine r_iast F (g' := (⟨T, 0, u, h, P8468, L⟩ : RG)) (len := 8) (j := 4 + P8266.n5) e_X10_readLease_133 h8494 (fun _ h => h) (fun f h => ⟨f, rfl, h⟩) (by decide) (by decide) (nI_clamp (by omega)) (vp_in_nI (by omega) (by decide)) ⟨0, by omega, rfl⟩ (fun _ _ _ h => h) (fun _ _ _ h => h) (fun σ8495 h8496 g8497 f8498 g8499 => ?_)
                refine m_aload_n F rfl e_X10_readLease_134 ?_
                refine r_get F e_X10_readLease_135 fl_X10_28 h8496 rfl (fun v hv f8500 => ?_)
                obtain rfl : v = .ref (c + 7) := hv
                refine m_iload_n F rfl e_X10_readLease_138 ?_
                refine m_iconst F (v := 0) (by decide) e_X10_readLease_139 ?_
                refine r_iast F (g' := (⟨T, 0, u, h, P8468, L⟩ : RG)) (len := 8) (j := 4 + P8266.n5) e_X10_readLease_140 h8496 (fun _ h => h) (fun f h => ⟨f, rfl, h⟩) (by decide) (by decide) (nI_clamp (by omega)) (vp_in_nI (by omega) (by decide)) trivial (fun _ _ _ h => h) (fun _ _ _ h => h) (fun σ8501 h8502 g8503 f8504 g8505 => ?_)
                refine m_aload_n F rfl e_X10_readLease_141 ?_
                refine r_get F e_X10_readLease_142 fl_X10_31 h8502 rfl (fun v hv f8506 => ?_)
                obtain rfl : v = .ref (c + 8) := hv
                refine m_iload_n F rfl e_X10_readLease_145 ?_
                refine m_iconst F (v := 0) (by decide) e_X10_readLease_146 ?_
                refine r_iast F (g' := (⟨T, 0, u, h, P8468, L⟩ : RG)) (len := 8) (j := 4 + P8266.n5) e_X10_readLease_147 h8502 (fun _ h => h) (fun f h => ⟨f, rfl, h⟩) (by decide) (by decide) (nI_clamp (by omega)) (vp_in_nI (by omega) (by decide)) trivial (fun _ _ _ h => h) (fun _ _ _ h => h) (fun σ8507 h8508 g8509 f8510 g8511 => ?_)
                refine m_aload_n F rfl e_X10_readLease_148 ?_
                refine r_get F e_X10_readLease_149 fl_X10_34 h8508 rfl (fun v hv f8512 => ?_)
                obtain rfl : v = .ref (c + 9) := hv
                refine m_iload_n F rfl e_X10_readLease_152 ?_
                refine m_iconst F (v := 0) (by decide) e_X10_readLease_153 ?_
                refine r_iast F (g' := (⟨T, 0, u, h, P8468, L⟩ : RG)) (len := 8) (j := 4 + P8266.n5) e_X10_readLease_154 h8508 (fun _ h => h) (fun f h => ⟨f, rfl, h⟩) (by decide) (by decide) (nI_clamp (by omega)) (vp_in_nI (by omega) (by decide)) trivial (fun _ _ _ h => h) (fun _ _ _ h => h) (fun σ8513 h8514 g8515 f8516 g8517 => ?_)
                refine m_iconst F (v := 0) (by decide) e_X10_readLease_155 ?_
                refine m_istore_n F (lv' := [(2, .int 0), (1, .int (nI (4 + P8266.n5))), (0, .ref c)]) e_X10_readLease_156 (by decide) rfl ?_
                refine Wm.lvsub (lv' := [(0, .ref c), (1, .int (nI (4 + P8266.n5))), (2, .int 0)]) ?_ [2, 1, 0] rfl
                exact lq_X10_readLease_157 F hQ hob hP  (48 - 0 + 1) (4 + P8266.n5) 0 P8468 _ ⟨HR.mono (Z' := Z) (by intro e9; first | rfl | assumption | omega) h8514.1, h8514.2⟩ oP8468 (by unfold RP; omega) (by omega) (Nat.lt_succ_self _)
            · have h8518 : HS V c (⟨T, 0, u, h, P8453, L⟩ : RG) [0, 2, 12, 13, 14, 15, 16, 17, 18, 19, 20, 21, 22, 23] _ _ := ⟨h8455, h8451.2⟩
              refine r_iast F (g' := (⟨T, 0, u, h, (mkP P8453.n0 P8453.n2 P8453.n5 P8453.n7 P8453.m0 (P8453.n5 + 1) P8453.w2 P8453.w7 P8453.kk P8453.a), L⟩ : RG)) (len := 8) (j := 4 + P8266.n5) e_X10_readLease_120 h8518 (fun _ h => h) (fun f h => ⟨f, rfl, h⟩) (by decide) (by decide) (nI_clamp (by omega)) (vp_in_nI (by omega) (by decide)) ⟨1, by omega, rfl, fun h7 _ => absurd h7 (by omega), fun _ _ => by omega⟩ (fun i hi y hy => by obtain ⟨n9, a9, b9, c9, d9⟩ := hy; exact ⟨n9, a9, b9, c9, fun h7 h8 => d9 h7 (by have h6 : i < 4 + (P8453.n5 + 1) := h8; omega)⟩) (by intro i hi x hx; unfold CR at hx ⊢; split at hx <;> first | exact hx | exact absurd rfl hi) (fun σ8519 h8520 g8521 f8522 g8523 => ?_)
              obtain ⟨P8524, eP8524⟩ : ∃ P9, P9 = (mkP P8453.n0 P8453.n2 P8453.n5 P8453.n7 P8453.m0 (P8453.n5 + 1) P8453.w2 P8453.w7 P8453.kk P8453.a) := ⟨_, rfl⟩
              rw [← eP8524] at h8520
              have fP8524 : P8524.n0 = P8453.n0 ∧ P8524.n2 = P8453.n2 ∧ P8524.n5 = P8453.n5 ∧ P8524.n7 = P8453.n7 ∧ P8524.m0 = P8453.m0 ∧ P8524.m5 = P8453.n5 + 1 ∧ P8524.w2 = P8453.w2 ∧ P8524.w7 = P8453.w7 ∧ P8524.kk = P8453.kk ∧ P8524.a = P8453.a := by rw [eP8524]; exact ⟨rfl, rfl, rfl, rfl, rfl, rfl, rfl, rfl, rfl, rfl⟩
              refine m_aload_n F rfl e_X10_readLease_121 ?_
              refine r_get F e_X10_readLease_122 fl_X10_25 h8520 rfl (fun v hv f8525 => ?_)
              obtain rfl : v = .ref (c + 6) := hv
              refine m_iload_n F rfl e_X10_readLease_125 ?_
              refine m_aload_n F rfl e_X10_readLease_126 ?_
              refine m_iconst F (v := 0) (by decide) e_X10_readLease_127 ?_
              refine m_ldc F kc_X10_169 e_X10_readLease_128 ?_
              have oP8529 : OKP P8524 := by unfold OKP; omega
              refine r_callV F e_X10_readLease_130 (q_X10_numeral (x_l X) V c T 0 u h P8524 L _ _ 0 200000 h8520.1 (hob) oP8529 (by omega) (by omega)) cb_X10_numeral ml_X10_165 im_X10_numeral se_X10_numeral h8520 rfl rfl (rest := [.int (nI (4 + P8266.n5)), .ref (c + 6)]) rfl (Nat.le_of_ble_eq_true rfl) ⟨Nat.le_of_ble_eq_true rfl, Nat.le_of_ble_eq_true rfl⟩ ⟨Nat.le_of_ble_eq_true rfl, Nat.le_of_ble_eq_true rfl⟩ (fun r σ8526 hp => ?_)
              obtain ⟨P8531, oP8531, rP8531, h8527, c8530⟩ := hp
              have h8528 := HS.trans h8520 h8527 (by decide)
              have xP8531 := oP8531
              unfold OKP at xP8531
              unfold RA at rP8531
              rcases c8530 with ⟨n8532, gn8532, hn8532, rfl⟩ | ⟨h8533, rfl⟩
              · refine r_iast F (g' := (⟨T, 0, u, h, P8531, L⟩ : RG)) (len := 8) (j := 4 + P8266.n5) e_X10_readLease_133 h8528 (fun _ h => h) (fun f h => ⟨f, rfl, h⟩) (by decide) (by decide) (nI_clamp (by omega)) (vp_in_nI (by omega) (by decide)) ⟨n8532, by omega, rfl⟩ (fun _ _ _ h => h) (fun _ _ _ h => h) (fun σ8534 h8535 g8536 f8537 g8538 => ?_)
                refine m_aload_n F rfl e_X10_readLease_134 ?_
                refine r_get F e_X10_readLease_135 fl_X10_28 h8535 rfl (fun v hv f8539 => ?_)
                obtain rfl : v = .ref (c + 7) := hv
                refine m_iload_n F rfl e_X10_readLease_138 ?_
                refine m_iconst F (v := 0) (by decide) e_X10_readLease_139 ?_
                refine r_iast F (g' := (⟨T, 0, u, h, P8531, L⟩ : RG)) (len := 8) (j := 4 + P8266.n5) e_X10_readLease_140 h8535 (fun _ h => h) (fun f h => ⟨f, rfl, h⟩) (by decide) (by decide) (nI_clamp (by omega)) (vp_in_nI (by omega) (by decide)) trivial (fun _ _ _ h => h) (fun _ _ _ h => h) (fun σ8540 h8541 g8542 f8543 g8544 => ?_)
                refine m_aload_n F rfl e_X10_readLease_141 ?_
                refine r_get F e_X10_readLease_142 fl_X10_31 h8541 rfl (fun v hv f8545 => ?_)
                obtain rfl : v = .ref (c + 8) := hv
                refine m_iload_n F rfl e_X10_readLease_145 ?_
                refine m_iconst F (v := 0) (by decide) e_X10_readLease_146 ?_
                refine r_iast F (g' := (⟨T, 0, u, h, P8531, L⟩ : RG)) (len := 8) (j := 4 + P8266.n5) e_X10_readLease_147 h8541 (fun _ h => h) (fun f h => ⟨f, rfl, h⟩) (by decide) (by decide) (nI_clamp (by omega)) (vp_in_nI (by omega) (by decide)) trivial (fun _ _ _ h => h) (fun _ _ _ h => h) (fun σ8546 h8547 g8548 f8549 g8550 => ?_)
                refine m_aload_n F rfl e_X10_readLease_148 ?_
                refine r_get F e_X10_readLease_149 fl_X10_34 h8547 rfl (fun v hv f8551 => ?_)
                obtain rfl : v = .ref (c + 9) := hv
                refine m_iload_n F rfl e_X10_readLease_152 ?_
                refine m_iconst F (v := 0) (by decide) e_X10_readLease_153 ?_
                refine r_iast F (g' := (⟨T, 0, u, h, P8531, L⟩ : RG)) (len := 8) (j := 4 + P8266.n5) e_X10_readLease_154 h8547 (fun _ h => h) (fun f h => ⟨f, rfl, h⟩) (by decide) (by decide) (nI_clamp (by omega)) (vp_in_nI (by omega) (by decide)) trivial (fun _ _ _ h => h) (fun _ _ _ h => h) (fun σ8552 h8553 g8554 f8555 g8556 => ?_)
                refine m_iconst F (v := 0) (by decide) e_X10_readLease_155 ?_
                refine m_istore_n F (lv' := [(2, .int 0), (1, .int (nI (4 + P8266.n5))), (0, .ref c)]) e_X10_readLease_156 (by decide) rfl ?_
                refine Wm.lvsub (lv' := [(0, .ref c), (1, .int (nI (4 + P8266.n5))), (2, .int 0)]) ?_ [2, 1, 0] rfl
                exact lq_X10_readLease_157 F hQ hob hP  (48 - 0 + 1) (4 + P8266.n5) 0 P8531 _ ⟨HR.mono (Z' := Z) (by intro e9; first | rfl | assumption | omega) h8553.1, h8553.2⟩ oP8531 (by unfold RP; omega) (by omega) (Nat.lt_succ_self _)
              · have h8557 : HS V c (⟨T, 0, u, h, P8531, L⟩ : RG) [0, 2, 12, 13, 14, 15, 16, 17, 18, 19, 20, 21, 22, 23] _ _ := ⟨h8533, h8528.2⟩
                refine r_iast F (g' := (⟨T, 0, u, h, P8531, L⟩ : RG)) (len := 8) (j := 4 + P8266.n5) e_X10_readLease_133 h8557 (fun _ h => h) (fun f h => ⟨f, rfl, h⟩) (by decide) (by decide) (nI_clamp (by omega)) (vp_in_nI (by omega) (by decide)) ⟨0, by omega, rfl⟩ (fun _ _ _ h => h) (fun _ _ _ h => h) (fun σ8558 h8559 g8560 f8561 g8562 => ?_)
                refine m_aload_n F rfl e_X10_readLease_134 ?_
                refine r_get F e_X10_readLease_135 fl_X10_28 h8559 rfl (fun v hv f8563 => ?_)
                obtain rfl : v = .ref (c + 7) := hv
                refine m_iload_n F rfl e_X10_readLease_138 ?_
                refine m_iconst F (v := 0) (by decide) e_X10_readLease_139 ?_
                refine r_iast F (g' := (⟨T, 0, u, h, P8531, L⟩ : RG)) (len := 8) (j := 4 + P8266.n5) e_X10_readLease_140 h8559 (fun _ h => h) (fun f h => ⟨f, rfl, h⟩) (by decide) (by decide) (nI_clamp (by omega)) (vp_in_nI (by omega) (by decide)) trivial (fun _ _ _ h => h) (fun _ _ _ h => h) (fun σ8564 h8565 g8566 f8567 g8568 => ?_)
                refine m_aload_n F rfl e_X10_readLease_141 ?_
                refine r_get F e_X10_readLease_142 fl_X10_31 h8565 rfl (fun v hv f8569 => ?_)
                obtain rfl : v = .ref (c + 8) := hv
                refine m_iload_n F rfl e_X10_readLease_145 ?_
                refine m_iconst F (v := 0) (by decide) e_X10_readLease_146 ?_
                refine r_iast F (g' := (⟨T, 0, u, h, P8531, L⟩ : RG)) (len := 8) (j := 4 + P8266.n5) e_X10_readLease_147 h8565 (fun _ h => h) (fun f h => ⟨f, rfl, h⟩) (by decide) (by decide) (nI_clamp (by omega)) (vp_in_nI (by omega) (by decide)) trivial (fun _ _ _ h => h) (fun _ _ _ h => h) (fun σ8570 h8571 g8572 f8573 g8574 => ?_)
                refine m_aload_n F rfl e_X10_readLease_148 ?_
                refine r_get F e_X10_readLease_149 fl_X10_34 h8571 rfl (fun v hv f8575 => ?_)
                obtain rfl : v = .ref (c + 9) := hv
                refine m_iload_n F rfl e_X10_readLease_152 ?_
                refine m_iconst F (v := 0) (by decide) e_X10_readLease_153 ?_
                refine r_iast F (g' := (⟨T, 0, u, h, P8531, L⟩ : RG)) (len := 8) (j := 4 + P8266.n5) e_X10_readLease_154 h8571 (fun _ h => h) (fun f h => ⟨f, rfl, h⟩) (by decide) (by decide) (nI_clamp (by omega)) (vp_in_nI (by omega) (by decide)) trivial (fun _ _ _ h => h) (fun _ _ _ h => h) (fun σ8576 h8577 g8578 f8579 g8580 => ?_)
                refine m_iconst F (v := 0) (by decide) e_X10_readLease_155 ?_
                refine m_istore_n F (lv' := [(2, .int 0), (1, .int (nI (4 + P8266.n5))), (0, .ref c)]) e_X10_readLease_156 (by decide) rfl ?_
                refine Wm.lvsub (lv' := [(0, .ref c), (1, .int (nI (4 + P8266.n5))), (2, .int 0)]) ?_ [2, 1, 0] rfl
                exact lq_X10_readLease_157 F hQ hob hP  (48 - 0 + 1) (4 + P8266.n5) 0 P8531 _ ⟨HR.mono (Z' := Z) (by intro e9; first | rfl | assumption | omega) h8577.1, h8577.2⟩ oP8531 (by unfold RP; omega) (by omega) (Nat.lt_succ_self _)
        · refine m_iconst F (v := (-1)) (by decide) e_X10_readLease_56 ?_
          refine m_icmp_eq F e_X10_readLease_57 (fun q57 => ?_) (fun q57 => ?_)
          · refine m_aload_n F rfl e_X10_readLease_65 ?_
            refine r_getC F e_X10_readLease_66 fl_X10_141 h8279 ((fld_eq (h8278.2 c (by rw [show kC c c = 1 from kC_at (k := 0) (by decide)]; decide))).trans ((fld_eq (h8273.2 c (by rw [show kC c c = 1 from kC_at (k := 0) (by decide)]; decide))).trans f8268)) ?_
            refine m_if_eq F e_X10_readLease_69 (fun _ => ?_) (fun q => absurd (by decide) q)
            refine m_iconst F (v := 4) (by decide) e_X10_readLease_73 ?_
            refine m_aload_n F rfl e_X10_readLease_74 ?_
            refine m_iconst F (v := 0) (by decide) e_X10_readLease_75 ?_
            refine r_callV F e_X10_readLease_76 (q_X10_reading0 (x_l X) V c T Z u h P8266 L _ _  h8279.1 (hob) oP8266 ) cb_X10_reading ml_X10_157 im_X10_reading se_X10_reading h8279 rfl rfl (rest := [.int 4]) rfl (Nat.le_of_ble_eq_true rfl) ⟨Nat.le_of_ble_eq_true rfl, Nat.le_of_ble_eq_true rfl⟩ ⟨Nat.le_of_ble_eq_true rfl, Nat.le_of_ble_eq_true rfl⟩ (fun r σ8581 hp => ?_)
            obtain ⟨h8582, rfl⟩ := hp
            have h8583 := HS.trans h8279 h8582 (by decide)
            refine m_iadd F e_X10_readLease_79 ?_
            refine Wm.topE (w := nI (4 + P8266.n5)) (nI_add 4 P8266.n5) ?_
            refine m_istore_n F (lv' := [(1, .int (nI (4 + P8266.n5))), (0, .ref c)]) e_X10_readLease_80 (by decide) rfl ?_
            refine m_aload_n F rfl e_X10_readLease_81 ?_
            refine r_get F e_X10_readLease_82 fl_X10_16 h8583 rfl (fun v hv f8584 => ?_)
            obtain rfl : v = .ref (c + 3) := hv
            refine m_iload_n F rfl e_X10_readLease_85 ?_
            refine m_aload_n F rfl e_X10_readLease_86 ?_
            refine r_getC F e_X10_readLease_87 fl_X10_120 h8583 ((fld_eq (h8582.2 c (by rw [show kC c c = 1 from kC_at (k := 0) (by decide)]; decide))).trans ((fld_eq (h8278.2 c (by rw [show kC c c = 1 from kC_at (k := 0) (by decide)]; decide))).trans f8275)) ?_
            refine r_iast F (g' := (⟨T, Z, u, h, P8266, L⟩ : RG)) (len := 8) (j := 4 + P8266.n5) e_X10_readLease_90 h8583 (fun _ h => h) (fun f h => ⟨f, rfl, h⟩) (by decide) (by decide) (nI_clamp (by omega)) (vp_in_nI (by omega) (by decide)) trivial (fun _ _ _ h => h) (fun _ _ _ h => h) (fun σ8585 h8586 g8587 f8588 g8589 => ?_)
            refine m_aload_n F rfl e_X10_readLease_91 ?_
            refine r_callV F e_X10_readLease_92 (q_X10_token (x_l X) V c T Z u h P8266 L _ _  h8586.1 (hob) oP8266 ) cb_X10_token ml_X10_147 im_X10_token se_X10_token h8586 rfl rfl (rest := []) rfl (Nat.le_of_ble_eq_true rfl) ⟨Nat.le_of_ble_eq_true rfl, Nat.le_of_ble_eq_true rfl⟩ ⟨Nat.le_of_ble_eq_true rfl, Nat.le_of_ble_eq_true rfl⟩ (fun r σ8590 hp => ?_)
            obtain ⟨P8593, oP8593, rP8593, pr8594, h8591, rfl⟩ := hp
            have h8592 := HS.trans h8586 h8591 (by decide)
            have xP8593 := oP8593
            unfold OKP at xP8593
            unfold RA at rP8593
            refine m_aload_n F rfl e_X10_readLease_95 ?_
            refine r_get F e_X10_readLease_96 fl_X10_19 h8592 rfl (fun v hv f8595 => ?_)
            obtain rfl : v = .ref (c + 4) := hv
            refine m_iload_n F rfl e_X10_readLease_99 ?_
            refine m_aload_n F rfl e_X10_readLease_100 ?_
            refine m_iconst F (v := 0) (by decide) e_X10_readLease_101 ?_
            refine m_bipush F (v := 20) (by decide) e_X10_readLease_102 ?_
            refine r_callV F e_X10_readLease_104 (q_X10_numeral (x_l X) V c T Z u h P8593 L _ _ 0 20 h8592.1 (hob) oP8593 (by omega) (by omega)) cb_X10_numeral ml_X10_165 im_X10_numeral se_X10_numeral h8592 rfl rfl (rest := [.int (nI (4 + P8266.n5)), .ref (c + 4)]) rfl (Nat.le_of_ble_eq_true rfl) ⟨Nat.le_of_ble_eq_true rfl, Nat.le_of_ble_eq_true rfl⟩ ⟨Nat.le_of_ble_eq_true rfl, Nat.le_of_ble_eq_true rfl⟩ (fun r σ8596 hp => ?_)
            obtain ⟨P8600, oP8600, rP8600, h8597, c8599⟩ := hp
            have h8598 := HS.trans h8592 h8597 (by decide)
            have xP8600 := oP8600
            unfold OKP at xP8600
            unfold RA at rP8600
            rcases c8599 with ⟨n8601, gn8601, hn8601, rfl⟩ | ⟨h8602, rfl⟩
            · refine r_iast F (g' := (⟨T, Z, u, h, P8600, L⟩ : RG)) (len := 8) (j := 4 + P8266.n5) e_X10_readLease_107 h8598 (fun _ h => h) (fun f h => ⟨f, rfl, h⟩) (by decide) (by decide) (nI_clamp (by omega)) (vp_in_nI (by omega) (by decide)) trivial (fun _ _ _ h => h) (fun _ _ _ h => h) (fun σ8603 h8604 g8605 f8606 g8607 => ?_)
              refine m_aload_n F rfl e_X10_readLease_108 ?_
              refine r_get F e_X10_readLease_109 fl_X10_22 h8604 rfl (fun v hv f8608 => ?_)
              obtain rfl : v = .ref (c + 5) := hv
              refine m_iload_n F rfl e_X10_readLease_112 ?_
              refine m_aload_n F rfl e_X10_readLease_113 ?_
              refine m_iconst F (v := 1) (by decide) e_X10_readLease_114 ?_
              refine m_bipush F (v := 48) (by decide) e_X10_readLease_115 ?_
              refine r_callV F e_X10_readLease_117 (q_X10_numeral (x_l X) V c T Z u h P8600 L _ _ 1 48 h8604.1 (hob) oP8600 (by omega) (by omega)) cb_X10_numeral ml_X10_165 im_X10_numeral se_X10_numeral h8604 rfl rfl (rest := [.int (nI (4 + P8266.n5)), .ref (c + 5)]) rfl (Nat.le_of_ble_eq_true rfl) ⟨Nat.le_of_ble_eq_true rfl, Nat.le_of_ble_eq_true rfl⟩ ⟨Nat.le_of_ble_eq_true rfl, Nat.le_of_ble_eq_true rfl⟩ (fun r σ8609 hp => ?_)
              obtain ⟨P8613, oP8613, rP8613, h8610, c8612⟩ := hp
              have h8611 := HS.trans h8604 h8610 (by decide)
              have xP8613 := oP8613
              unfold OKP at xP8613
              unfold RA at rP8613
              rcases c8612 with ⟨n8614, gn8614, hn8614, rfl⟩ | ⟨h8615, rfl⟩
              · refine r_iast F (g' := (⟨T, Z, u, h, (mkP P8613.n0 P8613.n2 P8613.n5 P8613.n7 P8613.m0 (P8613.n5 + 1) P8613.w2 P8613.w7 P8613.kk P8613.a), L⟩ : RG)) (len := 8) (j := 4 + P8266.n5) e_X10_readLease_120 h8611 (fun _ h => h) (fun f h => ⟨f, rfl, h⟩) (by decide) (by decide) (nI_clamp (by omega)) (vp_in_nI (by omega) (by decide)) ⟨n8614, by omega, rfl, fun h7 _ => absurd h7 (by omega), fun _ _ => by omega⟩ (fun i hi y hy => by obtain ⟨n9, a9, b9, c9, d9⟩ := hy; exact ⟨n9, a9, b9, c9, fun h7 h8 => d9 h7 (by have h6 : i < 4 + (P8613.n5 + 1) := h8; omega)⟩) (by intro i hi x hx; unfold CR at hx ⊢; split at hx <;> first | exact hx | exact absurd rfl hi) (fun σ8616 h8617 g8618 f8619 g8620 => ?_)
                obtain ⟨P8621, eP8621⟩ : ∃ P9, P9 = (mkP P8613.n0 P8613.n2 P8613.n5 P8613.n7 P8613.m0 (P8613.n5 + 1) P8613.w2 P8613.w7 P8613.kk P8613.a) := ⟨_, rfl⟩
                rw [← eP8621] at h8617
                have fP8621 : P8621.n0 = P8613.n0 ∧ P8621.n2 = P8613.n2 ∧ P8621.n5 = P8613.n5 ∧ P8621.n7 = P8613.n7 ∧ P8621.m0 = P8613.m0 ∧ P8621.m5 = P8613.n5 + 1 ∧ P8621.w2 = P8613.w2 ∧ P8621.w7 = P8613.w7 ∧ P8621.kk = P8613.kk ∧ P8621.a = P8613.a := by rw [eP8621]; exact ⟨rfl, rfl, rfl, rfl, rfl, rfl, rfl, rfl, rfl, rfl⟩
                refine m_aload_n F rfl e_X10_readLease_121 ?_
                refine r_get F e_X10_readLease_122 fl_X10_25 h8617 rfl (fun v hv f8622 => ?_)
                obtain rfl : v = .ref (c + 6) := hv
                refine m_iload_n F rfl e_X10_readLease_125 ?_
                refine m_aload_n F rfl e_X10_readLease_126 ?_
                refine m_iconst F (v := 0) (by decide) e_X10_readLease_127 ?_
                refine m_ldc F kc_X10_169 e_X10_readLease_128 ?_
                have oP8626 : OKP P8621 := by unfold OKP; omega
                refine r_callV F e_X10_readLease_130 (q_X10_numeral (x_l X) V c T Z u h P8621 L _ _ 0 200000 h8617.1 (hob) oP8626 (by omega) (by omega)) cb_X10_numeral ml_X10_165 im_X10_numeral se_X10_numeral h8617 rfl rfl (rest := [.int (nI (4 + P8266.n5)), .ref (c + 6)]) rfl (Nat.le_of_ble_eq_true rfl) ⟨Nat.le_of_ble_eq_true rfl, Nat.le_of_ble_eq_true rfl⟩ ⟨Nat.le_of_ble_eq_true rfl, Nat.le_of_ble_eq_true rfl⟩ (fun r σ8623 hp => ?_)
                obtain ⟨P8628, oP8628, rP8628, h8624, c8627⟩ := hp
                have h8625 := HS.trans h8617 h8624 (by decide)
                have xP8628 := oP8628
                unfold OKP at xP8628
                unfold RA at rP8628
                rcases c8627 with ⟨n8629, gn8629, hn8629, rfl⟩ | ⟨h8630, rfl⟩
                · refine r_iast F (g' := (⟨T, Z, u, h, P8628, L⟩ : RG)) (len := 8) (j := 4 + P8266.n5) e_X10_readLease_133 h8625 (fun _ h => h) (fun f h => ⟨f, rfl, h⟩) (by decide) (by decide) (nI_clamp (by omega)) (vp_in_nI (by omega) (by decide)) ⟨n8629, by omega, rfl⟩ (fun _ _ _ h => h) (fun _ _ _ h => h) (fun σ8631 h8632 g8633 f8634 g8635 => ?_)
                  refine m_aload_n F rfl e_X10_readLease_134 ?_
                  refine r_get F e_X10_readLease_135 fl_X10_28 h8632 rfl (fun v hv f8636 => ?_)
                  obtain rfl : v = .ref (c + 7) := hv
                  refine m_iload_n F rfl e_X10_readLease_138 ?_
                  refine m_iconst F (v := 0) (by decide) e_X10_readLease_139 ?_
                  refine r_iast F (g' := (⟨T, Z, u, h, P8628, L⟩ : RG)) (len := 8) (j := 4 + P8266.n5) e_X10_readLease_140 h8632 (fun _ h => h) (fun f h => ⟨f, rfl, h⟩) (by decide) (by decide) (nI_clamp (by omega)) (vp_in_nI (by omega) (by decide)) trivial (fun _ _ _ h => h) (fun _ _ _ h => h) (fun σ8637 h8638 g8639 f8640 g8641 => ?_)
                  refine m_aload_n F rfl e_X10_readLease_141 ?_
                  refine r_get F e_X10_readLease_142 fl_X10_31 h8638 rfl (fun v hv f8642 => ?_)
                  obtain rfl : v = .ref (c + 8) := hv
                  refine m_iload_n F rfl e_X10_readLease_145 ?_
                  refine m_iconst F (v := 0) (by decide) e_X10_readLease_146 ?_
                  refine r_iast F (g' := (⟨T, Z, u, h, P8628, L⟩ : RG)) (len := 8) (j := 4 + P8266.n5) e_X10_readLease_147 h8638 (fun _ h => h) (fun f h => ⟨f, rfl, h⟩) (by decide) (by decide) (nI_clamp (by omega)) (vp_in_nI (by omega) (by decide)) trivial (fun _ _ _ h => h) (fun _ _ _ h => h) (fun σ8643 h8644 g8645 f8646 g8647 => ?_)
                  refine m_aload_n F rfl e_X10_readLease_148 ?_
                  refine r_get F e_X10_readLease_149 fl_X10_34 h8644 rfl (fun v hv f8648 => ?_)
                  obtain rfl : v = .ref (c + 9) := hv
                  refine m_iload_n F rfl e_X10_readLease_152 ?_
                  refine m_iconst F (v := 0) (by decide) e_X10_readLease_153 ?_
                  refine r_iast F (g' := (⟨T, Z, u, h, P8628, L⟩ : RG)) (len := 8) (j := 4 + P8266.n5) e_X10_readLease_154 h8644 (fun _ h => h) (fun f h => ⟨f, rfl, h⟩) (by decide) (by decide) (nI_clamp (by omega)) (vp_in_nI (by omega) (by decide)) trivial (fun _ _ _ h => h) (fun _ _ _ h => h) (fun σ8649 h8650 g8651 f8652 g8653 => ?_)
                  refine m_iconst F (v := 0) (by decide) e_X10_readLease_155 ?_
                  refine m_istore_n F (lv' := [(2, .int 0), (1, .int (nI (4 + P8266.n5))), (0, .ref c)]) e_X10_readLease_156 (by decide) rfl ?_
                  refine Wm.lvsub (lv' := [(0, .ref c), (1, .int (nI (4 + P8266.n5))), (2, .int 0)]) ?_ [2, 1, 0] rfl
                  exact lq_X10_readLease_157 F hQ hob hP  (48 - 0 + 1) (4 + P8266.n5) 0 P8628 _ h8650 oP8628 (by unfold RP; omega) (by omega) (Nat.lt_succ_self _)
                · have h8654 : HS V c (⟨T, 0, u, h, P8628, L⟩ : RG) [0, 2, 12, 13, 14, 15, 16, 17, 18, 19, 20, 21, 22, 23] _ _ := ⟨h8630, h8625.2⟩
                  refine r_iast F (g' := (⟨T, 0, u, h, P8628, L⟩ : RG)) (len := 8) (j := 4 + P8266.n5) e_X10_readLease_133 h8654 (fun _ h => h) (fun f h => ⟨f, rfl, h⟩) (by decide) (by decide) (nI_clamp (by omega)) (vp_in_nI (by omega) (by decide)) ⟨0, by omega, rfl⟩ (fun _ _ _ h => h) (fun _ _ _ h => h) (fun σ8655 h8656 g8657 f8658 g8659 => ?_)
                  refine m_aload_n F rfl e_X10_readLease_134 ?_
                  refine r_get F e_X10_readLease_135 fl_X10_28 h8656 rfl (fun v hv f8660 => ?_)
                  obtain rfl : v = .ref (c + 7) := hv
                  refine m_iload_n F rfl e_X10_readLease_138 ?_
                  refine m_iconst F (v := 0) (by decide) e_X10_readLease_139 ?_
                  refine r_iast F (g' := (⟨T, 0, u, h, P8628, L⟩ : RG)) (len := 8) (j := 4 + P8266.n5) e_X10_readLease_140 h8656 (fun _ h => h) (fun f h => ⟨f, rfl, h⟩) (by decide) (by decide) (nI_clamp (by omega)) (vp_in_nI (by omega) (by decide)) trivial (fun _ _ _ h => h) (fun _ _ _ h => h) (fun σ8661 h8662 g8663 f8664 g8665 => ?_)
                  refine m_aload_n F rfl e_X10_readLease_141 ?_
                  refine r_get F e_X10_readLease_142 fl_X10_31 h8662 rfl (fun v hv f8666 => ?_)
                  obtain rfl : v = .ref (c + 8) := hv
                  refine m_iload_n F rfl e_X10_readLease_145 ?_
                  refine m_iconst F (v := 0) (by decide) e_X10_readLease_146 ?_
                  refine r_iast F (g' := (⟨T, 0, u, h, P8628, L⟩ : RG)) (len := 8) (j := 4 + P8266.n5) e_X10_readLease_147 h8662 (fun _ h => h) (fun f h => ⟨f, rfl, h⟩) (by decide) (by decide) (nI_clamp (by omega)) (vp_in_nI (by omega) (by decide)) trivial (fun _ _ _ h => h) (fun _ _ _ h => h) (fun σ8667 h8668 g8669 f8670 g8671 => ?_)
                  refine m_aload_n F rfl e_X10_readLease_148 ?_
                  refine r_get F e_X10_readLease_149 fl_X10_34 h8668 rfl (fun v hv f8672 => ?_)
                  obtain rfl : v = .ref (c + 9) := hv
                  refine m_iload_n F rfl e_X10_readLease_152 ?_
                  refine m_iconst F (v := 0) (by decide) e_X10_readLease_153 ?_
                  refine r_iast F (g' := (⟨T, 0, u, h, P8628, L⟩ : RG)) (len := 8) (j := 4 + P8266.n5) e_X10_readLease_154 h8668 (fun _ h => h) (fun f h => ⟨f, rfl, h⟩) (by decide) (by decide) (nI_clamp (by omega)) (vp_in_nI (by omega) (by decide)) trivial (fun _ _ _ h => h) (fun _ _ _ h => h) (fun σ8673 h8674 g8675 f8676 g8677 => ?_)
                  refine m_iconst F (v := 0) (by decide) e_X10_readLease_155 ?_
                  refine m_istore_n F (lv' := [(2, .int 0), (1, .int (nI (4 + P8266.n5))), (0, .ref c)]) e_X10_readLease_156 (by decide) rfl ?_
                  refine Wm.lvsub (lv' := [(0, .ref c), (1, .int (nI (4 + P8266.n5))), (2, .int 0)]) ?_ [2, 1, 0] rfl
                  exact lq_X10_readLease_157 F hQ hob hP  (48 - 0 + 1) (4 + P8266.n5) 0 P8628 _ ⟨HR.mono (Z' := Z) (by intro e9; first | rfl | assumption | omega) h8674.1, h8674.2⟩ oP8628 (by unfold RP; omega) (by omega) (Nat.lt_succ_self _)
              · have h8678 : HS V c (⟨T, 0, u, h, P8613, L⟩ : RG) [0, 2, 12, 13, 14, 15, 16, 17, 18, 19, 20, 21, 22, 23] _ _ := ⟨h8615, h8611.2⟩
                refine r_iast F (g' := (⟨T, 0, u, h, (mkP P8613.n0 P8613.n2 P8613.n5 P8613.n7 P8613.m0 (P8613.n5 + 1) P8613.w2 P8613.w7 P8613.kk P8613.a), L⟩ : RG)) (len := 8) (j := 4 + P8266.n5) e_X10_readLease_120 h8678 (fun _ h => h) (fun f h => ⟨f, rfl, h⟩) (by decide) (by decide) (nI_clamp (by omega)) (vp_in_nI (by omega) (by decide)) ⟨1, by omega, rfl, fun h7 _ => absurd h7 (by omega), fun _ _ => by omega⟩ (fun i hi y hy => by obtain ⟨n9, a9, b9, c9, d9⟩ := hy; exact ⟨n9, a9, b9, c9, fun h7 h8 => d9 h7 (by have h6 : i < 4 + (P8613.n5 + 1) := h8; omega)⟩) (by intro i hi x hx; unfold CR at hx ⊢; split at hx <;> first | exact hx | exact absurd rfl hi) (fun σ8679 h8680 g8681 f8682 g8683 => ?_)
                obtain ⟨P8684, eP8684⟩ : ∃ P9, P9 = (mkP P8613.n0 P8613.n2 P8613.n5 P8613.n7 P8613.m0 (P8613.n5 + 1) P8613.w2 P8613.w7 P8613.kk P8613.a) := ⟨_, rfl⟩
                rw [← eP8684] at h8680
                have fP8684 : P8684.n0 = P8613.n0 ∧ P8684.n2 = P8613.n2 ∧ P8684.n5 = P8613.n5 ∧ P8684.n7 = P8613.n7 ∧ P8684.m0 = P8613.m0 ∧ P8684.m5 = P8613.n5 + 1 ∧ P8684.w2 = P8613.w2 ∧ P8684.w7 = P8613.w7 ∧ P8684.kk = P8613.kk ∧ P8684.a = P8613.a := by rw [eP8684]; exact ⟨rfl, rfl, rfl, rfl, rfl, rfl, rfl, rfl, rfl, rfl⟩
                refine m_aload_n F rfl e_X10_readLease_121 ?_
                refine r_get F e_X10_readLease_122 fl_X10_25 h8680 rfl (fun v hv f8685 => ?_)
                obtain rfl : v = .ref (c + 6) := hv
                refine m_iload_n F rfl e_X10_readLease_125 ?_
                refine m_aload_n F rfl e_X10_readLease_126 ?_
                refine m_iconst F (v := 0) (by decide) e_X10_readLease_127 ?_
                refine m_ldc F kc_X10_169 e_X10_readLease_128 ?_
                have oP8689 : OKP P8684 := by unfold OKP; omega
                refine r_callV F e_X10_readLease_130 (q_X10_numeral (x_l X) V c T 0 u h P8684 L _ _ 0 200000 h8680.1 (hob) oP8689 (by omega) (by omega)) cb_X10_numeral ml_X10_165 im_X10_numeral se_X10_numeral h8680 rfl rfl (rest := [.int (nI (4 + P8266.n5)), .ref (c + 6)]) rfl (Nat.le_of_ble_eq_true rfl) ⟨Nat.le_of_ble_eq_true rfl, Nat.le_of_ble_eq_true rfl⟩ ⟨Nat.le_of_ble_eq_true rfl, Nat.le_of_ble_eq_true rfl⟩ (fun r σ8686 hp => ?_)
                obtain ⟨P8691, oP8691, rP8691, h8687, c8690⟩ := hp
                have h8688 := HS.trans h8680 h8687 (by decide)
                have xP8691 := oP8691
                unfold OKP at xP8691
                unfold RA at rP8691
                rcases c8690 with ⟨n8692, gn8692, hn8692, rfl⟩ | ⟨h8693, rfl⟩
                · refine r_iast F (g' := (⟨T, 0, u, h, P8691, L⟩ : RG)) (len := 8) (j := 4 + P8266.n5) e_X10_readLease_133 h8688 (fun _ h => h) (fun f h => ⟨f, rfl, h⟩) (by decide) (by decide) (nI_clamp (by omega)) (vp_in_nI (by omega) (by decide)) ⟨n8692, by omega, rfl⟩ (fun _ _ _ h => h) (fun _ _ _ h => h) (fun σ8694 h8695 g8696 f8697 g8698 => ?_)
                  refine m_aload_n F rfl e_X10_readLease_134 ?_
                  refine r_get F e_X10_readLease_135 fl_X10_28 h8695 rfl (fun v hv f8699 => ?_)
                  obtain rfl : v = .ref (c + 7) := hv
                  refine m_iload_n F rfl e_X10_readLease_138 ?_
                  refine m_iconst F (v := 0) (by decide) e_X10_readLease_139 ?_
                  refine r_iast F (g' := (⟨T, 0, u, h, P8691, L⟩ : RG)) (len := 8) (j := 4 + P8266.n5) e_X10_readLease_140 h8695 (fun _ h => h) (fun f h => ⟨f, rfl, h⟩) (by decide) (by decide) (nI_clamp (by omega)) (vp_in_nI (by omega) (by decide)) trivial (fun _ _ _ h => h) (fun _ _ _ h => h) (fun σ8700 h8701 g8702 f8703 g8704 => ?_)
                  refine m_aload_n F rfl e_X10_readLease_141 ?_
                  refine r_get F e_X10_readLease_142 fl_X10_31 h8701 rfl (fun v hv f8705 => ?_)
                  obtain rfl : v = .ref (c + 8) := hv
                  refine m_iload_n F rfl e_X10_readLease_145 ?_
                  refine m_iconst F (v := 0) (by decide) e_X10_readLease_146 ?_
                  refine r_iast F (g' := (⟨T, 0, u, h, P8691, L⟩ : RG)) (len := 8) (j := 4 + P8266.n5) e_X10_readLease_147 h8701 (fun _ h => h) (fun f h => ⟨f, rfl, h⟩) (by decide) (by decide) (nI_clamp (by omega)) (vp_in_nI (by omega) (by decide)) trivial (fun _ _ _ h => h) (fun _ _ _ h => h) (fun σ8706 h8707 g8708 f8709 g8710 => ?_)
                  refine m_aload_n F rfl e_X10_readLease_148 ?_
                  refine r_get F e_X10_readLease_149 fl_X10_34 h8707 rfl (fun v hv f8711 => ?_)
                  obtain rfl : v = .ref (c + 9) := hv
                  refine m_iload_n F rfl e_X10_readLease_152 ?_
                  refine m_iconst F (v := 0) (by decide) e_X10_readLease_153 ?_
                  refine r_iast F (g' := (⟨T, 0, u, h, P8691, L⟩ : RG)) (len := 8) (j := 4 + P8266.n5) e_X10_readLease_154 h8707 (fun _ h => h) (fun f h => ⟨f, rfl, h⟩) (by decide) (by decide) (nI_clamp (by omega)) (vp_in_nI (by omega) (by decide)) trivial (fun _ _ _ h => h) (fun _ _ _ h => h) (fun σ8712 h8713 g8714 f8715 g8716 => ?_)
                  refine m_iconst F (v := 0) (by decide) e_X10_readLease_155 ?_
                  refine m_istore_n F (lv' := [(2, .int 0), (1, .int (nI (4 + P8266.n5))), (0, .ref c)]) e_X10_readLease_156 (by decide) rfl ?_
                  refine Wm.lvsub (lv' := [(0, .ref c), (1, .int (nI (4 + P8266.n5))), (2, .int 0)]) ?_ [2, 1, 0] rfl
                  exact lq_X10_readLease_157 F hQ hob hP  (48 - 0 + 1) (4 + P8266.n5) 0 P8691 _ ⟨HR.mono (Z' := Z) (by intro e9; first | rfl | assumption | omega) h8713.1, h8713.2⟩ oP8691 (by unfold RP; omega) (by omega) (Nat.lt_succ_self _)
                · have h8717 : HS V c (⟨T, 0, u, h, P8691, L⟩ : RG) [0, 2, 12, 13, 14, 15, 16, 17, 18, 19, 20, 21, 22, 23] _ _ := ⟨h8693, h8688.2⟩
                  refine r_iast F (g' := (⟨T, 0, u, h, P8691, L⟩ : RG)) (len := 8) (j := 4 + P8266.n5) e_X10_readLease_133 h8717 (fun _ h => h) (fun f h => ⟨f, rfl, h⟩) (by decide) (by decide) (nI_clamp (by omega)) (vp_in_nI (by omega) (by decide)) ⟨0, by omega, rfl⟩ (fun _ _ _ h => h) (fun _ _ _ h => h) (fun σ8718 h8719 g8720 f8721 g8722 => ?_)
                  refine m_aload_n F rfl e_X10_readLease_134 ?_
                  refine r_get F e_X10_readLease_135 fl_X10_28 h8719 rfl (fun v hv f8723 => ?_)
                  obtain rfl : v = .ref (c + 7) := hv
                  refine m_iload_n F rfl e_X10_readLease_138 ?_
                  refine m_iconst F (v := 0) (by decide) e_X10_readLease_139 ?_
                  refine r_iast F (g' := (⟨T, 0, u, h, P8691, L⟩ : RG)) (len := 8) (j := 4 + P8266.n5) e_X10_readLease_140 h8719 (fun _ h => h) (fun f h => ⟨f, rfl, h⟩) (by decide) (by decide) (nI_clamp (by omega)) (vp_in_nI (by omega) (by decide)) trivial (fun _ _ _ h => h) (fun _ _ _ h => h) (fun σ8724 h8725 g8726 f8727 g8728 => ?_)
                  refine m_aload_n F rfl e_X10_readLease_141 ?_
                  refine r_get F e_X10_readLease_142 fl_X10_31 h8725 rfl (fun v hv f8729 => ?_)
                  obtain rfl : v = .ref (c + 8) := hv
                  refine m_iload_n F rfl e_X10_readLease_145 ?_
                  refine m_iconst F (v := 0) (by decide) e_X10_readLease_146 ?_
                  refine r_iast F (g' := (⟨T, 0, u, h, P8691, L⟩ : RG)) (len := 8) (j := 4 + P8266.n5) e_X10_readLease_147 h8725 (fun _ h => h) (fun f h => ⟨f, rfl, h⟩) (by decide) (by decide) (nI_clamp (by omega)) (vp_in_nI (by omega) (by decide)) trivial (fun _ _ _ h => h) (fun _ _ _ h => h) (fun σ8730 h8731 g8732 f8733 g8734 => ?_)
                  refine m_aload_n F rfl e_X10_readLease_148 ?_
                  refine r_get F e_X10_readLease_149 fl_X10_34 h8731 rfl (fun v hv f8735 => ?_)
                  obtain rfl : v = .ref (c + 9) := hv
                  refine m_iload_n F rfl e_X10_readLease_152 ?_
                  refine m_iconst F (v := 0) (by decide) e_X10_readLease_153 ?_
                  refine r_iast F (g' := (⟨T, 0, u, h, P8691, L⟩ : RG)) (len := 8) (j := 4 + P8266.n5) e_X10_readLease_154 h8731 (fun _ h => h) (fun f h => ⟨f, rfl, h⟩) (by decide) (by decide) (nI_clamp (by omega)) (vp_in_nI (by omega) (by decide)) trivial (fun _ _ _ h => h) (fun _ _ _ h => h) (fun σ8736 h8737 g8738 f8739 g8740 => ?_)
                  refine m_iconst F (v := 0) (by decide) e_X10_readLease_155 ?_
                  refine m_istore_n F (lv' := [(2, .int 0), (1, .int (nI (4 + P8266.n5))), (0, .ref c)]) e_X10_readLease_156 (by decide) rfl ?_
                  refine Wm.lvsub (lv' := [(0, .ref c), (1, .int (nI (4 + P8266.n5))), (2, .int 0)]) ?_ [2, 1, 0] rfl
                  exact lq_X10_readLease_157 F hQ hob hP  (48 - 0 + 1) (4 + P8266.n5) 0 P8691 _ ⟨HR.mono (Z' := Z) (by intro e9; first | rfl | assumption | omega) h8737.1, h8737.2⟩ oP8691 (by unfold RP; omega) (by omega) (Nat.lt_succ_self _)
            · have h8741 : HS V c (⟨T, 0, u, h, P8600, L⟩ : RG) [0, 2, 12, 13, 14, 15, 16, 17, 18, 19, 20, 21, 22, 23] _ _ := ⟨h8602, h8598.2⟩
              refine r_iast F (g' := (⟨T, 0, u, h, P8600, L⟩ : RG)) (len := 8) (j := 4 + P8266.n5) e_X10_readLease_107 h8741 (fun _ h => h) (fun f h => ⟨f, rfl, h⟩) (by decide) (by decide) (nI_clamp (by omega)) (vp_in_nI (by omega) (by decide)) trivial (fun _ _ _ h => h) (fun _ _ _ h => h) (fun σ8742 h8743 g8744 f8745 g8746 => ?_)
              refine m_aload_n F rfl e_X10_readLease_108 ?_
              refine r_get F e_X10_readLease_109 fl_X10_22 h8743 rfl (fun v hv f8747 => ?_)
              obtain rfl : v = .ref (c + 5) := hv
              refine m_iload_n F rfl e_X10_readLease_112 ?_
              refine m_aload_n F rfl e_X10_readLease_113 ?_
              refine m_iconst F (v := 1) (by decide) e_X10_readLease_114 ?_
              refine m_bipush F (v := 48) (by decide) e_X10_readLease_115 ?_
              refine r_callV F e_X10_readLease_117 (q_X10_numeral (x_l X) V c T 0 u h P8600 L _ _ 1 48 h8743.1 (hob) oP8600 (by omega) (by omega)) cb_X10_numeral ml_X10_165 im_X10_numeral se_X10_numeral h8743 rfl rfl (rest := [.int (nI (4 + P8266.n5)), .ref (c + 5)]) rfl (Nat.le_of_ble_eq_true rfl) ⟨Nat.le_of_ble_eq_true rfl, Nat.le_of_ble_eq_true rfl⟩ ⟨Nat.le_of_ble_eq_true rfl, Nat.le_of_ble_eq_true rfl⟩ (fun r σ8748 hp => ?_)
              obtain ⟨P8752, oP8752, rP8752, h8749, c8751⟩ := hp
              have h8750 := HS.trans h8743 h8749 (by decide)
              have xP8752 := oP8752
              unfold OKP at xP8752
              unfold RA at rP8752
              rcases c8751 with ⟨n8753, gn8753, hn8753, rfl⟩ | ⟨h8754, rfl⟩
              · refine r_iast F (g' := (⟨T, 0, u, h, (mkP P8752.n0 P8752.n2 P8752.n5 P8752.n7 P8752.m0 (P8752.n5 + 1) P8752.w2 P8752.w7 P8752.kk P8752.a), L⟩ : RG)) (len := 8) (j := 4 + P8266.n5) e_X10_readLease_120 h8750 (fun _ h => h) (fun f h => ⟨f, rfl, h⟩) (by decide) (by decide) (nI_clamp (by omega)) (vp_in_nI (by omega) (by decide)) ⟨n8753, by omega, rfl, fun h7 _ => absurd h7 (by omega), fun _ _ => by omega⟩ (fun i hi y hy => by obtain ⟨n9, a9, b9, c9, d9⟩ := hy; exact ⟨n9, a9, b9, c9, fun h7 h8 => d9 h7 (by have h6 : i < 4 + (P8752.n5 + 1) := h8; omega)⟩) (by intro i hi x hx; unfold CR at hx ⊢; split at hx <;> first | exact hx | exact absurd rfl hi) (fun σ8755 h8756 g8757 f8758 g8759 => ?_)
                obtain ⟨P8760, eP8760⟩ : ∃ P9, P9 = (mkP P8752.n0 P8752.n2 P8752.n5 P8752.n7 P8752.m0 (P8752.n5 + 1) P8752.w2 P8752.w7 P8752.kk P8752.a) := ⟨_, rfl⟩
                rw [← eP8760] at h8756
                have fP8760 : P8760.n0 = P8752.n0 ∧ P8760.n2 = P8752.n2 ∧ P8760.n5 = P8752.n5 ∧ P8760.n7 = P8752.n7 ∧ P8760.m0 = P8752.m0 ∧ P8760.m5 = P8752.n5 + 1 ∧ P8760.w2 = P8752.w2 ∧ P8760.w7 = P8752.w7 ∧ P8760.kk = P8752.kk ∧ P8760.a = P8752.a := by rw [eP8760]; exact ⟨rfl, rfl, rfl, rfl, rfl, rfl, rfl, rfl, rfl, rfl⟩
                refine m_aload_n F rfl e_X10_readLease_121 ?_
                refine r_get F e_X10_readLease_122 fl_X10_25 h8756 rfl (fun v hv f8761 => ?_)
                obtain rfl : v = .ref (c + 6) := hv
                refine m_iload_n F rfl e_X10_readLease_125 ?_
                refine m_aload_n F rfl e_X10_readLease_126 ?_
                refine m_iconst F (v := 0) (by decide) e_X10_readLease_127 ?_
                refine m_ldc F kc_X10_169 e_X10_readLease_128 ?_
                have oP8765 : OKP P8760 := by unfold OKP; omega
                refine r_callV F e_X10_readLease_130 (q_X10_numeral (x_l X) V c T 0 u h P8760 L _ _ 0 200000 h8756.1 (hob) oP8765 (by omega) (by omega)) cb_X10_numeral ml_X10_165 im_X10_numeral se_X10_numeral h8756 rfl rfl (rest := [.int (nI (4 + P8266.n5)), .ref (c + 6)]) rfl (Nat.le_of_ble_eq_true rfl) ⟨Nat.le_of_ble_eq_true rfl, Nat.le_of_ble_eq_true rfl⟩ ⟨Nat.le_of_ble_eq_true rfl, Nat.le_of_ble_eq_true rfl⟩ (fun r σ8762 hp => ?_)
                obtain ⟨P8767, oP8767, rP8767, h8763, c8766⟩ := hp
                have h8764 := HS.trans h8756 h8763 (by decide)
                have xP8767 := oP8767
                unfold OKP at xP8767
                unfold RA at rP8767
                rcases c8766 with ⟨n8768, gn8768, hn8768, rfl⟩ | ⟨h8769, rfl⟩
                · refine r_iast F (g' := (⟨T, 0, u, h, P8767, L⟩ : RG)) (len := 8) (j := 4 + P8266.n5) e_X10_readLease_133 h8764 (fun _ h => h) (fun f h => ⟨f, rfl, h⟩) (by decide) (by decide) (nI_clamp (by omega)) (vp_in_nI (by omega) (by decide)) ⟨n8768, by omega, rfl⟩ (fun _ _ _ h => h) (fun _ _ _ h => h) (fun σ8770 h8771 g8772 f8773 g8774 => ?_)
                  refine m_aload_n F rfl e_X10_readLease_134 ?_
                  refine r_get F e_X10_readLease_135 fl_X10_28 h8771 rfl (fun v hv f8775 => ?_)
                  obtain rfl : v = .ref (c + 7) := hv
                  refine m_iload_n F rfl e_X10_readLease_138 ?_
                  refine m_iconst F (v := 0) (by decide) e_X10_readLease_139 ?_
                  refine r_iast F (g' := (⟨T, 0, u, h, P8767, L⟩ : RG)) (len := 8) (j := 4 + P8266.n5) e_X10_readLease_140 h8771 (fun _ h => h) (fun f h => ⟨f, rfl, h⟩) (by decide) (by decide) (nI_clamp (by omega)) (vp_in_nI (by omega) (by decide)) trivial (fun _ _ _ h => h) (fun _ _ _ h => h) (fun σ8776 h8777 g8778 f8779 g8780 => ?_)
                  refine m_aload_n F rfl e_X10_readLease_141 ?_
                  refine r_get F e_X10_readLease_142 fl_X10_31 h8777 rfl (fun v hv f8781 => ?_)
                  obtain rfl : v = .ref (c + 8) := hv
                  refine m_iload_n F rfl e_X10_readLease_145 ?_
                  refine m_iconst F (v := 0) (by decide) e_X10_readLease_146 ?_
                  refine r_iast F (g' := (⟨T, 0, u, h, P8767, L⟩ : RG)) (len := 8) (j := 4 + P8266.n5) e_X10_readLease_147 h8777 (fun _ h => h) (fun f h => ⟨f, rfl, h⟩) (by decide) (by decide) (nI_clamp (by omega)) (vp_in_nI (by omega) (by decide)) trivial (fun _ _ _ h => h) (fun _ _ _ h => h) (fun σ8782 h8783 g8784 f8785 g8786 => ?_)
                  refine m_aload_n F rfl e_X10_readLease_148 ?_
                  refine r_get F e_X10_readLease_149 fl_X10_34 h8783 rfl (fun v hv f8787 => ?_)
                  obtain rfl : v = .ref (c + 9) := hv
                  refine m_iload_n F rfl e_X10_readLease_152 ?_
                  refine m_iconst F (v := 0) (by decide) e_X10_readLease_153 ?_
                  refine r_iast F (g' := (⟨T, 0, u, h, P8767, L⟩ : RG)) (len := 8) (j := 4 + P8266.n5) e_X10_readLease_154 h8783 (fun _ h => h) (fun f h => ⟨f, rfl, h⟩) (by decide) (by decide) (nI_clamp (by omega)) (vp_in_nI (by omega) (by decide)) trivial (fun _ _ _ h => h) (fun _ _ _ h => h) (fun σ8788 h8789 g8790 f8791 g8792 => ?_)
                  refine m_iconst F (v := 0) (by decide) e_X10_readLease_155 ?_
                  refine m_istore_n F (lv' := [(2, .int 0), (1, .int (nI (4 + P8266.n5))), (0, .ref c)]) e_X10_readLease_156 (by decide) rfl ?_
                  refine Wm.lvsub (lv' := [(0, .ref c), (1, .int (nI (4 + P8266.n5))), (2, .int 0)]) ?_ [2, 1, 0] rfl
                  exact lq_X10_readLease_157 F hQ hob hP  (48 - 0 + 1) (4 + P8266.n5) 0 P8767 _ ⟨HR.mono (Z' := Z) (by intro e9; first | rfl | assumption | omega) h8789.1, h8789.2⟩ oP8767 (by unfold RP; omega) (by omega) (Nat.lt_succ_self _)
                · have h8793 : HS V c (⟨T, 0, u, h, P8767, L⟩ : RG) [0, 2, 12, 13, 14, 15, 16, 17, 18, 19, 20, 21, 22, 23] _ _ := ⟨h8769, h8764.2⟩
                  refine r_iast F (g' := (⟨T, 0, u, h, P8767, L⟩ : RG)) (len := 8) (j := 4 + P8266.n5) e_X10_readLease_133 h8793 (fun _ h => h) (fun f h => ⟨f, rfl, h⟩) (by decide) (by decide) (nI_clamp (by omega)) (vp_in_nI (by omega) (by decide)) ⟨0, by omega, rfl⟩ (fun _ _ _ h => h) (fun _ _ _ h => h) (fun σ8794 h8795 g8796 f8797 g8798 => ?_)
                  refine m_aload_n F rfl e_X10_readLease_134 ?_
                  refine r_get F e_X10_readLease_135 fl_X10_28 h8795 rfl (fun v hv f8799 => ?_)
                  obtain rfl : v = .ref (c + 7) := hv
                  refine m_iload_n F rfl e_X10_readLease_138 ?_
                  refine m_iconst F (v := 0) (by decide) e_X10_readLease_139 ?_
                  refine r_iast F (g' := (⟨T, 0, u, h, P8767, L⟩ : RG)) (len := 8) (j := 4 + P8266.n5) e_X10_readLease_140 h8795 (fun _ h => h) (fun f h => ⟨f, rfl, h⟩) (by decide) (by decide) (nI_clamp (by omega)) (vp_in_nI (by omega) (by decide)) trivial (fun _ _ _ h => h) (fun _ _ _ h => h) (fun σ8800 h8801 g8802 f8803 g8804 => ?_)
                  refine m_aload_n F rfl e_X10_readLease_141 ?_
                  refine r_get F e_X10_readLease_142 fl_X10_31 h8801 rfl (fun v hv f8805 => ?_)
                  obtain rfl : v = .ref (c + 8) := hv
                  refine m_iload_n F rfl e_X10_readLease_145 ?_
                  refine m_iconst F (v := 0) (by decide) e_X10_readLease_146 ?_
                  refine r_iast F (g' := (⟨T, 0, u, h, P8767, L⟩ : RG)) (len := 8) (j := 4 + P8266.n5) e_X10_readLease_147 h8801 (fun _ h => h) (fun f h => ⟨f, rfl, h⟩) (by decide) (by decide) (nI_clamp (by omega)) (vp_in_nI (by omega) (by decide)) trivial (fun _ _ _ h => h) (fun _ _ _ h => h) (fun σ8806 h8807 g8808 f8809 g8810 => ?_)
                  refine m_aload_n F rfl e_X10_readLease_148 ?_
                  refine r_get F e_X10_readLease_149 fl_X10_34 h8807 rfl (fun v hv f8811 => ?_)
                  obtain rfl : v = .ref (c + 9) := hv
                  refine m_iload_n F rfl e_X10_readLease_152 ?_
                  refine m_iconst F (v := 0) (by decide) e_X10_readLease_153 ?_
                  refine r_iast F (g' := (⟨T, 0, u, h, P8767, L⟩ : RG)) (len := 8) (j := 4 + P8266.n5) e_X10_readLease_154 h8807 (fun _ h => h) (fun f h => ⟨f, rfl, h⟩) (by decide) (by decide) (nI_clamp (by omega)) (vp_in_nI (by omega) (by decide)) trivial (fun _ _ _ h => h) (fun _ _ _ h => h) (fun σ8812 h8813 g8814 f8815 g8816 => ?_)
                  refine m_iconst F (v := 0) (by decide) e_X10_readLease_155 ?_
                  refine m_istore_n F (lv' := [(2, .int 0), (1, .int (nI (4 + P8266.n5))), (0, .ref c)]) e_X10_readLease_156 (by decide) rfl ?_
                  refine Wm.lvsub (lv' := [(0, .ref c), (1, .int (nI (4 + P8266.n5))), (2, .int 0)]) ?_ [2, 1, 0] rfl
                  exact lq_X10_readLease_157 F hQ hob hP  (48 - 0 + 1) (4 + P8266.n5) 0 P8767 _ ⟨HR.mono (Z' := Z) (by intro e9; first | rfl | assumption | omega) h8813.1, h8813.2⟩ oP8767 (by unfold RP; omega) (by omega) (Nat.lt_succ_self _)
              · have h8817 : HS V c (⟨T, 0, u, h, P8752, L⟩ : RG) [0, 2, 12, 13, 14, 15, 16, 17, 18, 19, 20, 21, 22, 23] _ _ := ⟨h8754, h8750.2⟩
                refine r_iast F (g' := (⟨T, 0, u, h, (mkP P8752.n0 P8752.n2 P8752.n5 P8752.n7 P8752.m0 (P8752.n5 + 1) P8752.w2 P8752.w7 P8752.kk P8752.a), L⟩ : RG)) (len := 8) (j := 4 + P8266.n5) e_X10_readLease_120 h8817 (fun _ h => h) (fun f h => ⟨f, rfl, h⟩) (by decide) (by decide) (nI_clamp (by omega)) (vp_in_nI (by omega) (by decide)) ⟨1, by omega, rfl, fun h7 _ => absurd h7 (by omega), fun _ _ => by omega⟩ (fun i hi y hy => by obtain ⟨n9, a9, b9, c9, d9⟩ := hy; exact ⟨n9, a9, b9, c9, fun h7 h8 => d9 h7 (by have h6 : i < 4 + (P8752.n5 + 1) := h8; omega)⟩) (by intro i hi x hx; unfold CR at hx ⊢; split at hx <;> first | exact hx | exact absurd rfl hi) (fun σ8818 h8819 g8820 f8821 g8822 => ?_)
                obtain ⟨P8823, eP8823⟩ : ∃ P9, P9 = (mkP P8752.n0 P8752.n2 P8752.n5 P8752.n7 P8752.m0 (P8752.n5 + 1) P8752.w2 P8752.w7 P8752.kk P8752.a) := ⟨_, rfl⟩
                rw [← eP8823] at h8819
                have fP8823 : P8823.n0 = P8752.n0 ∧ P8823.n2 = P8752.n2 ∧ P8823.n5 = P8752.n5 ∧ P8823.n7 = P8752.n7 ∧ P8823.m0 = P8752.m0 ∧ P8823.m5 = P8752.n5 + 1 ∧ P8823.w2 = P8752.w2 ∧ P8823.w7 = P8752.w7 ∧ P8823.kk = P8752.kk ∧ P8823.a = P8752.a := by rw [eP8823]; exact ⟨rfl, rfl, rfl, rfl, rfl, rfl, rfl, rfl, rfl, rfl⟩
                refine m_aload_n F rfl e_X10_readLease_121 ?_
                refine r_get F e_X10_readLease_122 fl_X10_25 h8819 rfl (fun v hv f8824 => ?_)
                obtain rfl : v = .ref (c + 6) := hv
                refine m_iload_n F rfl e_X10_readLease_125 ?_
                refine m_aload_n F rfl e_X10_readLease_126 ?_
                refine m_iconst F (v := 0) (by decide) e_X10_readLease_127 ?_
                refine m_ldc F kc_X10_169 e_X10_readLease_128 ?_
                have oP8828 : OKP P8823 := by unfold OKP; omega
                refine r_callV F e_X10_readLease_130 (q_X10_numeral (x_l X) V c T 0 u h P8823 L _ _ 0 200000 h8819.1 (hob) oP8828 (by omega) (by omega)) cb_X10_numeral ml_X10_165 im_X10_numeral se_X10_numeral h8819 rfl rfl (rest := [.int (nI (4 + P8266.n5)), .ref (c + 6)]) rfl (Nat.le_of_ble_eq_true rfl) ⟨Nat.le_of_ble_eq_true rfl, Nat.le_of_ble_eq_true rfl⟩ ⟨Nat.le_of_ble_eq_true rfl, Nat.le_of_ble_eq_true rfl⟩ (fun r σ8825 hp => ?_)
                obtain ⟨P8830, oP8830, rP8830, h8826, c8829⟩ := hp
                have h8827 := HS.trans h8819 h8826 (by decide)
                have xP8830 := oP8830
                unfold OKP at xP8830
                unfold RA at rP8830
                rcases c8829 with ⟨n8831, gn8831, hn8831, rfl⟩ | ⟨h8832, rfl⟩
                · refine r_iast F (g' := (⟨T, 0, u, h, P8830, L⟩ : RG)) (len := 8) (j := 4 + P8266.n5) e_X10_readLease_133 h8827 (fun _ h => h) (fun f h => ⟨f, rfl, h⟩) (by decide) (by decide) (nI_clamp (by omega)) (vp_in_nI (by omega) (by decide)) ⟨n8831, by omega, rfl⟩ (fun _ _ _ h => h) (fun _ _ _ h => h) (fun σ8833 h8834 g8835 f8836 g8837 => ?_)
                  refine m_aload_n F rfl e_X10_readLease_134 ?_
                  refine r_get F e_X10_readLease_135 fl_X10_28 h8834 rfl (fun v hv f8838 => ?_)
                  obtain rfl : v = .ref (c + 7) := hv
                  refine m_iload_n F rfl e_X10_readLease_138 ?_
                  refine m_iconst F (v := 0) (by decide) e_X10_readLease_139 ?_
                  refine r_iast F (g' := (⟨T, 0, u, h, P8830, L⟩ : RG)) (len := 8) (j := 4 + P8266.n5) e_X10_readLease_140 h8834 (fun _ h => h) (fun f h => ⟨f, rfl, h⟩) (by decide) (by decide) (nI_clamp (by omega)) (vp_in_nI (by omega) (by decide)) trivial (fun _ _ _ h => h) (fun _ _ _ h => h) (fun σ8839 h8840 g8841 f8842 g8843 => ?_)
                  refine m_aload_n F rfl e_X10_readLease_141 ?_
                  refine r_get F e_X10_readLease_142 fl_X10_31 h8840 rfl (fun v hv f8844 => ?_)
                  obtain rfl : v = .ref (c + 8) := hv
                  refine m_iload_n F rfl e_X10_readLease_145 ?_
                  refine m_iconst F (v := 0) (by decide) e_X10_readLease_146 ?_
                  refine r_iast F (g' := (⟨T, 0, u, h, P8830, L⟩ : RG)) (len := 8) (j := 4 + P8266.n5) e_X10_readLease_147 h8840 (fun _ h => h) (fun f h => ⟨f, rfl, h⟩) (by decide) (by decide) (nI_clamp (by omega)) (vp_in_nI (by omega) (by decide)) trivial (fun _ _ _ h => h) (fun _ _ _ h => h) (fun σ8845 h8846 g8847 f8848 g8849 => ?_)
                  refine m_aload_n F rfl e_X10_readLease_148 ?_
                  refine r_get F e_X10_readLease_149 fl_X10_34 h8846 rfl (fun v hv f8850 => ?_)
                  obtain rfl : v = .ref (c + 9) := hv
                  refine m_iload_n F rfl e_X10_readLease_152 ?_
                  refine m_iconst F (v := 0) (by decide) e_X10_readLease_153 ?_
                  refine r_iast F (g' := (⟨T, 0, u, h, P8830, L⟩ : RG)) (len := 8) (j := 4 + P8266.n5) e_X10_readLease_154 h8846 (fun _ h => h) (fun f h => ⟨f, rfl, h⟩) (by decide) (by decide) (nI_clamp (by omega)) (vp_in_nI (by omega) (by decide)) trivial (fun _ _ _ h => h) (fun _ _ _ h => h) (fun σ8851 h8852 g8853 f8854 g8855 => ?_)
                  refine m_iconst F (v := 0) (by decide) e_X10_readLease_155 ?_
                  refine m_istore_n F (lv' := [(2, .int 0), (1, .int (nI (4 + P8266.n5))), (0, .ref c)]) e_X10_readLease_156 (by decide) rfl ?_
                  refine Wm.lvsub (lv' := [(0, .ref c), (1, .int (nI (4 + P8266.n5))), (2, .int 0)]) ?_ [2, 1, 0] rfl
                  exact lq_X10_readLease_157 F hQ hob hP  (48 - 0 + 1) (4 + P8266.n5) 0 P8830 _ ⟨HR.mono (Z' := Z) (by intro e9; first | rfl | assumption | omega) h8852.1, h8852.2⟩ oP8830 (by unfold RP; omega) (by omega) (Nat.lt_succ_self _)
                · have h8856 : HS V c (⟨T, 0, u, h, P8830, L⟩ : RG) [0, 2, 12, 13, 14, 15, 16, 17, 18, 19, 20, 21, 22, 23] _ _ := ⟨h8832, h8827.2⟩
                  refine r_iast F (g' := (⟨T, 0, u, h, P8830, L⟩ : RG)) (len := 8) (j := 4 + P8266.n5) e_X10_readLease_133 h8856 (fun _ h => h) (fun f h => ⟨f, rfl, h⟩) (by decide) (by decide) (nI_clamp (by omega)) (vp_in_nI (by omega) (by decide)) ⟨0, by omega, rfl⟩ (fun _ _ _ h => h) (fun _ _ _ h => h) (fun σ8857 h8858 g8859 f8860 g8861 => ?_)
                  refine m_aload_n F rfl e_X10_readLease_134 ?_
                  refine r_get F e_X10_readLease_135 fl_X10_28 h8858 rfl (fun v hv f8862 => ?_)
                  obtain rfl : v = .ref (c + 7) := hv
                  refine m_iload_n F rfl e_X10_readLease_138 ?_
                  refine m_iconst F (v := 0) (by decide) e_X10_readLease_139 ?_
                  refine r_iast F (g' := (⟨T, 0, u, h, P8830, L⟩ : RG)) (len := 8) (j := 4 + P8266.n5) e_X10_readLease_140 h8858 (fun _ h => h) (fun f h => ⟨f, rfl, h⟩) (by decide) (by decide) (nI_clamp (by omega)) (vp_in_nI (by omega) (by decide)) trivial (fun _ _ _ h => h) (fun _ _ _ h => h) (fun σ8863 h8864 g8865 f8866 g8867 => ?_)
                  refine m_aload_n F rfl e_X10_readLease_141 ?_
                  refine r_get F e_X10_readLease_142 fl_X10_31 h8864 rfl (fun v hv f8868 => ?_)
                  obtain rfl : v = .ref (c + 8) := hv
                  refine m_iload_n F rfl e_X10_readLease_145 ?_
                  refine m_iconst F (v := 0) (by decide) e_X10_readLease_146 ?_
                  refine r_iast F (g' := (⟨T, 0, u, h, P8830, L⟩ : RG)) (len := 8) (j := 4 + P8266.n5) e_X10_readLease_147 h8864 (fun _ h => h) (fun f h => ⟨f, rfl, h⟩) (by decide) (by decide) (nI_clamp (by omega)) (vp_in_nI (by omega) (by decide)) trivial (fun _ _ _ h => h) (fun _ _ _ h => h) (fun σ8869 h8870 g8871 f8872 g8873 => ?_)
                  refine m_aload_n F rfl e_X10_readLease_148 ?_
                  refine r_get F e_X10_readLease_149 fl_X10_34 h8870 rfl (fun v hv f8874 => ?_)
                  obtain rfl : v = .ref (c + 9) := hv
                  refine m_iload_n F rfl e_X10_readLease_152 ?_
                  refine m_iconst F (v := 0) (by decide) e_X10_readLease_153 ?_
                  refine r_iast F (g' := (⟨T, 0, u, h, P8830, L⟩ : RG)) (len := 8) (j := 4 + P8266.n5) e_X10_readLease_154 h8870 (fun _ h => h) (fun f h => ⟨f, rfl, h⟩) (by decide) (by decide) (nI_clamp (by omega)) (vp_in_nI (by omega) (by decide)) trivial (fun _ _ _ h => h) (fun _ _ _ h => h) (fun σ8875 h8876 g8877 f8878 g8879 => ?_)
                  refine m_iconst F (v := 0) (by decide) e_X10_readLease_155 ?_
                  refine m_istore_n F (lv' := [(2, .int 0), (1, .int (nI (4 + P8266.n5))), (0, .ref c)]) e_X10_readLease_156 (by decide) rfl ?_
                  refine Wm.lvsub (lv' := [(0, .ref c), (1, .int (nI (4 + P8266.n5))), (2, .int 0)]) ?_ [2, 1, 0] rfl
                  exact lq_X10_readLease_157 F hQ hob hP  (48 - 0 + 1) (4 + P8266.n5) 0 P8830 _ ⟨HR.mono (Z' := Z) (by intro e9; first | rfl | assumption | omega) h8876.1, h8876.2⟩ oP8830 (by unfold RP; omega) (by omega) (Nat.lt_succ_self _)
          · refine m_aload_n F rfl e_X10_readLease_60 ?_
            refine m_iconst F (v := 3) (by decide) e_X10_readLease_61 ?_
            refine r_callV F e_X10_readLease_62 (q_X10_wrong (x_l X) V c T Z u h P8266 L _ _ 3 h8279.1 (hob) oP8266 (by first | omega | assumption | decide)) cb_X10_wrong ml_X10_150 im_X10_wrong se_X10_wrong h8279 rfl rfl (rest := []) rfl (Nat.le_of_ble_eq_true rfl) ⟨Nat.le_of_ble_eq_true rfl, Nat.le_of_ble_eq_true rfl⟩ ⟨Nat.le_of_ble_eq_true rfl, Nat.le_of_ble_eq_true rfl⟩ (fun r σ8880 hp => ?_)
            obtain ⟨h8881, rfl⟩ := hp
            have h8882 := HS.trans h8279 h8881 (by decide)
            refine m_aload_n F rfl e_X10_readLease_65 ?_
            refine r_get F e_X10_readLease_66 fl_X10_141 h8882 rfl (fun v hv f8883 => ?_)
            obtain ⟨x8884, hx8884, rfl⟩ := hv
            replace hx8884 : 0 = 0 → x8884 ≠ 0 := hx8884
            refine m_if_eq F e_X10_readLease_69 (fun q69 => ?_) (fun q69 => ?_)
            · first | exact absurd q69 (hx8884 rfl) | contradiction
            · have h8885 := HS.z0 h8882 (f8883) q69
              have h8886 : HS V c _ [0, 2, 12, 13, 14, 15, 16, 17, 18, 19, 20, 21, 22, 23] _ _ := ⟨HR.mono (Z' := Z) (by intro e; first | rfl | assumption | omega) h8885.1, h8885.2⟩
              exact m_vret F hQ e_X10_readLease_72 (⟨P8266, oP8266, (by unfold RP; omega), h8886, rfl⟩)
      · refine m_aload_n F rfl e_X10_readLease_34 ?_
        refine m_iconst F (v := 1) (by decide) e_X10_readLease_35 ?_
        refine r_callV F e_X10_readLease_36 (q_X10_wrong (x_l X) V c T Z u h P8266 L _ _ 1 h8265.1 (hob) oP8266 (by first | omega | assumption | decide)) cb_X10_wrong ml_X10_150 im_X10_wrong se_X10_wrong h8265 rfl rfl (rest := []) rfl (Nat.le_of_ble_eq_true rfl) ⟨Nat.le_of_ble_eq_true rfl, Nat.le_of_ble_eq_true rfl⟩ ⟨Nat.le_of_ble_eq_true rfl, Nat.le_of_ble_eq_true rfl⟩ (fun r σ8887 hp => ?_)
        obtain ⟨h8888, rfl⟩ := hp
        have h8889 := HS.trans h8265 h8888 (by decide)
        refine m_goto F e_X10_readLease_39 ?_
        refine m_aload_n F rfl e_X10_readLease_65 ?_
        refine r_get F e_X10_readLease_66 fl_X10_141 h8889 rfl (fun v hv f8890 => ?_)
        obtain ⟨x8891, hx8891, rfl⟩ := hv
        replace hx8891 : 0 = 0 → x8891 ≠ 0 := hx8891
        refine m_if_eq F e_X10_readLease_69 (fun q69 => ?_) (fun q69 => ?_)
        · first | exact absurd q69 (hx8891 rfl) | contradiction
        · have h8892 := HS.z0 h8889 (f8890) q69
          have h8893 : HS V c _ [0, 2, 12, 13, 14, 15, 16, 17, 18, 19, 20, 21, 22, 23] _ _ := ⟨HR.mono (Z' := Z) (by intro e; first | rfl | assumption | omega) h8892.1, h8892.2⟩
          exact m_vret F hQ e_X10_readLease_72 (⟨P8266, oP8266, (by unfold RP; omega), h8893, rfl⟩)
    · have h8894 := HS.z0 h8265 (f8268) q22
      have h8895 : HS V c _ [0, 2, 12, 13, 14, 15, 16, 17, 18, 19, 20, 21, 22, 23] _ _ := ⟨HR.mono (Z' := Z) (by intro e; first | rfl | assumption | omega) h8894.1, h8894.2⟩
      exact m_vret F hQ e_X10_readLease_25 (⟨P8266, oP8266, (by unfold RP; omega), h8895, rfl⟩)
  · have c6 : P.n5 = 4 := (nI_eq (a := P.n5) (b := 4) (by omega) (by omega)).mp q6
    refine m_aload_n F rfl e_X10_readLease_9 ?_
    refine m_iconst F (v := 2) (by decide) e_X10_readLease_10 ?_
    refine r_callV F e_X10_readLease_11 (q_X10_wrong (x_l X) V c T Z u h P L _ _ 2 h8262.1 (hob) hP (by first | omega | assumption | decide)) cb_X10_wrong ml_X10_150 im_X10_wrong se_X10_wrong h8262 rfl rfl (rest := []) rfl (Nat.le_of_ble_eq_true rfl) ⟨Nat.le_of_ble_eq_true rfl, Nat.le_of_ble_eq_true rfl⟩ ⟨Nat.le_of_ble_eq_true rfl, Nat.le_of_ble_eq_true rfl⟩ (fun r σ8896 hp => ?_)
    obtain ⟨h8897, rfl⟩ := hp
    have h8898 := HS.trans h8262 h8897 (by decide)
    refine m_aload_n F rfl e_X10_readLease_14 ?_
    refine r_callV F e_X10_readLease_15 (q_X10_goOn (x_l X) V c T 0 u h P L _ _  h8898.1 (hob) hP ) cb_X10_goOn ml_X10_154 im_X10_goOn se_X10_goOn h8898 rfl rfl (rest := []) rfl (Nat.le_of_ble_eq_true rfl) ⟨Nat.le_of_ble_eq_true rfl, Nat.le_of_ble_eq_true rfl⟩ ⟨Nat.le_of_ble_eq_true rfl, Nat.le_of_ble_eq_true rfl⟩ (fun r σ8899 hp => ?_)
    obtain ⟨P8902, oP8902, rP8902, pr8903, h8900, rfl⟩ := hp
    have h8901 := HS.trans h8898 h8900 (by decide)
    have xP8902 := oP8902
    unfold OKP at xP8902
    unfold RA at rP8902
    refine m_aload_n F rfl e_X10_readLease_18 ?_
    refine r_get F e_X10_readLease_19 fl_X10_141 h8901 rfl (fun v hv f8904 => ?_)
    obtain ⟨x8905, hx8905, rfl⟩ := hv
    replace hx8905 : 0 = 0 → x8905 ≠ 0 := hx8905
    refine m_if_eq F e_X10_readLease_22 (fun q22 => ?_) (fun q22 => ?_)
    · first | exact absurd q22 (hx8905 rfl) | contradiction
    · have h8906 := HS.z0 h8901 (f8904) q22
      have h8907 : HS V c _ [0, 2, 12, 13, 14, 15, 16, 17, 18, 19, 20, 21, 22, 23] _ _ := ⟨HR.mono (Z' := Z) (by intro e; first | rfl | assumption | omega) h8906.1, h8906.2⟩
      exact m_vret F hQ e_X10_readLease_25 (⟨P8902, oP8902, (by unfold RP; omega), h8907, rfl⟩)
set_option maxRecDepth 20000 in
theorem lq_X10_readPay_60 {V : VX} {X : MX} {N : Nat} {σ : Mem} {c T Z u h : Nat} {P : NP} {L : Nat → LQ}   (F : Fx V X yX10_readPay cX10_readPay 6 none (rmd 8 0 0)) (hQ : Rt V X 0 0 N (fun r τ => ∃ P9 : NP, OKP P9 ∧ RP P P9 ∧ HS V c (⟨T, Z, u, h, P9, L⟩ : RG) [0, 2, 4, 5, 6, 7, 8, 9, 10, 12, 13, 14, 15, 16, 17, 18, 19, 20, 21, 22, 23] σ τ ∧ r = none)) (hob : OKB L) (hP : OKP P)   : ∀ (fuel : Nat) (a : Nat) (b : Nat) (m1 : Int32) (k : Nat) (P1 : NP) (τ : Mem), HS V c (⟨T, Z, u, h, P1, L⟩ : RG) [0, 2, 4, 5, 6, 7, 8, 9, 10, 12, 13, 14, 15, 16, 17, 18, 19, 20, 21, 22, 23] σ τ → OKP P1 → RP P P1 → a ≤ 7 ∧ 1 ≤ k ∧ k ≤ 49 ∧ b ≤ 48 → 49 - k < fuel → Wm V X 6 N τ 0 0 60 [(0, .ref c), (1, .int (nI a)), (3, .int (nI b)), (4, .int m1), (5, .int (nI k))] [] := by
  intro fuel
  induction fuel with
  | zero => intros; rename_i hm; exact absurd hm (Nat.not_lt_zero _)
  | succ fuel ih =>
    intro a b m1 k P1 τ h1 hP1 hR1 hi hm
    have hPP := hP
    unfold OKP at hPP
    have hPP1 := hP1
    unfold OKP at hPP1
    unfold RP at hR1
    refine m_iload F rfl e_X10_readPay_60 ?_
    refine m_iload_n F rfl e_X10_readPay_62 ?_
    refine m_icmp_gt F e_X10_readPay_63 (fun q63 => ?_) (fun q63 => ?_)
    · have c63 : k > b := (nI_ltI (a := b) (b := k) (by omega) (by omega)).mp q63
      refine m_aload_n F rfl e_X10_readPay_91 ?_
      refine m_iconst F (v := 1) (by decide) e_X10_readPay_92 ?_
      refine m_aload_n F rfl e_X10_readPay_93 ?_
      refine m_iconst F (v := 1) (by decide) e_X10_readPay_94 ?_
      refine r_callV F e_X10_readPay_95 (q_X10_reading1 (x_l X) V c T Z u h P1 L _ _  h1.1 (hob) hP1 ) cb_X10_reading ml_X10_157 im_X10_reading se_X10_reading h1 rfl rfl (rest := [.int 1, .ref c]) rfl (Nat.le_of_ble_eq_true rfl) ⟨Nat.le_of_ble_eq_true rfl, Nat.le_of_ble_eq_true rfl⟩ ⟨Nat.le_of_ble_eq_true rfl, Nat.le_of_ble_eq_true rfl⟩ (fun r σ8908 hp => ?_)
      obtain ⟨h8909, x8911, rfl⟩ := hp
      have h8910 := HS.trans h1 h8909 (by decide)
      refine m_iconst F (v := 1) (by decide) e_X10_readPay_98 ?_
      refine m_iadd F e_X10_readPay_99 ?_
      refine Wm.top (fun x8912 _ => ?_)
      refine r_callV F e_X10_readPay_100 (q_X10_reads1 (x_l X) V c T Z u h P1 L _ _ x8912 h8910.1 (hob) hP1 ) cb_X10_reads ml_X10_170 im_X10_reads se_X10_reads h8910 rfl rfl (rest := []) rfl (Nat.le_of_ble_eq_true rfl) ⟨Nat.le_of_ble_eq_true rfl, Nat.le_of_ble_eq_true rfl⟩ ⟨Nat.le_of_ble_eq_true rfl, Nat.le_of_ble_eq_true rfl⟩ (fun r σ8913 hp => ?_)
      obtain ⟨h8914, rfl⟩ := hp
      have h8915 := HS.trans h8910 h8914 (by decide)
      exact m_vret F hQ e_X10_readPay_103 (⟨P1, hP1, (by unfold RP; omega), h8915, rfl⟩)
    · have c63 : k ≤ b := by have hh := mt (nI_ltI (a := b) (b := k) (by omega) (by omega)).mpr q63; omega
      refine m_aload_n F rfl e_X10_readPay_66 ?_
      refine r_get F e_X10_readPay_67 fl_X10_37 h1 rfl (fun v hv f8916 => ?_)
      obtain rfl : v = .ref (c + 10) := hv
      refine m_bipush F (v := 48) (by decide) e_X10_readPay_70 ?_
      refine m_iload_n F rfl e_X10_readPay_72 ?_
      refine m_imul F e_X10_readPay_73 ?_
      refine Wm.topE (w := nI (48 * a)) (pk_mul 48 a) ?_
      refine m_iload F rfl e_X10_readPay_74 ?_
      refine m_iadd F e_X10_readPay_76 ?_
      refine Wm.topE (w := nI ((48 * a) + k)) (nI_add (48 * a) k) ?_
      refine m_iconst F (v := 1) (by decide) e_X10_readPay_77 ?_
      refine m_isub F e_X10_readPay_78 ?_
      refine Wm.topE (w := nI (((48 * a) + k) - 1)) (pk_sub (a := (48 * a) + k) (b := 1) (by omega)) ?_
      refine m_dup2_11 F rfl rfl e_X10_readPay_79 ?_
      refine r_iald F (len := 384) (j := ((48 * a) + k) - 1) e_X10_readPay_80 h1 (fun _ h => h) (by decide) (nI_clamp (by omega)) (vp_in_nI (by omega) (by decide)) (fun x8917 h8918 f8919 => ?_)
      refine m_iload F rfl e_X10_readPay_81 ?_
      refine m_iadd F e_X10_readPay_83 ?_
      refine Wm.top (fun x8920 _ => ?_)
      refine r_iast F (g' := (⟨T, Z, u, h, P1, L⟩ : RG)) (len := 384) (j := ((48 * a) + k) - 1) e_X10_readPay_84 h1 (fun _ h => h) (fun f h => ⟨f, rfl, h⟩) (by decide) (by decide) (nI_clamp (by omega)) (vp_in_nI (by omega) (by decide)) trivial (fun _ _ _ h => h) (fun _ _ _ h => h) (fun σ8921 h8922 g8923 f8924 g8925 => ?_)
      refine m_iinc F (v := nI (k + 1)) (lv' := [(5, .int (nI (k + 1))), (0, .ref c), (1, .int (nI a)), (3, .int (nI b)), (4, .int m1)]) e_X10_readPay_85 rfl (nI_add k 1) (by decide) rfl ?_
      refine m_goto F e_X10_readPay_88 ?_
      refine Wm.lvsub (lv' := [(0, .ref c), (1, .int (nI a)), (3, .int (nI b)), (4, .int m1), (5, .int (nI (k + 1)))]) ?_ [1, 2, 3, 4, 0] rfl
      exact ih a b m1 (k + 1) P1 _ h8922 hP1 (by unfold RP; omega) (by omega) (by omega)
set_option maxRecDepth 20000 in
theorem q_X10_readPay (l : Launch) (V : VX) (c T Z u h : Nat) (P : NP) (L : Nat → LQ) (N : Nat) (σ : Mem)  (h0 : HR V c ⟨T, Z, u, h, P, L⟩ σ) (hob : OKB L) (hP : OKP P)  : Ct l V yX10_readPay cX10_readPay 6 none 8 0 0 N σ [.ref c] (fun r τ => ∃ P9 : NP, OKP P9 ∧ RP P P9 ∧ HS V c (⟨T, Z, u, h, P9, L⟩ : RG) [0, 2, 4, 5, 6, 7, 8, 9, 10, 12, 13, 14, 15, 16, 17, 18, 19, 20, 21, 22, 23] σ τ ∧ r = none) := by
  refine Ct.of (by decide) (Nat.le_of_ble_eq_true rfl) [(0, .ref c)] rfl (fun X hX F hQ => ?_)
  have hPP := hP
  unfold OKP at hPP
  have h1 : HS V c ⟨T, Z, u, h, P, L⟩ [0, 2, 4, 5, 6, 7, 8, 9, 10, 12, 13, 14, 15, 16, 17, 18, 19, 20, 21, 22, 23] σ σ := HS.start h0
  refine m_aload_n F rfl e_X10_readPay_0 ?_
  refine m_iconst F (v := 1) (by decide) e_X10_readPay_1 ?_
  refine r_callV F e_X10_readPay_2 (q_X10_reading1 (x_l X) V c T Z u h P L _ _  h1.1 (hob) hP ) cb_X10_reading ml_X10_157 im_X10_reading se_X10_reading h1 rfl rfl (rest := []) rfl (Nat.le_of_ble_eq_true rfl) ⟨Nat.le_of_ble_eq_true rfl, Nat.le_of_ble_eq_true rfl⟩ ⟨Nat.le_of_ble_eq_true rfl, Nat.le_of_ble_eq_true rfl⟩ (fun r σ8926 hp => ?_)
  obtain ⟨h8927, x8929, rfl⟩ := hp
  have h8928 := HS.trans h1 h8927 (by decide)
  refine m_bipush F (v := 12) (by decide) e_X10_readPay_5 ?_
  refine m_icmp_ne F e_X10_readPay_7 (fun q7 => ?_) (fun q7 => ?_)
  · refine m_aload_n F rfl e_X10_readPay_15 ?_
    refine r_callV F e_X10_readPay_16 (q_X10_atHand (x_l X) V c T Z u h P L _ _  h8928.1 (hob) hP ) cb_X10_atHand ml_X10_174 im_X10_atHand se_X10_atHand h8928 rfl rfl (rest := []) rfl (Nat.le_of_ble_eq_true rfl) ⟨Nat.le_of_ble_eq_true rfl, Nat.le_of_ble_eq_true rfl⟩ ⟨Nat.le_of_ble_eq_true rfl, Nat.le_of_ble_eq_true rfl⟩ (fun r σ8930 hp => ?_)
    obtain ⟨P8934, oP8934, rP8934, h8931, n8933, gn8933, hn8933, rfl⟩ := hp
    have h8932 := HS.trans h8928 h8931 (by decide)
    have xP8934 := oP8934
    unfold OKP at xP8934
    unfold RA at rP8934
    refine m_istore_n F (lv' := [(1, .int (nI n8933)), (0, .ref c)]) e_X10_readPay_19 (by decide) rfl ?_
    refine m_aload_n F rfl e_X10_readPay_20 ?_
    refine r_callV F e_X10_readPay_21 (q_X10_goOn (x_l X) V c T Z u h P8934 L _ _  h8932.1 (hob) oP8934 ) cb_X10_goOn ml_X10_154 im_X10_goOn se_X10_goOn h8932 rfl rfl (rest := []) rfl (Nat.le_of_ble_eq_true rfl) ⟨Nat.le_of_ble_eq_true rfl, Nat.le_of_ble_eq_true rfl⟩ ⟨Nat.le_of_ble_eq_true rfl, Nat.le_of_ble_eq_true rfl⟩ (fun r σ8935 hp => ?_)
    obtain ⟨P8938, oP8938, rP8938, pr8939, h8936, rfl⟩ := hp
    have h8937 := HS.trans h8932 h8936 (by decide)
    have xP8938 := oP8938
    unfold OKP at xP8938
    unfold RA at rP8938
    refine m_aload_n F rfl e_X10_readPay_24 ?_
    refine m_iconst F (v := 1) (by decide) e_X10_readPay_25 ?_
    refine m_bipush F (v := 48) (by decide) e_X10_readPay_26 ?_
    refine r_callV F e_X10_readPay_28 (q_X10_numeral (x_l X) V c T Z u h P8938 L _ _ 1 48 h8937.1 (hob) oP8938 (by omega) (by omega)) cb_X10_numeral ml_X10_165 im_X10_numeral se_X10_numeral h8937 rfl rfl (rest := []) rfl (Nat.le_of_ble_eq_true rfl) ⟨Nat.le_of_ble_eq_true rfl, Nat.le_of_ble_eq_true rfl⟩ ⟨Nat.le_of_ble_eq_true rfl, Nat.le_of_ble_eq_true rfl⟩ (fun r σ8940 hp => ?_)
    obtain ⟨P8944, oP8944, rP8944, h8941, c8943⟩ := hp
    have h8942 := HS.trans h8937 h8941 (by decide)
    have xP8944 := oP8944
    unfold OKP at xP8944
    unfold RA at rP8944
    rcases c8943 with ⟨n8945, gn8945, hn8945, rfl⟩ | ⟨h8946, rfl⟩
    · refine m_istore_n F (lv' := [(2, .int (nI n8945)), (1, .int (nI n8933)), (0, .ref c)]) e_X10_readPay_31 (by decide) rfl ?_
      refine m_aload_n F rfl e_X10_readPay_32 ?_
      refine m_iload_n F rfl e_X10_readPay_33 ?_
      refine m_bipush F (v := 48) (by decide) e_X10_readPay_34 ?_
      refine r_callV F e_X10_readPay_36 (q_X10_numeral (x_l X) V c T Z u h P8944 L _ _ n8945 48 h8942.1 (hob) oP8944 (by omega) (by omega)) cb_X10_numeral ml_X10_165 im_X10_numeral se_X10_numeral h8942 rfl rfl (rest := []) rfl (Nat.le_of_ble_eq_true rfl) ⟨Nat.le_of_ble_eq_true rfl, Nat.le_of_ble_eq_true rfl⟩ ⟨Nat.le_of_ble_eq_true rfl, Nat.le_of_ble_eq_true rfl⟩ (fun r σ8947 hp => ?_)
      obtain ⟨P8951, oP8951, rP8951, h8948, c8950⟩ := hp
      have h8949 := HS.trans h8942 h8948 (by decide)
      have xP8951 := oP8951
      unfold OKP at xP8951
      unfold RA at rP8951
      rcases c8950 with ⟨n8952, gn8952, hn8952, rfl⟩ | ⟨h8953, rfl⟩
      · refine m_istore_n F (lv' := [(3, .int (nI n8952)), (2, .int (nI n8945)), (1, .int (nI n8933)), (0, .ref c)]) e_X10_readPay_39 (by decide) rfl ?_
        refine m_aload_n F rfl e_X10_readPay_40 ?_
        refine m_iconst F (v := 0) (by decide) e_X10_readPay_41 ?_
        refine m_ldc F kc_X10_177 e_X10_readPay_42 ?_
        refine r_callV F e_X10_readPay_44 (q_X10_numeral (x_l X) V c T Z u h P8951 L _ _ 0 99999 h8949.1 (hob) oP8951 (by omega) (by omega)) cb_X10_numeral ml_X10_165 im_X10_numeral se_X10_numeral h8949 rfl rfl (rest := []) rfl (Nat.le_of_ble_eq_true rfl) ⟨Nat.le_of_ble_eq_true rfl, Nat.le_of_ble_eq_true rfl⟩ ⟨Nat.le_of_ble_eq_true rfl, Nat.le_of_ble_eq_true rfl⟩ (fun r σ8954 hp => ?_)
        obtain ⟨P8958, oP8958, rP8958, h8955, c8957⟩ := hp
        have h8956 := HS.trans h8949 h8955 (by decide)
        have xP8958 := oP8958
        unfold OKP at xP8958
        unfold RA at rP8958
        rcases c8957 with ⟨n8959, gn8959, hn8959, rfl⟩ | ⟨h8960, rfl⟩
        · refine m_istore F (lv' := [(4, .int (nI n8959)), (3, .int (nI n8952)), (2, .int (nI n8945)), (1, .int (nI n8933)), (0, .ref c)]) e_X10_readPay_47 (by decide) rfl ?_
          refine m_aload_n F rfl e_X10_readPay_49 ?_
          refine r_get F e_X10_readPay_50 fl_X10_141 h8956 rfl (fun v hv f8961 => ?_)
          obtain ⟨x8962, hx8962, rfl⟩ := hv
          replace hx8962 : Z = 0 → x8962 ≠ 0 := hx8962
          refine m_if_eq F e_X10_readPay_53 (fun q53 => ?_) (fun q53 => ?_)
          · subst q53
            refine m_iload_n F rfl e_X10_readPay_57 ?_
            refine m_istore F (lv' := [(5, .int (nI n8945)), (4, .int (nI n8959)), (3, .int (nI n8952)), (2, .int (nI n8945)), (1, .int (nI n8933)), (0, .ref c)]) e_X10_readPay_58 (by decide) rfl ?_
            refine Wm.lvsub (lv' := [(0, .ref c), (1, .int (nI n8933)), (3, .int (nI n8952)), (4, .int (nI n8959)), (5, .int (nI n8945))]) ?_ [5, 4, 2, 1, 0] rfl
            exact lq_X10_readPay_60 F hQ hob hP  (49 - n8945 + 1) n8933 n8952 (nI n8959) n8945 P8958 _ h8956 oP8958 (by unfold RP; omega) (by omega) (Nat.lt_succ_self _)
          · have h8963 := HS.z0 h8956 (f8961) q53
            have h8964 : HS V c _ [0, 2, 4, 5, 6, 7, 8, 9, 10, 12, 13, 14, 15, 16, 17, 18, 19, 20, 21, 22, 23] _ _ := ⟨HR.mono (Z' := Z) (by intro e; first | rfl | assumption | omega) h8963.1, h8963.2⟩
            exact m_vret F hQ e_X10_readPay_56 (⟨P8958, oP8958, (by unfold RP; omega), h8964, rfl⟩)
        · have h8965 : HS V c (⟨T, 0, u, h, P8958, L⟩ : RG) [0, 2, 4, 5, 6, 7, 8, 9, 10, 12, 13, 14, 15, 16, 17, 18, 19, 20, 21, 22, 23] _ _ := ⟨h8960, h8956.2⟩
          refine m_istore F (lv' := [(4, .int (nI 0)), (3, .int (nI n8952)), (2, .int (nI n8945)), (1, .int (nI n8933)), (0, .ref c)]) e_X10_readPay_47 (by decide) rfl ?_
          refine m_aload_n F rfl e_X10_readPay_49 ?_
          refine r_get F e_X10_readPay_50 fl_X10_141 h8965 rfl (fun v hv f8966 => ?_)
          obtain ⟨x8967, hx8967, rfl⟩ := hv
          replace hx8967 : 0 = 0 → x8967 ≠ 0 := hx8967
          refine m_if_eq F e_X10_readPay_53 (fun q53 => ?_) (fun q53 => ?_)
          · first | exact absurd q53 (hx8967 rfl) | contradiction
          · have h8968 := HS.z0 h8965 (f8966) q53
            have h8969 : HS V c _ [0, 2, 4, 5, 6, 7, 8, 9, 10, 12, 13, 14, 15, 16, 17, 18, 19, 20, 21, 22, 23] _ _ := ⟨HR.mono (Z' := Z) (by intro e; first | rfl | assumption | omega) h8968.1, h8968.2⟩
            exact m_vret F hQ e_X10_readPay_56 (⟨P8958, oP8958, (by unfold RP; omega), h8969, rfl⟩)
      · have h8970 : HS V c (⟨T, 0, u, h, P8951, L⟩ : RG) [0, 2, 4, 5, 6, 7, 8, 9, 10, 12, 13, 14, 15, 16, 17, 18, 19, 20, 21, 22, 23] _ _ := ⟨h8953, h8949.2⟩
        refine m_istore_n F (lv' := [(3, .int (nI n8945)), (2, .int (nI n8945)), (1, .int (nI n8933)), (0, .ref c)]) e_X10_readPay_39 (by decide) rfl ?_
        refine m_aload_n F rfl e_X10_readPay_40 ?_
        refine m_iconst F (v := 0) (by decide) e_X10_readPay_41 ?_
        refine m_ldc F kc_X10_177 e_X10_readPay_42 ?_
        refine r_callV F e_X10_readPay_44 (q_X10_numeral (x_l X) V c T 0 u h P8951 L _ _ 0 99999 h8970.1 (hob) oP8951 (by omega) (by omega)) cb_X10_numeral ml_X10_165 im_X10_numeral se_X10_numeral h8970 rfl rfl (rest := []) rfl (Nat.le_of_ble_eq_true rfl) ⟨Nat.le_of_ble_eq_true rfl, Nat.le_of_ble_eq_true rfl⟩ ⟨Nat.le_of_ble_eq_true rfl, Nat.le_of_ble_eq_true rfl⟩ (fun r σ8971 hp => ?_)
        obtain ⟨P8975, oP8975, rP8975, h8972, c8974⟩ := hp
        have h8973 := HS.trans h8970 h8972 (by decide)
        have xP8975 := oP8975
        unfold OKP at xP8975
        unfold RA at rP8975
        rcases c8974 with ⟨n8976, gn8976, hn8976, rfl⟩ | ⟨h8977, rfl⟩
        · refine m_istore F (lv' := [(4, .int (nI n8976)), (3, .int (nI n8945)), (2, .int (nI n8945)), (1, .int (nI n8933)), (0, .ref c)]) e_X10_readPay_47 (by decide) rfl ?_
          refine m_aload_n F rfl e_X10_readPay_49 ?_
          refine r_get F e_X10_readPay_50 fl_X10_141 h8973 rfl (fun v hv f8978 => ?_)
          obtain ⟨x8979, hx8979, rfl⟩ := hv
          replace hx8979 : 0 = 0 → x8979 ≠ 0 := hx8979
          refine m_if_eq F e_X10_readPay_53 (fun q53 => ?_) (fun q53 => ?_)
          · first | exact absurd q53 (hx8979 rfl) | contradiction
          · have h8980 := HS.z0 h8973 (f8978) q53
            have h8981 : HS V c _ [0, 2, 4, 5, 6, 7, 8, 9, 10, 12, 13, 14, 15, 16, 17, 18, 19, 20, 21, 22, 23] _ _ := ⟨HR.mono (Z' := Z) (by intro e; first | rfl | assumption | omega) h8980.1, h8980.2⟩
            exact m_vret F hQ e_X10_readPay_56 (⟨P8975, oP8975, (by unfold RP; omega), h8981, rfl⟩)
        · have h8982 : HS V c (⟨T, 0, u, h, P8975, L⟩ : RG) [0, 2, 4, 5, 6, 7, 8, 9, 10, 12, 13, 14, 15, 16, 17, 18, 19, 20, 21, 22, 23] _ _ := ⟨h8977, h8973.2⟩
          refine m_istore F (lv' := [(4, .int (nI 0)), (3, .int (nI n8945)), (2, .int (nI n8945)), (1, .int (nI n8933)), (0, .ref c)]) e_X10_readPay_47 (by decide) rfl ?_
          refine m_aload_n F rfl e_X10_readPay_49 ?_
          refine r_get F e_X10_readPay_50 fl_X10_141 h8982 rfl (fun v hv f8983 => ?_)
          obtain ⟨x8984, hx8984, rfl⟩ := hv
          replace hx8984 : 0 = 0 → x8984 ≠ 0 := hx8984
          refine m_if_eq F e_X10_readPay_53 (fun q53 => ?_) (fun q53 => ?_)
          · first | exact absurd q53 (hx8984 rfl) | contradiction
          · have h8985 := HS.z0 h8982 (f8983) q53
            have h8986 : HS V c _ [0, 2, 4, 5, 6, 7, 8, 9, 10, 12, 13, 14, 15, 16, 17, 18, 19, 20, 21, 22, 23] _ _ := ⟨HR.mono (Z' := Z) (by intro e; first | rfl | assumption | omega) h8985.1, h8985.2⟩
            exact m_vret F hQ e_X10_readPay_56 (⟨P8975, oP8975, (by unfold RP; omega), h8986, rfl⟩)
    · have h8987 : HS V c (⟨T, 0, u, h, P8944, L⟩ : RG) [0, 2, 4, 5, 6, 7, 8, 9, 10, 12, 13, 14, 15, 16, 17, 18, 19, 20, 21, 22, 23] _ _ := ⟨h8946, h8942.2⟩
      refine m_istore_n F (lv' := [(2, .int (nI 1)), (1, .int (nI n8933)), (0, .ref c)]) e_X10_readPay_31 (by decide) rfl ?_
      refine m_aload_n F rfl e_X10_readPay_32 ?_
      refine m_iload_n F rfl e_X10_readPay_33 ?_
      refine m_bipush F (v := 48) (by decide) e_X10_readPay_34 ?_
      refine r_callV F e_X10_readPay_36 (q_X10_numeral (x_l X) V c T 0 u h P8944 L _ _ 1 48 h8987.1 (hob) oP8944 (by omega) (by omega)) cb_X10_numeral ml_X10_165 im_X10_numeral se_X10_numeral h8987 rfl rfl (rest := []) rfl (Nat.le_of_ble_eq_true rfl) ⟨Nat.le_of_ble_eq_true rfl, Nat.le_of_ble_eq_true rfl⟩ ⟨Nat.le_of_ble_eq_true rfl, Nat.le_of_ble_eq_true rfl⟩ (fun r σ8988 hp => ?_)
      obtain ⟨P8992, oP8992, rP8992, h8989, c8991⟩ := hp
      have h8990 := HS.trans h8987 h8989 (by decide)
      have xP8992 := oP8992
      unfold OKP at xP8992
      unfold RA at rP8992
      rcases c8991 with ⟨n8993, gn8993, hn8993, rfl⟩ | ⟨h8994, rfl⟩
      · refine m_istore_n F (lv' := [(3, .int (nI n8993)), (2, .int (nI 1)), (1, .int (nI n8933)), (0, .ref c)]) e_X10_readPay_39 (by decide) rfl ?_
        refine m_aload_n F rfl e_X10_readPay_40 ?_
        refine m_iconst F (v := 0) (by decide) e_X10_readPay_41 ?_
        refine m_ldc F kc_X10_177 e_X10_readPay_42 ?_
        refine r_callV F e_X10_readPay_44 (q_X10_numeral (x_l X) V c T 0 u h P8992 L _ _ 0 99999 h8990.1 (hob) oP8992 (by omega) (by omega)) cb_X10_numeral ml_X10_165 im_X10_numeral se_X10_numeral h8990 rfl rfl (rest := []) rfl (Nat.le_of_ble_eq_true rfl) ⟨Nat.le_of_ble_eq_true rfl, Nat.le_of_ble_eq_true rfl⟩ ⟨Nat.le_of_ble_eq_true rfl, Nat.le_of_ble_eq_true rfl⟩ (fun r σ8995 hp => ?_)
        obtain ⟨P8999, oP8999, rP8999, h8996, c8998⟩ := hp
        have h8997 := HS.trans h8990 h8996 (by decide)
        have xP8999 := oP8999
        unfold OKP at xP8999
        unfold RA at rP8999
        rcases c8998 with ⟨n9000, gn9000, hn9000, rfl⟩ | ⟨h9001, rfl⟩
        · refine m_istore F (lv' := [(4, .int (nI n9000)), (3, .int (nI n8993)), (2, .int (nI 1)), (1, .int (nI n8933)), (0, .ref c)]) e_X10_readPay_47 (by decide) rfl ?_
          refine m_aload_n F rfl e_X10_readPay_49 ?_
          refine r_get F e_X10_readPay_50 fl_X10_141 h8997 rfl (fun v hv f9002 => ?_)
          obtain ⟨x9003, hx9003, rfl⟩ := hv
          replace hx9003 : 0 = 0 → x9003 ≠ 0 := hx9003
          refine m_if_eq F e_X10_readPay_53 (fun q53 => ?_) (fun q53 => ?_)
          · first | exact absurd q53 (hx9003 rfl) | contradiction
          · have h9004 := HS.z0 h8997 (f9002) q53
            have h9005 : HS V c _ [0, 2, 4, 5, 6, 7, 8, 9, 10, 12, 13, 14, 15, 16, 17, 18, 19, 20, 21, 22, 23] _ _ := ⟨HR.mono (Z' := Z) (by intro e; first | rfl | assumption | omega) h9004.1, h9004.2⟩
            exact m_vret F hQ e_X10_readPay_56 (⟨P8999, oP8999, (by unfold RP; omega), h9005, rfl⟩)
        · have h9006 : HS V c (⟨T, 0, u, h, P8999, L⟩ : RG) [0, 2, 4, 5, 6, 7, 8, 9, 10, 12, 13, 14, 15, 16, 17, 18, 19, 20, 21, 22, 23] _ _ := ⟨h9001, h8997.2⟩
          refine m_istore F (lv' := [(4, .int (nI 0)), (3, .int (nI n8993)), (2, .int (nI 1)), (1, .int (nI n8933)), (0, .ref c)]) e_X10_readPay_47 (by decide) rfl ?_
          refine m_aload_n F rfl e_X10_readPay_49 ?_
          refine r_get F e_X10_readPay_50 fl_X10_141 h9006 rfl (fun v hv f9007 => ?_)
          obtain ⟨x9008, hx9008, rfl⟩ := hv
          replace hx9008 : 0 = 0 → x9008 ≠ 0 := hx9008
          refine m_if_eq F e_X10_readPay_53 (fun q53 => ?_) (fun q53 => ?_)
          · first | exact absurd q53 (hx9008 rfl) | contradiction
          · have h9009 := HS.z0 h9006 (f9007) q53
            have h9010 : HS V c _ [0, 2, 4, 5, 6, 7, 8, 9, 10, 12, 13, 14, 15, 16, 17, 18, 19, 20, 21, 22, 23] _ _ := ⟨HR.mono (Z' := Z) (by intro e; first | rfl | assumption | omega) h9009.1, h9009.2⟩
            exact m_vret F hQ e_X10_readPay_56 (⟨P8999, oP8999, (by unfold RP; omega), h9010, rfl⟩)
      · have h9011 : HS V c (⟨T, 0, u, h, P8992, L⟩ : RG) [0, 2, 4, 5, 6, 7, 8, 9, 10, 12, 13, 14, 15, 16, 17, 18, 19, 20, 21, 22, 23] _ _ := ⟨h8994, h8990.2⟩
        refine m_istore_n F (lv' := [(3, .int (nI 1)), (2, .int (nI 1)), (1, .int (nI n8933)), (0, .ref c)]) e_X10_readPay_39 (by decide) rfl ?_
        refine m_aload_n F rfl e_X10_readPay_40 ?_
        refine m_iconst F (v := 0) (by decide) e_X10_readPay_41 ?_
        refine m_ldc F kc_X10_177 e_X10_readPay_42 ?_
        refine r_callV F e_X10_readPay_44 (q_X10_numeral (x_l X) V c T 0 u h P8992 L _ _ 0 99999 h9011.1 (hob) oP8992 (by omega) (by omega)) cb_X10_numeral ml_X10_165 im_X10_numeral se_X10_numeral h9011 rfl rfl (rest := []) rfl (Nat.le_of_ble_eq_true rfl) ⟨Nat.le_of_ble_eq_true rfl, Nat.le_of_ble_eq_true rfl⟩ ⟨Nat.le_of_ble_eq_true rfl, Nat.le_of_ble_eq_true rfl⟩ (fun r σ9012 hp => ?_)
        obtain ⟨P9016, oP9016, rP9016, h9013, c9015⟩ := hp
        have h9014 := HS.trans h9011 h9013 (by decide)
        have xP9016 := oP9016
        unfold OKP at xP9016
        unfold RA at rP9016
        rcases c9015 with ⟨n9017, gn9017, hn9017, rfl⟩ | ⟨h9018, rfl⟩
        · refine m_istore F (lv' := [(4, .int (nI n9017)), (3, .int (nI 1)), (2, .int (nI 1)), (1, .int (nI n8933)), (0, .ref c)]) e_X10_readPay_47 (by decide) rfl ?_
          refine m_aload_n F rfl e_X10_readPay_49 ?_
          refine r_get F e_X10_readPay_50 fl_X10_141 h9014 rfl (fun v hv f9019 => ?_)
          obtain ⟨x9020, hx9020, rfl⟩ := hv
          replace hx9020 : 0 = 0 → x9020 ≠ 0 := hx9020
          refine m_if_eq F e_X10_readPay_53 (fun q53 => ?_) (fun q53 => ?_)
          · first | exact absurd q53 (hx9020 rfl) | contradiction
          · have h9021 := HS.z0 h9014 (f9019) q53
            have h9022 : HS V c _ [0, 2, 4, 5, 6, 7, 8, 9, 10, 12, 13, 14, 15, 16, 17, 18, 19, 20, 21, 22, 23] _ _ := ⟨HR.mono (Z' := Z) (by intro e; first | rfl | assumption | omega) h9021.1, h9021.2⟩
            exact m_vret F hQ e_X10_readPay_56 (⟨P9016, oP9016, (by unfold RP; omega), h9022, rfl⟩)
        · have h9023 : HS V c (⟨T, 0, u, h, P9016, L⟩ : RG) [0, 2, 4, 5, 6, 7, 8, 9, 10, 12, 13, 14, 15, 16, 17, 18, 19, 20, 21, 22, 23] _ _ := ⟨h9018, h9014.2⟩
          refine m_istore F (lv' := [(4, .int (nI 0)), (3, .int (nI 1)), (2, .int (nI 1)), (1, .int (nI n8933)), (0, .ref c)]) e_X10_readPay_47 (by decide) rfl ?_
          refine m_aload_n F rfl e_X10_readPay_49 ?_
          refine r_get F e_X10_readPay_50 fl_X10_141 h9023 rfl (fun v hv f9024 => ?_)
          obtain ⟨x9025, hx9025, rfl⟩ := hv
          replace hx9025 : 0 = 0 → x9025 ≠ 0 := hx9025
          refine m_if_eq F e_X10_readPay_53 (fun q53 => ?_) (fun q53 => ?_)
          · first | exact absurd q53 (hx9025 rfl) | contradiction
          · have h9026 := HS.z0 h9023 (f9024) q53
            have h9027 : HS V c _ [0, 2, 4, 5, 6, 7, 8, 9, 10, 12, 13, 14, 15, 16, 17, 18, 19, 20, 21, 22, 23] _ _ := ⟨HR.mono (Z' := Z) (by intro e; first | rfl | assumption | omega) h9026.1, h9026.2⟩
            exact m_vret F hQ e_X10_readPay_56 (⟨P9016, oP9016, (by unfold RP; omega), h9027, rfl⟩)
  · subst q7
    refine m_aload_n F rfl e_X10_readPay_10 ?_
    refine m_iconst F (v := 2) (by decide) e_X10_readPay_11 ?_
    refine r_callV F e_X10_readPay_12 (q_X10_wrong (x_l X) V c T Z u h P L _ _ 2 h8928.1 (hob) hP (by first | omega | assumption | decide)) cb_X10_wrong ml_X10_150 im_X10_wrong se_X10_wrong h8928 rfl rfl (rest := []) rfl (Nat.le_of_ble_eq_true rfl) ⟨Nat.le_of_ble_eq_true rfl, Nat.le_of_ble_eq_true rfl⟩ ⟨Nat.le_of_ble_eq_true rfl, Nat.le_of_ble_eq_true rfl⟩ (fun r σ9028 hp => ?_)
    obtain ⟨h9029, rfl⟩ := hp
    have h9030 := HS.trans h8928 h9029 (by decide)
    refine m_aload_n F rfl e_X10_readPay_15 ?_
    refine r_callV F e_X10_readPay_16 (q_X10_atHand (x_l X) V c T 0 u h P L _ _  h9030.1 (hob) hP ) cb_X10_atHand ml_X10_174 im_X10_atHand se_X10_atHand h9030 rfl rfl (rest := []) rfl (Nat.le_of_ble_eq_true rfl) ⟨Nat.le_of_ble_eq_true rfl, Nat.le_of_ble_eq_true rfl⟩ ⟨Nat.le_of_ble_eq_true rfl, Nat.le_of_ble_eq_true rfl⟩ (fun r σ9031 hp => ?_)
    obtain ⟨P9035, oP9035, rP9035, h9032, n9034, gn9034, hn9034, rfl⟩ := hp
    have h9033 := HS.trans h9030 h9032 (by decide)
    have xP9035 := oP9035
    unfold OKP at xP9035
    unfold RA at rP9035
    refine m_istore_n F (lv' := [(1, .int (nI n9034)), (0, .ref c)]) e_X10_readPay_19 (by decide) rfl ?_
    refine m_aload_n F rfl e_X10_readPay_20 ?_
    refine r_callV F e_X10_readPay_21 (q_X10_goOn (x_l X) V c T 0 u h P9035 L _ _  h9033.1 (hob) oP9035 ) cb_X10_goOn ml_X10_154 im_X10_goOn se_X10_goOn h9033 rfl rfl (rest := []) rfl (Nat.le_of_ble_eq_true rfl) ⟨Nat.le_of_ble_eq_true rfl, Nat.le_of_ble_eq_true rfl⟩ ⟨Nat.le_of_ble_eq_true rfl, Nat.le_of_ble_eq_true rfl⟩ (fun r σ9036 hp => ?_)
    obtain ⟨P9039, oP9039, rP9039, pr9040, h9037, rfl⟩ := hp
    have h9038 := HS.trans h9033 h9037 (by decide)
    have xP9039 := oP9039
    unfold OKP at xP9039
    unfold RA at rP9039
    refine m_aload_n F rfl e_X10_readPay_24 ?_
    refine m_iconst F (v := 1) (by decide) e_X10_readPay_25 ?_
    refine m_bipush F (v := 48) (by decide) e_X10_readPay_26 ?_
    refine r_callV F e_X10_readPay_28 (q_X10_numeral (x_l X) V c T 0 u h P9039 L _ _ 1 48 h9038.1 (hob) oP9039 (by omega) (by omega)) cb_X10_numeral ml_X10_165 im_X10_numeral se_X10_numeral h9038 rfl rfl (rest := []) rfl (Nat.le_of_ble_eq_true rfl) ⟨Nat.le_of_ble_eq_true rfl, Nat.le_of_ble_eq_true rfl⟩ ⟨Nat.le_of_ble_eq_true rfl, Nat.le_of_ble_eq_true rfl⟩ (fun r σ9041 hp => ?_)
    obtain ⟨P9045, oP9045, rP9045, h9042, c9044⟩ := hp
    have h9043 := HS.trans h9038 h9042 (by decide)
    have xP9045 := oP9045
    unfold OKP at xP9045
    unfold RA at rP9045
    rcases c9044 with ⟨n9046, gn9046, hn9046, rfl⟩ | ⟨h9047, rfl⟩
    · refine m_istore_n F (lv' := [(2, .int (nI n9046)), (1, .int (nI n9034)), (0, .ref c)]) e_X10_readPay_31 (by decide) rfl ?_
      refine m_aload_n F rfl e_X10_readPay_32 ?_
      refine m_iload_n F rfl e_X10_readPay_33 ?_
      refine m_bipush F (v := 48) (by decide) e_X10_readPay_34 ?_
      refine r_callV F e_X10_readPay_36 (q_X10_numeral (x_l X) V c T 0 u h P9045 L _ _ n9046 48 h9043.1 (hob) oP9045 (by omega) (by omega)) cb_X10_numeral ml_X10_165 im_X10_numeral se_X10_numeral h9043 rfl rfl (rest := []) rfl (Nat.le_of_ble_eq_true rfl) ⟨Nat.le_of_ble_eq_true rfl, Nat.le_of_ble_eq_true rfl⟩ ⟨Nat.le_of_ble_eq_true rfl, Nat.le_of_ble_eq_true rfl⟩ (fun r σ9048 hp => ?_)
      obtain ⟨P9052, oP9052, rP9052, h9049, c9051⟩ := hp
      have h9050 := HS.trans h9043 h9049 (by decide)
      have xP9052 := oP9052
      unfold OKP at xP9052
      unfold RA at rP9052
      rcases c9051 with ⟨n9053, gn9053, hn9053, rfl⟩ | ⟨h9054, rfl⟩
      · refine m_istore_n F (lv' := [(3, .int (nI n9053)), (2, .int (nI n9046)), (1, .int (nI n9034)), (0, .ref c)]) e_X10_readPay_39 (by decide) rfl ?_
        refine m_aload_n F rfl e_X10_readPay_40 ?_
        refine m_iconst F (v := 0) (by decide) e_X10_readPay_41 ?_
        refine m_ldc F kc_X10_177 e_X10_readPay_42 ?_
        refine r_callV F e_X10_readPay_44 (q_X10_numeral (x_l X) V c T 0 u h P9052 L _ _ 0 99999 h9050.1 (hob) oP9052 (by omega) (by omega)) cb_X10_numeral ml_X10_165 im_X10_numeral se_X10_numeral h9050 rfl rfl (rest := []) rfl (Nat.le_of_ble_eq_true rfl) ⟨Nat.le_of_ble_eq_true rfl, Nat.le_of_ble_eq_true rfl⟩ ⟨Nat.le_of_ble_eq_true rfl, Nat.le_of_ble_eq_true rfl⟩ (fun r σ9055 hp => ?_)
        obtain ⟨P9059, oP9059, rP9059, h9056, c9058⟩ := hp
        have h9057 := HS.trans h9050 h9056 (by decide)
        have xP9059 := oP9059
        unfold OKP at xP9059
        unfold RA at rP9059
        rcases c9058 with ⟨n9060, gn9060, hn9060, rfl⟩ | ⟨h9061, rfl⟩
        · refine m_istore F (lv' := [(4, .int (nI n9060)), (3, .int (nI n9053)), (2, .int (nI n9046)), (1, .int (nI n9034)), (0, .ref c)]) e_X10_readPay_47 (by decide) rfl ?_
          refine m_aload_n F rfl e_X10_readPay_49 ?_
          refine r_get F e_X10_readPay_50 fl_X10_141 h9057 rfl (fun v hv f9062 => ?_)
          obtain ⟨x9063, hx9063, rfl⟩ := hv
          replace hx9063 : 0 = 0 → x9063 ≠ 0 := hx9063
          refine m_if_eq F e_X10_readPay_53 (fun q53 => ?_) (fun q53 => ?_)
          · first | exact absurd q53 (hx9063 rfl) | contradiction
          · have h9064 := HS.z0 h9057 (f9062) q53
            have h9065 : HS V c _ [0, 2, 4, 5, 6, 7, 8, 9, 10, 12, 13, 14, 15, 16, 17, 18, 19, 20, 21, 22, 23] _ _ := ⟨HR.mono (Z' := Z) (by intro e; first | rfl | assumption | omega) h9064.1, h9064.2⟩
            exact m_vret F hQ e_X10_readPay_56 (⟨P9059, oP9059, (by unfold RP; omega), h9065, rfl⟩)
        · have h9066 : HS V c (⟨T, 0, u, h, P9059, L⟩ : RG) [0, 2, 4, 5, 6, 7, 8, 9, 10, 12, 13, 14, 15, 16, 17, 18, 19, 20, 21, 22, 23] _ _ := ⟨h9061, h9057.2⟩
          refine m_istore F (lv' := [(4, .int (nI 0)), (3, .int (nI n9053)), (2, .int (nI n9046)), (1, .int (nI n9034)), (0, .ref c)]) e_X10_readPay_47 (by decide) rfl ?_
          refine m_aload_n F rfl e_X10_readPay_49 ?_
          refine r_get F e_X10_readPay_50 fl_X10_141 h9066 rfl (fun v hv f9067 => ?_)
          obtain ⟨x9068, hx9068, rfl⟩ := hv
          replace hx9068 : 0 = 0 → x9068 ≠ 0 := hx9068
          refine m_if_eq F e_X10_readPay_53 (fun q53 => ?_) (fun q53 => ?_)
          · first | exact absurd q53 (hx9068 rfl) | contradiction
          · have h9069 := HS.z0 h9066 (f9067) q53
            have h9070 : HS V c _ [0, 2, 4, 5, 6, 7, 8, 9, 10, 12, 13, 14, 15, 16, 17, 18, 19, 20, 21, 22, 23] _ _ := ⟨HR.mono (Z' := Z) (by intro e; first | rfl | assumption | omega) h9069.1, h9069.2⟩
            exact m_vret F hQ e_X10_readPay_56 (⟨P9059, oP9059, (by unfold RP; omega), h9070, rfl⟩)
      · have h9071 : HS V c (⟨T, 0, u, h, P9052, L⟩ : RG) [0, 2, 4, 5, 6, 7, 8, 9, 10, 12, 13, 14, 15, 16, 17, 18, 19, 20, 21, 22, 23] _ _ := ⟨h9054, h9050.2⟩
        refine m_istore_n F (lv' := [(3, .int (nI n9046)), (2, .int (nI n9046)), (1, .int (nI n9034)), (0, .ref c)]) e_X10_readPay_39 (by decide) rfl ?_
        refine m_aload_n F rfl e_X10_readPay_40 ?_
        refine m_iconst F (v := 0) (by decide) e_X10_readPay_41 ?_
        refine m_ldc F kc_X10_177 e_X10_readPay_42 ?_
        refine r_callV F e_X10_readPay_44 (q_X10_numeral (x_l X) V c T 0 u h P9052 L _ _ 0 99999 h9071.1 (hob) oP9052 (by omega) (by omega)) cb_X10_numeral ml_X10_165 im_X10_numeral se_X10_numeral h9071 rfl rfl (rest := []) rfl (Nat.le_of_ble_eq_true rfl) ⟨Nat.le_of_ble_eq_true rfl, Nat.le_of_ble_eq_true rfl⟩ ⟨Nat.le_of_ble_eq_true rfl, Nat.le_of_ble_eq_true rfl⟩ (fun r σ9072 hp => ?_)
        obtain ⟨P9076, oP9076, rP9076, h9073, c9075⟩ := hp
        have h9074 := HS.trans h9071 h9073 (by decide)
        have xP9076 := oP9076
        unfold OKP at xP9076
        unfold RA at rP9076
        rcases c9075 with ⟨n9077, gn9077, hn9077, rfl⟩ | ⟨h9078, rfl⟩
        · refine m_istore F (lv' := [(4, .int (nI n9077)), (3, .int (nI n9046)), (2, .int (nI n9046)), (1, .int (nI n9034)), (0, .ref c)]) e_X10_readPay_47 (by decide) rfl ?_
          refine m_aload_n F rfl e_X10_readPay_49 ?_
          refine r_get F e_X10_readPay_50 fl_X10_141 h9074 rfl (fun v hv f9079 => ?_)
          obtain ⟨x9080, hx9080, rfl⟩ := hv
          replace hx9080 : 0 = 0 → x9080 ≠ 0 := hx9080
          refine m_if_eq F e_X10_readPay_53 (fun q53 => ?_) (fun q53 => ?_)
          · first | exact absurd q53 (hx9080 rfl) | contradiction
          · have h9081 := HS.z0 h9074 (f9079) q53
            have h9082 : HS V c _ [0, 2, 4, 5, 6, 7, 8, 9, 10, 12, 13, 14, 15, 16, 17, 18, 19, 20, 21, 22, 23] _ _ := ⟨HR.mono (Z' := Z) (by intro e; first | rfl | assumption | omega) h9081.1, h9081.2⟩
            exact m_vret F hQ e_X10_readPay_56 (⟨P9076, oP9076, (by unfold RP; omega), h9082, rfl⟩)
        · have h9083 : HS V c (⟨T, 0, u, h, P9076, L⟩ : RG) [0, 2, 4, 5, 6, 7, 8, 9, 10, 12, 13, 14, 15, 16, 17, 18, 19, 20, 21, 22, 23] _ _ := ⟨h9078, h9074.2⟩
          refine m_istore F (lv' := [(4, .int (nI 0)), (3, .int (nI n9046)), (2, .int (nI n9046)), (1, .int (nI n9034)), (0, .ref c)]) e_X10_readPay_47 (by decide) rfl ?_
          refine m_aload_n F rfl e_X10_readPay_49 ?_
          refine r_get F e_X10_readPay_50 fl_X10_141 h9083 rfl (fun v hv f9084 => ?_)
          obtain ⟨x9085, hx9085, rfl⟩ := hv
          replace hx9085 : 0 = 0 → x9085 ≠ 0 := hx9085
          refine m_if_eq F e_X10_readPay_53 (fun q53 => ?_) (fun q53 => ?_)
          · first | exact absurd q53 (hx9085 rfl) | contradiction
          · have h9086 := HS.z0 h9083 (f9084) q53
            have h9087 : HS V c _ [0, 2, 4, 5, 6, 7, 8, 9, 10, 12, 13, 14, 15, 16, 17, 18, 19, 20, 21, 22, 23] _ _ := ⟨HR.mono (Z' := Z) (by intro e; first | rfl | assumption | omega) h9086.1, h9086.2⟩
            exact m_vret F hQ e_X10_readPay_56 (⟨P9076, oP9076, (by unfold RP; omega), h9087, rfl⟩)
    · have h9088 : HS V c (⟨T, 0, u, h, P9045, L⟩ : RG) [0, 2, 4, 5, 6, 7, 8, 9, 10, 12, 13, 14, 15, 16, 17, 18, 19, 20, 21, 22, 23] _ _ := ⟨h9047, h9043.2⟩
      refine m_istore_n F (lv' := [(2, .int (nI 1)), (1, .int (nI n9034)), (0, .ref c)]) e_X10_readPay_31 (by decide) rfl ?_
      refine m_aload_n F rfl e_X10_readPay_32 ?_
      refine m_iload_n F rfl e_X10_readPay_33 ?_
      refine m_bipush F (v := 48) (by decide) e_X10_readPay_34 ?_
      refine r_callV F e_X10_readPay_36 (q_X10_numeral (x_l X) V c T 0 u h P9045 L _ _ 1 48 h9088.1 (hob) oP9045 (by omega) (by omega)) cb_X10_numeral ml_X10_165 im_X10_numeral se_X10_numeral h9088 rfl rfl (rest := []) rfl (Nat.le_of_ble_eq_true rfl) ⟨Nat.le_of_ble_eq_true rfl, Nat.le_of_ble_eq_true rfl⟩ ⟨Nat.le_of_ble_eq_true rfl, Nat.le_of_ble_eq_true rfl⟩ (fun r σ9089 hp => ?_)
      obtain ⟨P9093, oP9093, rP9093, h9090, c9092⟩ := hp
      have h9091 := HS.trans h9088 h9090 (by decide)
      have xP9093 := oP9093
      unfold OKP at xP9093
      unfold RA at rP9093
      rcases c9092 with ⟨n9094, gn9094, hn9094, rfl⟩ | ⟨h9095, rfl⟩
      · refine m_istore_n F (lv' := [(3, .int (nI n9094)), (2, .int (nI 1)), (1, .int (nI n9034)), (0, .ref c)]) e_X10_readPay_39 (by decide) rfl ?_
        refine m_aload_n F rfl e_X10_readPay_40 ?_
        refine m_iconst F (v := 0) (by decide) e_X10_readPay_41 ?_
        refine m_ldc F kc_X10_177 e_X10_readPay_42 ?_
        refine r_callV F e_X10_readPay_44 (q_X10_numeral (x_l X) V c T 0 u h P9093 L _ _ 0 99999 h9091.1 (hob) oP9093 (by omega) (by omega)) cb_X10_numeral ml_X10_165 im_X10_numeral se_X10_numeral h9091 rfl rfl (rest := []) rfl (Nat.le_of_ble_eq_true rfl) ⟨Nat.le_of_ble_eq_true rfl, Nat.le_of_ble_eq_true rfl⟩ ⟨Nat.le_of_ble_eq_true rfl, Nat.le_of_ble_eq_true rfl⟩ (fun r σ9096 hp => ?_)
        obtain ⟨P9100, oP9100, rP9100, h9097, c9099⟩ := hp
        have h9098 := HS.trans h9091 h9097 (by decide)
        have xP9100 := oP9100
        unfold OKP at xP9100
        unfold RA at rP9100
        rcases c9099 with ⟨n9101, gn9101, hn9101, rfl⟩ | ⟨h9102, rfl⟩
        · refine m_istore F (lv' := [(4, .int (nI n9101)), (3, .int (nI n9094)), (2, .int (nI 1)), (1, .int (nI n9034)), (0, .ref c)]) e_X10_readPay_47 (by decide) rfl ?_
          refine m_aload_n F rfl e_X10_readPay_49 ?_
          refine r_get F e_X10_readPay_50 fl_X10_141 h9098 rfl (fun v hv f9103 => ?_)
          obtain ⟨x9104, hx9104, rfl⟩ := hv
          replace hx9104 : 0 = 0 → x9104 ≠ 0 := hx9104
          refine m_if_eq F e_X10_readPay_53 (fun q53 => ?_) (fun q53 => ?_)
          · first | exact absurd q53 (hx9104 rfl) | contradiction
          · have h9105 := HS.z0 h9098 (f9103) q53
            have h9106 : HS V c _ [0, 2, 4, 5, 6, 7, 8, 9, 10, 12, 13, 14, 15, 16, 17, 18, 19, 20, 21, 22, 23] _ _ := ⟨HR.mono (Z' := Z) (by intro e; first | rfl | assumption | omega) h9105.1, h9105.2⟩
            exact m_vret F hQ e_X10_readPay_56 (⟨P9100, oP9100, (by unfold RP; omega), h9106, rfl⟩)
        · have h9107 : HS V c (⟨T, 0, u, h, P9100, L⟩ : RG) [0, 2, 4, 5, 6, 7, 8, 9, 10, 12, 13, 14, 15, 16, 17, 18, 19, 20, 21, 22, 23] _ _ := ⟨h9102, h9098.2⟩
          refine m_istore F (lv' := [(4, .int (nI 0)), (3, .int (nI n9094)), (2, .int (nI 1)), (1, .int (nI n9034)), (0, .ref c)]) e_X10_readPay_47 (by decide) rfl ?_
          refine m_aload_n F rfl e_X10_readPay_49 ?_
          refine r_get F e_X10_readPay_50 fl_X10_141 h9107 rfl (fun v hv f9108 => ?_)
          obtain ⟨x9109, hx9109, rfl⟩ := hv
          replace hx9109 : 0 = 0 → x9109 ≠ 0 := hx9109
          refine m_if_eq F e_X10_readPay_53 (fun q53 => ?_) (fun q53 => ?_)
          · first | exact absurd q53 (hx9109 rfl) | contradiction
          · have h9110 := HS.z0 h9107 (f9108) q53
            have h9111 : HS V c _ [0, 2, 4, 5, 6, 7, 8, 9, 10, 12, 13, 14, 15, 16, 17, 18, 19, 20, 21, 22, 23] _ _ := ⟨HR.mono (Z' := Z) (by intro e; first | rfl | assumption | omega) h9110.1, h9110.2⟩
            exact m_vret F hQ e_X10_readPay_56 (⟨P9100, oP9100, (by unfold RP; omega), h9111, rfl⟩)
      · have h9112 : HS V c (⟨T, 0, u, h, P9093, L⟩ : RG) [0, 2, 4, 5, 6, 7, 8, 9, 10, 12, 13, 14, 15, 16, 17, 18, 19, 20, 21, 22, 23] _ _ := ⟨h9095, h9091.2⟩
        refine m_istore_n F (lv' := [(3, .int (nI 1)), (2, .int (nI 1)), (1, .int (nI n9034)), (0, .ref c)]) e_X10_readPay_39 (by decide) rfl ?_
        refine m_aload_n F rfl e_X10_readPay_40 ?_
        refine m_iconst F (v := 0) (by decide) e_X10_readPay_41 ?_
        refine m_ldc F kc_X10_177 e_X10_readPay_42 ?_
        refine r_callV F e_X10_readPay_44 (q_X10_numeral (x_l X) V c T 0 u h P9093 L _ _ 0 99999 h9112.1 (hob) oP9093 (by omega) (by omega)) cb_X10_numeral ml_X10_165 im_X10_numeral se_X10_numeral h9112 rfl rfl (rest := []) rfl (Nat.le_of_ble_eq_true rfl) ⟨Nat.le_of_ble_eq_true rfl, Nat.le_of_ble_eq_true rfl⟩ ⟨Nat.le_of_ble_eq_true rfl, Nat.le_of_ble_eq_true rfl⟩ (fun r σ9113 hp => ?_)
        obtain ⟨P9117, oP9117, rP9117, h9114, c9116⟩ := hp
        have h9115 := HS.trans h9112 h9114 (by decide)
        have xP9117 := oP9117
        unfold OKP at xP9117
        unfold RA at rP9117
        rcases c9116 with ⟨n9118, gn9118, hn9118, rfl⟩ | ⟨h9119, rfl⟩
        · refine m_istore F (lv' := [(4, .int (nI n9118)), (3, .int (nI 1)), (2, .int (nI 1)), (1, .int (nI n9034)), (0, .ref c)]) e_X10_readPay_47 (by decide) rfl ?_
          refine m_aload_n F rfl e_X10_readPay_49 ?_
          refine r_get F e_X10_readPay_50 fl_X10_141 h9115 rfl (fun v hv f9120 => ?_)
          obtain ⟨x9121, hx9121, rfl⟩ := hv
          replace hx9121 : 0 = 0 → x9121 ≠ 0 := hx9121
          refine m_if_eq F e_X10_readPay_53 (fun q53 => ?_) (fun q53 => ?_)
          · first | exact absurd q53 (hx9121 rfl) | contradiction
          · have h9122 := HS.z0 h9115 (f9120) q53
            have h9123 : HS V c _ [0, 2, 4, 5, 6, 7, 8, 9, 10, 12, 13, 14, 15, 16, 17, 18, 19, 20, 21, 22, 23] _ _ := ⟨HR.mono (Z' := Z) (by intro e; first | rfl | assumption | omega) h9122.1, h9122.2⟩
            exact m_vret F hQ e_X10_readPay_56 (⟨P9117, oP9117, (by unfold RP; omega), h9123, rfl⟩)
        · have h9124 : HS V c (⟨T, 0, u, h, P9117, L⟩ : RG) [0, 2, 4, 5, 6, 7, 8, 9, 10, 12, 13, 14, 15, 16, 17, 18, 19, 20, 21, 22, 23] _ _ := ⟨h9119, h9115.2⟩
          refine m_istore F (lv' := [(4, .int (nI 0)), (3, .int (nI 1)), (2, .int (nI 1)), (1, .int (nI n9034)), (0, .ref c)]) e_X10_readPay_47 (by decide) rfl ?_
          refine m_aload_n F rfl e_X10_readPay_49 ?_
          refine r_get F e_X10_readPay_50 fl_X10_141 h9124 rfl (fun v hv f9125 => ?_)
          obtain ⟨x9126, hx9126, rfl⟩ := hv
          replace hx9126 : 0 = 0 → x9126 ≠ 0 := hx9126
          refine m_if_eq F e_X10_readPay_53 (fun q53 => ?_) (fun q53 => ?_)
          · first | exact absurd q53 (hx9126 rfl) | contradiction
          · have h9127 := HS.z0 h9124 (f9125) q53
            have h9128 : HS V c _ [0, 2, 4, 5, 6, 7, 8, 9, 10, 12, 13, 14, 15, 16, 17, 18, 19, 20, 21, 22, 23] _ _ := ⟨HR.mono (Z' := Z) (by intro e; first | rfl | assumption | omega) h9127.1, h9127.2⟩
            exact m_vret F hQ e_X10_readPay_56 (⟨P9117, oP9117, (by unfold RP; omega), h9128, rfl⟩)
set_option maxRecDepth 20000 in
theorem q_X10_readMark (l : Launch) (V : VX) (c T Z u h : Nat) (P : NP) (L : Nat → LQ) (N : Nat) (σ : Mem) (x901 : Int32) (h0 : HR V c ⟨T, Z, u, h, P, L⟩ σ) (hob : OKB L) (hP : OKP P)  : Ct l V yX10_readMark cX10_readMark 3 none 8 0 0 N σ [.ref c, .int x901] (fun r τ => ∃ P9 : NP, OKP P9 ∧ RP P P9 ∧ HS V c (⟨T, Z, u, h, P9, L⟩ : RG) [0, 2, 3, 4, 5, 6, 7, 9, 10, 11, 12, 13, 14, 15, 16, 17, 18, 19, 20, 21, 22, 23] σ τ ∧ r = none) := by
  refine Ct.of (by decide) (Nat.le_of_ble_eq_true rfl) [(0, .ref c), (1, .int x901)] rfl (fun X hX F hQ => ?_)
  have hPP := hP
  unfold OKP at hPP
  have h1 : HS V c ⟨T, Z, u, h, P, L⟩ [0, 2, 3, 4, 5, 6, 7, 9, 10, 11, 12, 13, 14, 15, 16, 17, 18, 19, 20, 21, 22, 23] σ σ := HS.start h0
  refine m_aload_n F rfl e_X10_readMark_0 ?_
  refine r_callV F e_X10_readMark_1 (q_X10_atHand (x_l X) V c T Z u h P L _ _  h1.1 (hob) hP ) cb_X10_atHand ml_X10_174 im_X10_atHand se_X10_atHand h1 rfl rfl (rest := []) rfl (Nat.le_of_ble_eq_true rfl) ⟨Nat.le_of_ble_eq_true rfl, Nat.le_of_ble_eq_true rfl⟩ ⟨Nat.le_of_ble_eq_true rfl, Nat.le_of_ble_eq_true rfl⟩ (fun r σ9129 hp => ?_)
  obtain ⟨P9133, oP9133, rP9133, h9130, n9132, gn9132, hn9132, rfl⟩ := hp
  have h9131 := HS.trans h1 h9130 (by decide)
  have xP9133 := oP9133
  unfold OKP at xP9133
  unfold RA at rP9133
  refine m_istore_n F (lv' := [(2, .int (nI n9132)), (0, .ref c), (1, .int x901)]) e_X10_readMark_4 (by decide) rfl ?_
  refine m_aload_n F rfl e_X10_readMark_5 ?_
  refine r_get F e_X10_readMark_6 fl_X10_141 h9131 rfl (fun v hv f9134 => ?_)
  obtain ⟨x9135, hx9135, rfl⟩ := hv
  replace hx9135 : Z = 0 → x9135 ≠ 0 := hx9135
  refine m_if_ne F e_X10_readMark_9 (fun q9 => ?_) (fun q9 => ?_)
  · have h9136 := HS.z0 h9131 (f9134) q9
    refine m_aload_n F rfl e_X10_readMark_28 ?_
    refine r_getC F e_X10_readMark_29 fl_X10_141 h9136 (f9134) ?_
    refine m_if_ne F e_X10_readMark_32 (fun q32 => ?_) (fun q32 => ?_)
    · have h9137 := HS.z0 h9136 (f9134) q32
      refine m_aload_n F rfl e_X10_readMark_45 ?_
      refine r_callV F e_X10_readMark_46 (q_X10_goOn (x_l X) V c T 0 u h P9133 L _ _  h9137.1 (hob) oP9133 ) cb_X10_goOn ml_X10_154 im_X10_goOn se_X10_goOn h9137 rfl rfl (rest := []) rfl (Nat.le_of_ble_eq_true rfl) ⟨Nat.le_of_ble_eq_true rfl, Nat.le_of_ble_eq_true rfl⟩ ⟨Nat.le_of_ble_eq_true rfl, Nat.le_of_ble_eq_true rfl⟩ (fun r σ9138 hp => ?_)
      obtain ⟨P9141, oP9141, rP9141, pr9142, h9139, rfl⟩ := hp
      have h9140 := HS.trans h9137 h9139 (by decide)
      have xP9141 := oP9141
      unfold OKP at xP9141
      unfold RA at rP9141
      have h9143 : HS V c _ [0, 2, 3, 4, 5, 6, 7, 9, 10, 11, 12, 13, 14, 15, 16, 17, 18, 19, 20, 21, 22, 23] _ _ := ⟨HR.mono (Z' := Z) (by intro e; first | rfl | assumption | omega) h9140.1, h9140.2⟩
      exact m_vret F hQ e_X10_readMark_49 (⟨P9141, oP9141, (by unfold RP; omega), h9143, rfl⟩)
    · first | exact absurd q32 (hx9135 rfl) | contradiction
  · subst q9
    refine m_aload_n F rfl e_X10_readMark_12 ?_
    refine r_get F e_X10_readMark_13 fl_X10_28 h9131 rfl (fun v hv f9144 => ?_)
    obtain rfl : v = .ref (c + 7) := hv
    refine m_iload_n F rfl e_X10_readMark_16 ?_
    refine r_iald F (len := 8) (j := n9132) e_X10_readMark_17 h9131 (fun _ h => h) (by decide) (nI_clamp (by omega)) (vp_in_nI (by omega) (by decide)) (fun x9145 h9146 f9147 => ?_)
    refine m_iload_n F rfl e_X10_readMark_18 ?_
    refine m_iand F e_X10_readMark_19 ?_
    refine Wm.top (fun x9148 _ => ?_)
    refine m_if_eq F e_X10_readMark_20 (fun q20 => ?_) (fun q20 => ?_)
    · subst q20
      refine m_aload_n F rfl e_X10_readMark_28 ?_
      refine r_getC F e_X10_readMark_29 fl_X10_141 h9131 (f9134) ?_
      refine m_if_ne F e_X10_readMark_32 (fun q => absurd (by decide) q) (fun _ => ?_)
      refine m_aload_n F rfl e_X10_readMark_35 ?_
      refine r_getC F e_X10_readMark_36 fl_X10_28 h9131 (f9144) ?_
      refine m_iload_n F rfl e_X10_readMark_39 ?_
      refine m_dup2_11 F rfl rfl e_X10_readMark_40 ?_
      refine r_iald F (len := 8) (j := n9132) e_X10_readMark_41 h9131 (fun _ h => h) (by decide) (nI_clamp (by omega)) (vp_in_nI (by omega) (by decide)) (fun x9149 h9150 f9151 => ?_)
      obtain rfl := Option.some.inj ((f9151).symm.trans (f9147))
      refine m_iload_n F rfl e_X10_readMark_42 ?_
      refine m_ior F e_X10_readMark_43 ?_
      refine Wm.top (fun x9152 _ => ?_)
      refine r_iast F (g' := (⟨T, Z, u, h, P9133, L⟩ : RG)) (len := 8) (j := n9132) e_X10_readMark_44 h9131 (fun _ h => h) (fun f h => ⟨f, rfl, h⟩) (by decide) (by decide) (nI_clamp (by omega)) (vp_in_nI (by omega) (by decide)) trivial (fun _ _ _ h => h) (fun _ _ _ h => h) (fun σ9153 h9154 g9155 f9156 g9157 => ?_)
      refine m_aload_n F rfl e_X10_readMark_45 ?_
      refine r_callV F e_X10_readMark_46 (q_X10_goOn (x_l X) V c T Z u h P9133 L _ _  h9154.1 (hob) oP9133 ) cb_X10_goOn ml_X10_154 im_X10_goOn se_X10_goOn h9154 rfl rfl (rest := []) rfl (Nat.le_of_ble_eq_true rfl) ⟨Nat.le_of_ble_eq_true rfl, Nat.le_of_ble_eq_true rfl⟩ ⟨Nat.le_of_ble_eq_true rfl, Nat.le_of_ble_eq_true rfl⟩ (fun r σ9158 hp => ?_)
      obtain ⟨P9161, oP9161, rP9161, pr9162, h9159, rfl⟩ := hp
      have h9160 := HS.trans h9154 h9159 (by decide)
      have xP9161 := oP9161
      unfold OKP at xP9161
      unfold RA at rP9161
      exact m_vret F hQ e_X10_readMark_49 (⟨P9161, oP9161, (by unfold RP; omega), h9160, rfl⟩)
    · refine m_aload_n F rfl e_X10_readMark_23 ?_
      refine m_iconst F (v := 3) (by decide) e_X10_readMark_24 ?_
      refine r_callV F e_X10_readMark_25 (q_X10_wrong (x_l X) V c T Z u h P9133 L _ _ 3 h9131.1 (hob) oP9133 (by first | omega | assumption | decide)) cb_X10_wrong ml_X10_150 im_X10_wrong se_X10_wrong h9131 rfl rfl (rest := []) rfl (Nat.le_of_ble_eq_true rfl) ⟨Nat.le_of_ble_eq_true rfl, Nat.le_of_ble_eq_true rfl⟩ ⟨Nat.le_of_ble_eq_true rfl, Nat.le_of_ble_eq_true rfl⟩ (fun r σ9163 hp => ?_)
      obtain ⟨h9164, rfl⟩ := hp
      have h9165 := HS.trans h9131 h9164 (by decide)
      refine m_aload_n F rfl e_X10_readMark_28 ?_
      refine r_get F e_X10_readMark_29 fl_X10_141 h9165 rfl (fun v hv f9166 => ?_)
      obtain ⟨x9167, hx9167, rfl⟩ := hv
      replace hx9167 : 0 = 0 → x9167 ≠ 0 := hx9167
      refine m_if_ne F e_X10_readMark_32 (fun q32 => ?_) (fun q32 => ?_)
      · have h9168 := HS.z0 h9165 (f9166) q32
        refine m_aload_n F rfl e_X10_readMark_45 ?_
        refine r_callV F e_X10_readMark_46 (q_X10_goOn (x_l X) V c T 0 u h P9133 L _ _  h9168.1 (hob) oP9133 ) cb_X10_goOn ml_X10_154 im_X10_goOn se_X10_goOn h9168 rfl rfl (rest := []) rfl (Nat.le_of_ble_eq_true rfl) ⟨Nat.le_of_ble_eq_true rfl, Nat.le_of_ble_eq_true rfl⟩ ⟨Nat.le_of_ble_eq_true rfl, Nat.le_of_ble_eq_true rfl⟩ (fun r σ9169 hp => ?_)
        obtain ⟨P9172, oP9172, rP9172, pr9173, h9170, rfl⟩ := hp
        have h9171 := HS.trans h9168 h9170 (by decide)
        have xP9172 := oP9172
        unfold OKP at xP9172
        unfold RA at rP9172
        have h9174 : HS V c _ [0, 2, 3, 4, 5, 6, 7, 9, 10, 11, 12, 13, 14, 15, 16, 17, 18, 19, 20, 21, 22, 23] _ _ := ⟨HR.mono (Z' := Z) (by intro e; first | rfl | assumption | omega) h9171.1, h9171.2⟩
        exact m_vret F hQ e_X10_readMark_49 (⟨P9172, oP9172, (by unfold RP; omega), h9174, rfl⟩)
      · first | exact absurd q32 (hx9167 rfl) | contradiction
set_option maxRecDepth 20000 in
theorem q_X10_readFair (l : Launch) (V : VX) (c T Z u h : Nat) (P : NP) (L : Nat → LQ) (N : Nat) (σ : Mem)  (h0 : HR V c ⟨T, Z, u, h, P, L⟩ σ) (hob : OKB L) (hP : OKP P)  : Ct l V yX10_readFair cX10_readFair 3 none 8 0 0 N σ [.ref c] (fun r τ => ∃ P9 : NP, OKP P9 ∧ RP P P9 ∧ HS V c (⟨T, Z, u, h, P9, L⟩ : RG) [0, 2, 3, 4, 5, 6, 7, 8, 10, 11, 12, 13, 14, 15, 16, 17, 18, 19, 20, 21, 22, 23] σ τ ∧ r = none) := by
  refine Ct.of (by decide) (Nat.le_of_ble_eq_true rfl) [(0, .ref c)] rfl (fun X hX F hQ => ?_)
  have hPP := hP
  unfold OKP at hPP
  have h1 : HS V c ⟨T, Z, u, h, P, L⟩ [0, 2, 3, 4, 5, 6, 7, 8, 10, 11, 12, 13, 14, 15, 16, 17, 18, 19, 20, 21, 22, 23] σ σ := HS.start h0
  refine m_aload_n F rfl e_X10_readFair_0 ?_
  refine r_callV F e_X10_readFair_1 (q_X10_atHand (x_l X) V c T Z u h P L _ _  h1.1 (hob) hP ) cb_X10_atHand ml_X10_174 im_X10_atHand se_X10_atHand h1 rfl rfl (rest := []) rfl (Nat.le_of_ble_eq_true rfl) ⟨Nat.le_of_ble_eq_true rfl, Nat.le_of_ble_eq_true rfl⟩ ⟨Nat.le_of_ble_eq_true rfl, Nat.le_of_ble_eq_true rfl⟩ (fun r σ9175 hp => ?_)
  obtain ⟨P9179, oP9179, rP9179, h9176, n9178, gn9178, hn9178, rfl⟩ := hp
  have h9177 := HS.trans h1 h9176 (by decide)
  have xP9179 := oP9179
  unfold OKP at xP9179
  unfold RA at rP9179
  refine m_istore_n F (lv' := [(1, .int (nI n9178)), (0, .ref c)]) e_X10_readFair_4 (by decide) rfl ?_
  refine m_aload_n F rfl e_X10_readFair_5 ?_
  refine r_get F e_X10_readFair_6 fl_X10_141 h9177 rfl (fun v hv f9180 => ?_)
  obtain ⟨x9181, hx9181, rfl⟩ := hv
  replace hx9181 : Z = 0 → x9181 ≠ 0 := hx9181
  refine m_if_ne F e_X10_readFair_9 (fun q9 => ?_) (fun q9 => ?_)
  · have h9182 := HS.z0 h9177 (f9180) q9
    refine m_aload_n F rfl e_X10_readFair_26 ?_
    refine r_callV F e_X10_readFair_27 (q_X10_goOn (x_l X) V c T 0 u h P9179 L _ _  h9182.1 (hob) oP9179 ) cb_X10_goOn ml_X10_154 im_X10_goOn se_X10_goOn h9182 rfl rfl (rest := []) rfl (Nat.le_of_ble_eq_true rfl) ⟨Nat.le_of_ble_eq_true rfl, Nat.le_of_ble_eq_true rfl⟩ ⟨Nat.le_of_ble_eq_true rfl, Nat.le_of_ble_eq_true rfl⟩ (fun r σ9183 hp => ?_)
    obtain ⟨P9186, oP9186, rP9186, pr9187, h9184, rfl⟩ := hp
    have h9185 := HS.trans h9182 h9184 (by decide)
    have xP9186 := oP9186
    unfold OKP at xP9186
    unfold RA at rP9186
    refine m_aload_n F rfl e_X10_readFair_30 ?_
    refine m_iconst F (v := 1) (by decide) e_X10_readFair_31 ?_
    refine m_ldc F kc_X10_129 e_X10_readFair_32 ?_
    refine r_callV F e_X10_readFair_34 (q_X10_numeral (x_l X) V c T 0 u h P9186 L _ _ 1 9999999 h9185.1 (hob) oP9186 (by omega) (by omega)) cb_X10_numeral ml_X10_165 im_X10_numeral se_X10_numeral h9185 rfl rfl (rest := []) rfl (Nat.le_of_ble_eq_true rfl) ⟨Nat.le_of_ble_eq_true rfl, Nat.le_of_ble_eq_true rfl⟩ ⟨Nat.le_of_ble_eq_true rfl, Nat.le_of_ble_eq_true rfl⟩ (fun r σ9188 hp => ?_)
    obtain ⟨P9192, oP9192, rP9192, h9189, c9191⟩ := hp
    have h9190 := HS.trans h9185 h9189 (by decide)
    have xP9192 := oP9192
    unfold OKP at xP9192
    unfold RA at rP9192
    rcases c9191 with ⟨n9193, gn9193, hn9193, rfl⟩ | ⟨h9194, rfl⟩
    · refine m_istore_n F (lv' := [(2, .int (nI n9193)), (1, .int (nI n9178)), (0, .ref c)]) e_X10_readFair_37 (by decide) rfl ?_
      refine m_aload_n F rfl e_X10_readFair_38 ?_
      refine r_get F e_X10_readFair_39 fl_X10_141 h9190 rfl (fun v hv f9195 => ?_)
      obtain ⟨x9196, hx9196, rfl⟩ := hv
      replace hx9196 : 0 = 0 → x9196 ≠ 0 := hx9196
      refine m_if_ne F e_X10_readFair_42 (fun q42 => ?_) (fun q42 => ?_)
      · have h9197 := HS.z0 h9190 (f9195) q42
        have h9198 : HS V c _ [0, 2, 3, 4, 5, 6, 7, 8, 10, 11, 12, 13, 14, 15, 16, 17, 18, 19, 20, 21, 22, 23] _ _ := ⟨HR.mono (Z' := Z) (by intro e; first | rfl | assumption | omega) h9197.1, h9197.2⟩
        exact m_vret F hQ e_X10_readFair_52 (⟨P9192, oP9192, (by unfold RP; omega), h9198, rfl⟩)
      · first | exact absurd q42 (hx9196 rfl) | contradiction
    · have h9199 : HS V c (⟨T, 0, u, h, P9192, L⟩ : RG) [0, 2, 3, 4, 5, 6, 7, 8, 10, 11, 12, 13, 14, 15, 16, 17, 18, 19, 20, 21, 22, 23] _ _ := ⟨h9194, h9190.2⟩
      refine m_istore_n F (lv' := [(2, .int (nI 1)), (1, .int (nI n9178)), (0, .ref c)]) e_X10_readFair_37 (by decide) rfl ?_
      refine m_aload_n F rfl e_X10_readFair_38 ?_
      refine r_get F e_X10_readFair_39 fl_X10_141 h9199 rfl (fun v hv f9200 => ?_)
      obtain ⟨x9201, hx9201, rfl⟩ := hv
      replace hx9201 : 0 = 0 → x9201 ≠ 0 := hx9201
      refine m_if_ne F e_X10_readFair_42 (fun q42 => ?_) (fun q42 => ?_)
      · have h9202 := HS.z0 h9199 (f9200) q42
        have h9203 : HS V c _ [0, 2, 3, 4, 5, 6, 7, 8, 10, 11, 12, 13, 14, 15, 16, 17, 18, 19, 20, 21, 22, 23] _ _ := ⟨HR.mono (Z' := Z) (by intro e; first | rfl | assumption | omega) h9202.1, h9202.2⟩
        exact m_vret F hQ e_X10_readFair_52 (⟨P9192, oP9192, (by unfold RP; omega), h9203, rfl⟩)
      · first | exact absurd q42 (hx9201 rfl) | contradiction
  · subst q9
    refine m_aload_n F rfl e_X10_readFair_12 ?_
    refine r_get F e_X10_readFair_13 fl_X10_31 h9177 rfl (fun v hv f9204 => ?_)
    obtain rfl : v = .ref (c + 8) := hv
    refine m_iload_n F rfl e_X10_readFair_16 ?_
    refine r_iald F (len := 8) (j := n9178) e_X10_readFair_17 h9177 (fun _ h => h) (by decide) (nI_clamp (by omega)) (vp_in_nI (by omega) (by decide)) (fun x9205 h9206 f9207 => ?_)
    refine m_if_eq F e_X10_readFair_18 (fun q18 => ?_) (fun q18 => ?_)
    · subst q18
      refine m_aload_n F rfl e_X10_readFair_26 ?_
      refine r_callV F e_X10_readFair_27 (q_X10_goOn (x_l X) V c T Z u h P9179 L _ _  h9177.1 (hob) oP9179 ) cb_X10_goOn ml_X10_154 im_X10_goOn se_X10_goOn h9177 rfl rfl (rest := []) rfl (Nat.le_of_ble_eq_true rfl) ⟨Nat.le_of_ble_eq_true rfl, Nat.le_of_ble_eq_true rfl⟩ ⟨Nat.le_of_ble_eq_true rfl, Nat.le_of_ble_eq_true rfl⟩ (fun r σ9208 hp => ?_)
      obtain ⟨P9211, oP9211, rP9211, pr9212, h9209, rfl⟩ := hp
      have h9210 := HS.trans h9177 h9209 (by decide)
      have xP9211 := oP9211
      unfold OKP at xP9211
      unfold RA at rP9211
      refine m_aload_n F rfl e_X10_readFair_30 ?_
      refine m_iconst F (v := 1) (by decide) e_X10_readFair_31 ?_
      refine m_ldc F kc_X10_129 e_X10_readFair_32 ?_
      refine r_callV F e_X10_readFair_34 (q_X10_numeral (x_l X) V c T Z u h P9211 L _ _ 1 9999999 h9210.1 (hob) oP9211 (by omega) (by omega)) cb_X10_numeral ml_X10_165 im_X10_numeral se_X10_numeral h9210 rfl rfl (rest := []) rfl (Nat.le_of_ble_eq_true rfl) ⟨Nat.le_of_ble_eq_true rfl, Nat.le_of_ble_eq_true rfl⟩ ⟨Nat.le_of_ble_eq_true rfl, Nat.le_of_ble_eq_true rfl⟩ (fun r σ9213 hp => ?_)
      obtain ⟨P9217, oP9217, rP9217, h9214, c9216⟩ := hp
      have h9215 := HS.trans h9210 h9214 (by decide)
      have xP9217 := oP9217
      unfold OKP at xP9217
      unfold RA at rP9217
      rcases c9216 with ⟨n9218, gn9218, hn9218, rfl⟩ | ⟨h9219, rfl⟩
      · refine m_istore_n F (lv' := [(2, .int (nI n9218)), (1, .int (nI n9178)), (0, .ref c)]) e_X10_readFair_37 (by decide) rfl ?_
        refine m_aload_n F rfl e_X10_readFair_38 ?_
        refine r_get F e_X10_readFair_39 fl_X10_141 h9215 rfl (fun v hv f9220 => ?_)
        obtain ⟨x9221, hx9221, rfl⟩ := hv
        replace hx9221 : Z = 0 → x9221 ≠ 0 := hx9221
        refine m_if_ne F e_X10_readFair_42 (fun q42 => ?_) (fun q42 => ?_)
        · have h9222 := HS.z0 h9215 (f9220) q42
          have h9223 : HS V c _ [0, 2, 3, 4, 5, 6, 7, 8, 10, 11, 12, 13, 14, 15, 16, 17, 18, 19, 20, 21, 22, 23] _ _ := ⟨HR.mono (Z' := Z) (by intro e; first | rfl | assumption | omega) h9222.1, h9222.2⟩
          exact m_vret F hQ e_X10_readFair_52 (⟨P9217, oP9217, (by unfold RP; omega), h9223, rfl⟩)
        · subst q42
          refine m_aload_n F rfl e_X10_readFair_45 ?_
          refine r_get F e_X10_readFair_46 fl_X10_31 h9215 rfl (fun v hv f9224 => ?_)
          obtain rfl : v = .ref (c + 8) := hv
          refine m_iload_n F rfl e_X10_readFair_49 ?_
          refine m_iload_n F rfl e_X10_readFair_50 ?_
          refine r_iast F (g' := (⟨T, Z, u, h, P9217, L⟩ : RG)) (len := 8) (j := n9178) e_X10_readFair_51 h9215 (fun _ h => h) (fun f h => ⟨f, rfl, h⟩) (by decide) (by decide) (nI_clamp (by omega)) (vp_in_nI (by omega) (by decide)) trivial (fun _ _ _ h => h) (fun _ _ _ h => h) (fun σ9225 h9226 g9227 f9228 g9229 => ?_)
          exact m_vret F hQ e_X10_readFair_52 (⟨P9217, oP9217, (by unfold RP; omega), h9226, rfl⟩)
      · have h9230 : HS V c (⟨T, 0, u, h, P9217, L⟩ : RG) [0, 2, 3, 4, 5, 6, 7, 8, 10, 11, 12, 13, 14, 15, 16, 17, 18, 19, 20, 21, 22, 23] _ _ := ⟨h9219, h9215.2⟩
        refine m_istore_n F (lv' := [(2, .int (nI 1)), (1, .int (nI n9178)), (0, .ref c)]) e_X10_readFair_37 (by decide) rfl ?_
        refine m_aload_n F rfl e_X10_readFair_38 ?_
        refine r_get F e_X10_readFair_39 fl_X10_141 h9230 rfl (fun v hv f9231 => ?_)
        obtain ⟨x9232, hx9232, rfl⟩ := hv
        replace hx9232 : 0 = 0 → x9232 ≠ 0 := hx9232
        refine m_if_ne F e_X10_readFair_42 (fun q42 => ?_) (fun q42 => ?_)
        · have h9233 := HS.z0 h9230 (f9231) q42
          have h9234 : HS V c _ [0, 2, 3, 4, 5, 6, 7, 8, 10, 11, 12, 13, 14, 15, 16, 17, 18, 19, 20, 21, 22, 23] _ _ := ⟨HR.mono (Z' := Z) (by intro e; first | rfl | assumption | omega) h9233.1, h9233.2⟩
          exact m_vret F hQ e_X10_readFair_52 (⟨P9217, oP9217, (by unfold RP; omega), h9234, rfl⟩)
        · first | exact absurd q42 (hx9232 rfl) | contradiction
    · refine m_aload_n F rfl e_X10_readFair_21 ?_
      refine m_iconst F (v := 3) (by decide) e_X10_readFair_22 ?_
      refine r_callV F e_X10_readFair_23 (q_X10_wrong (x_l X) V c T Z u h P9179 L _ _ 3 h9177.1 (hob) oP9179 (by first | omega | assumption | decide)) cb_X10_wrong ml_X10_150 im_X10_wrong se_X10_wrong h9177 rfl rfl (rest := []) rfl (Nat.le_of_ble_eq_true rfl) ⟨Nat.le_of_ble_eq_true rfl, Nat.le_of_ble_eq_true rfl⟩ ⟨Nat.le_of_ble_eq_true rfl, Nat.le_of_ble_eq_true rfl⟩ (fun r σ9235 hp => ?_)
      obtain ⟨h9236, rfl⟩ := hp
      have h9237 := HS.trans h9177 h9236 (by decide)
      refine m_aload_n F rfl e_X10_readFair_26 ?_
      refine r_callV F e_X10_readFair_27 (q_X10_goOn (x_l X) V c T 0 u h P9179 L _ _  h9237.1 (hob) oP9179 ) cb_X10_goOn ml_X10_154 im_X10_goOn se_X10_goOn h9237 rfl rfl (rest := []) rfl (Nat.le_of_ble_eq_true rfl) ⟨Nat.le_of_ble_eq_true rfl, Nat.le_of_ble_eq_true rfl⟩ ⟨Nat.le_of_ble_eq_true rfl, Nat.le_of_ble_eq_true rfl⟩ (fun r σ9238 hp => ?_)
      obtain ⟨P9241, oP9241, rP9241, pr9242, h9239, rfl⟩ := hp
      have h9240 := HS.trans h9237 h9239 (by decide)
      have xP9241 := oP9241
      unfold OKP at xP9241
      unfold RA at rP9241
      refine m_aload_n F rfl e_X10_readFair_30 ?_
      refine m_iconst F (v := 1) (by decide) e_X10_readFair_31 ?_
      refine m_ldc F kc_X10_129 e_X10_readFair_32 ?_
      refine r_callV F e_X10_readFair_34 (q_X10_numeral (x_l X) V c T 0 u h P9241 L _ _ 1 9999999 h9240.1 (hob) oP9241 (by omega) (by omega)) cb_X10_numeral ml_X10_165 im_X10_numeral se_X10_numeral h9240 rfl rfl (rest := []) rfl (Nat.le_of_ble_eq_true rfl) ⟨Nat.le_of_ble_eq_true rfl, Nat.le_of_ble_eq_true rfl⟩ ⟨Nat.le_of_ble_eq_true rfl, Nat.le_of_ble_eq_true rfl⟩ (fun r σ9243 hp => ?_)
      obtain ⟨P9247, oP9247, rP9247, h9244, c9246⟩ := hp
      have h9245 := HS.trans h9240 h9244 (by decide)
      have xP9247 := oP9247
      unfold OKP at xP9247
      unfold RA at rP9247
      rcases c9246 with ⟨n9248, gn9248, hn9248, rfl⟩ | ⟨h9249, rfl⟩
      · refine m_istore_n F (lv' := [(2, .int (nI n9248)), (1, .int (nI n9178)), (0, .ref c)]) e_X10_readFair_37 (by decide) rfl ?_
        refine m_aload_n F rfl e_X10_readFair_38 ?_
        refine r_get F e_X10_readFair_39 fl_X10_141 h9245 rfl (fun v hv f9250 => ?_)
        obtain ⟨x9251, hx9251, rfl⟩ := hv
        replace hx9251 : 0 = 0 → x9251 ≠ 0 := hx9251
        refine m_if_ne F e_X10_readFair_42 (fun q42 => ?_) (fun q42 => ?_)
        · have h9252 := HS.z0 h9245 (f9250) q42
          have h9253 : HS V c _ [0, 2, 3, 4, 5, 6, 7, 8, 10, 11, 12, 13, 14, 15, 16, 17, 18, 19, 20, 21, 22, 23] _ _ := ⟨HR.mono (Z' := Z) (by intro e; first | rfl | assumption | omega) h9252.1, h9252.2⟩
          exact m_vret F hQ e_X10_readFair_52 (⟨P9247, oP9247, (by unfold RP; omega), h9253, rfl⟩)
        · first | exact absurd q42 (hx9251 rfl) | contradiction
      · have h9254 : HS V c (⟨T, 0, u, h, P9247, L⟩ : RG) [0, 2, 3, 4, 5, 6, 7, 8, 10, 11, 12, 13, 14, 15, 16, 17, 18, 19, 20, 21, 22, 23] _ _ := ⟨h9249, h9245.2⟩
        refine m_istore_n F (lv' := [(2, .int (nI 1)), (1, .int (nI n9178)), (0, .ref c)]) e_X10_readFair_37 (by decide) rfl ?_
        refine m_aload_n F rfl e_X10_readFair_38 ?_
        refine r_get F e_X10_readFair_39 fl_X10_141 h9254 rfl (fun v hv f9255 => ?_)
        obtain ⟨x9256, hx9256, rfl⟩ := hv
        replace hx9256 : 0 = 0 → x9256 ≠ 0 := hx9256
        refine m_if_ne F e_X10_readFair_42 (fun q42 => ?_) (fun q42 => ?_)
        · have h9257 := HS.z0 h9254 (f9255) q42
          have h9258 : HS V c _ [0, 2, 3, 4, 5, 6, 7, 8, 10, 11, 12, 13, 14, 15, 16, 17, 18, 19, 20, 21, 22, 23] _ _ := ⟨HR.mono (Z' := Z) (by intro e; first | rfl | assumption | omega) h9257.1, h9257.2⟩
          exact m_vret F hQ e_X10_readFair_52 (⟨P9247, oP9247, (by unfold RP; omega), h9258, rfl⟩)
        · first | exact absurd q42 (hx9256 rfl) | contradiction
set_option maxRecDepth 20000 in
theorem q_X10_readFee (l : Launch) (V : VX) (c T Z u h : Nat) (P : NP) (L : Nat → LQ) (N : Nat) (σ : Mem)  (h0 : HR V c ⟨T, Z, u, h, P, L⟩ σ) (hob : OKB L) (hP : OKP P)  : Ct l V yX10_readFee cX10_readFee 3 none 8 0 0 N σ [.ref c] (fun r τ => ∃ P9 : NP, OKP P9 ∧ RP P P9 ∧ HS V c (⟨T, Z, u, h, P9, L⟩ : RG) [0, 2, 3, 4, 5, 6, 7, 8, 9, 11, 12, 13, 14, 15, 16, 17, 18, 19, 20, 21, 22, 23] σ τ ∧ r = none) := by
  refine Ct.of (by decide) (Nat.le_of_ble_eq_true rfl) [(0, .ref c)] rfl (fun X hX F hQ => ?_)
  have hPP := hP
  unfold OKP at hPP
  have h1 : HS V c ⟨T, Z, u, h, P, L⟩ [0, 2, 3, 4, 5, 6, 7, 8, 9, 11, 12, 13, 14, 15, 16, 17, 18, 19, 20, 21, 22, 23] σ σ := HS.start h0
  refine m_aload_n F rfl e_X10_readFee_0 ?_
  refine r_callV F e_X10_readFee_1 (q_X10_atHand (x_l X) V c T Z u h P L _ _  h1.1 (hob) hP ) cb_X10_atHand ml_X10_174 im_X10_atHand se_X10_atHand h1 rfl rfl (rest := []) rfl (Nat.le_of_ble_eq_true rfl) ⟨Nat.le_of_ble_eq_true rfl, Nat.le_of_ble_eq_true rfl⟩ ⟨Nat.le_of_ble_eq_true rfl, Nat.le_of_ble_eq_true rfl⟩ (fun r σ9259 hp => ?_)
  obtain ⟨P9263, oP9263, rP9263, h9260, n9262, gn9262, hn9262, rfl⟩ := hp
  have h9261 := HS.trans h1 h9260 (by decide)
  have xP9263 := oP9263
  unfold OKP at xP9263
  unfold RA at rP9263
  refine m_istore_n F (lv' := [(1, .int (nI n9262)), (0, .ref c)]) e_X10_readFee_4 (by decide) rfl ?_
  refine m_aload_n F rfl e_X10_readFee_5 ?_
  refine r_get F e_X10_readFee_6 fl_X10_141 h9261 rfl (fun v hv f9264 => ?_)
  obtain ⟨x9265, hx9265, rfl⟩ := hv
  replace hx9265 : Z = 0 → x9265 ≠ 0 := hx9265
  refine m_if_ne F e_X10_readFee_9 (fun q9 => ?_) (fun q9 => ?_)
  · have h9266 := HS.z0 h9261 (f9264) q9
    refine m_aload_n F rfl e_X10_readFee_26 ?_
    refine r_callV F e_X10_readFee_27 (q_X10_goOn (x_l X) V c T 0 u h P9263 L _ _  h9266.1 (hob) oP9263 ) cb_X10_goOn ml_X10_154 im_X10_goOn se_X10_goOn h9266 rfl rfl (rest := []) rfl (Nat.le_of_ble_eq_true rfl) ⟨Nat.le_of_ble_eq_true rfl, Nat.le_of_ble_eq_true rfl⟩ ⟨Nat.le_of_ble_eq_true rfl, Nat.le_of_ble_eq_true rfl⟩ (fun r σ9267 hp => ?_)
    obtain ⟨P9270, oP9270, rP9270, pr9271, h9268, rfl⟩ := hp
    have h9269 := HS.trans h9266 h9268 (by decide)
    have xP9270 := oP9270
    unfold OKP at xP9270
    unfold RA at rP9270
    refine m_aload_n F rfl e_X10_readFee_30 ?_
    refine m_iconst F (v := 0) (by decide) e_X10_readFee_31 ?_
    refine m_ldc F kc_X10_177 e_X10_readFee_32 ?_
    refine r_callV F e_X10_readFee_34 (q_X10_numeral (x_l X) V c T 0 u h P9270 L _ _ 0 99999 h9269.1 (hob) oP9270 (by omega) (by omega)) cb_X10_numeral ml_X10_165 im_X10_numeral se_X10_numeral h9269 rfl rfl (rest := []) rfl (Nat.le_of_ble_eq_true rfl) ⟨Nat.le_of_ble_eq_true rfl, Nat.le_of_ble_eq_true rfl⟩ ⟨Nat.le_of_ble_eq_true rfl, Nat.le_of_ble_eq_true rfl⟩ (fun r σ9272 hp => ?_)
    obtain ⟨P9276, oP9276, rP9276, h9273, c9275⟩ := hp
    have h9274 := HS.trans h9269 h9273 (by decide)
    have xP9276 := oP9276
    unfold OKP at xP9276
    unfold RA at rP9276
    rcases c9275 with ⟨n9277, gn9277, hn9277, rfl⟩ | ⟨h9278, rfl⟩
    · refine m_istore_n F (lv' := [(2, .int (nI n9277)), (1, .int (nI n9262)), (0, .ref c)]) e_X10_readFee_37 (by decide) rfl ?_
      refine m_aload_n F rfl e_X10_readFee_38 ?_
      refine r_get F e_X10_readFee_39 fl_X10_141 h9274 rfl (fun v hv f9279 => ?_)
      obtain ⟨x9280, hx9280, rfl⟩ := hv
      replace hx9280 : 0 = 0 → x9280 ≠ 0 := hx9280
      refine m_if_ne F e_X10_readFee_42 (fun q42 => ?_) (fun q42 => ?_)
      · have h9281 := HS.z0 h9274 (f9279) q42
        have h9282 : HS V c _ [0, 2, 3, 4, 5, 6, 7, 8, 9, 11, 12, 13, 14, 15, 16, 17, 18, 19, 20, 21, 22, 23] _ _ := ⟨HR.mono (Z' := Z) (by intro e; first | rfl | assumption | omega) h9281.1, h9281.2⟩
        exact m_vret F hQ e_X10_readFee_54 (⟨P9276, oP9276, (by unfold RP; omega), h9282, rfl⟩)
      · first | exact absurd q42 (hx9280 rfl) | contradiction
    · have h9283 : HS V c (⟨T, 0, u, h, P9276, L⟩ : RG) [0, 2, 3, 4, 5, 6, 7, 8, 9, 11, 12, 13, 14, 15, 16, 17, 18, 19, 20, 21, 22, 23] _ _ := ⟨h9278, h9274.2⟩
      refine m_istore_n F (lv' := [(2, .int (nI 0)), (1, .int (nI n9262)), (0, .ref c)]) e_X10_readFee_37 (by decide) rfl ?_
      refine m_aload_n F rfl e_X10_readFee_38 ?_
      refine r_get F e_X10_readFee_39 fl_X10_141 h9283 rfl (fun v hv f9284 => ?_)
      obtain ⟨x9285, hx9285, rfl⟩ := hv
      replace hx9285 : 0 = 0 → x9285 ≠ 0 := hx9285
      refine m_if_ne F e_X10_readFee_42 (fun q42 => ?_) (fun q42 => ?_)
      · have h9286 := HS.z0 h9283 (f9284) q42
        have h9287 : HS V c _ [0, 2, 3, 4, 5, 6, 7, 8, 9, 11, 12, 13, 14, 15, 16, 17, 18, 19, 20, 21, 22, 23] _ _ := ⟨HR.mono (Z' := Z) (by intro e; first | rfl | assumption | omega) h9286.1, h9286.2⟩
        exact m_vret F hQ e_X10_readFee_54 (⟨P9276, oP9276, (by unfold RP; omega), h9287, rfl⟩)
      · first | exact absurd q42 (hx9285 rfl) | contradiction
  · subst q9
    refine m_aload_n F rfl e_X10_readFee_12 ?_
    refine r_get F e_X10_readFee_13 fl_X10_34 h9261 rfl (fun v hv f9288 => ?_)
    obtain rfl : v = .ref (c + 9) := hv
    refine m_iload_n F rfl e_X10_readFee_16 ?_
    refine r_iald F (len := 8) (j := n9262) e_X10_readFee_17 h9261 (fun _ h => h) (by decide) (nI_clamp (by omega)) (vp_in_nI (by omega) (by decide)) (fun x9289 h9290 f9291 => ?_)
    refine m_if_eq F e_X10_readFee_18 (fun q18 => ?_) (fun q18 => ?_)
    · subst q18
      refine m_aload_n F rfl e_X10_readFee_26 ?_
      refine r_callV F e_X10_readFee_27 (q_X10_goOn (x_l X) V c T Z u h P9263 L _ _  h9261.1 (hob) oP9263 ) cb_X10_goOn ml_X10_154 im_X10_goOn se_X10_goOn h9261 rfl rfl (rest := []) rfl (Nat.le_of_ble_eq_true rfl) ⟨Nat.le_of_ble_eq_true rfl, Nat.le_of_ble_eq_true rfl⟩ ⟨Nat.le_of_ble_eq_true rfl, Nat.le_of_ble_eq_true rfl⟩ (fun r σ9292 hp => ?_)
      obtain ⟨P9295, oP9295, rP9295, pr9296, h9293, rfl⟩ := hp
      have h9294 := HS.trans h9261 h9293 (by decide)
      have xP9295 := oP9295
      unfold OKP at xP9295
      unfold RA at rP9295
      refine m_aload_n F rfl e_X10_readFee_30 ?_
      refine m_iconst F (v := 0) (by decide) e_X10_readFee_31 ?_
      refine m_ldc F kc_X10_177 e_X10_readFee_32 ?_
      refine r_callV F e_X10_readFee_34 (q_X10_numeral (x_l X) V c T Z u h P9295 L _ _ 0 99999 h9294.1 (hob) oP9295 (by omega) (by omega)) cb_X10_numeral ml_X10_165 im_X10_numeral se_X10_numeral h9294 rfl rfl (rest := []) rfl (Nat.le_of_ble_eq_true rfl) ⟨Nat.le_of_ble_eq_true rfl, Nat.le_of_ble_eq_true rfl⟩ ⟨Nat.le_of_ble_eq_true rfl, Nat.le_of_ble_eq_true rfl⟩ (fun r σ9297 hp => ?_)
      obtain ⟨P9301, oP9301, rP9301, h9298, c9300⟩ := hp
      have h9299 := HS.trans h9294 h9298 (by decide)
      have xP9301 := oP9301
      unfold OKP at xP9301
      unfold RA at rP9301
      rcases c9300 with ⟨n9302, gn9302, hn9302, rfl⟩ | ⟨h9303, rfl⟩
      · refine m_istore_n F (lv' := [(2, .int (nI n9302)), (1, .int (nI n9262)), (0, .ref c)]) e_X10_readFee_37 (by decide) rfl ?_
        refine m_aload_n F rfl e_X10_readFee_38 ?_
        refine r_get F e_X10_readFee_39 fl_X10_141 h9299 rfl (fun v hv f9304 => ?_)
        obtain ⟨x9305, hx9305, rfl⟩ := hv
        replace hx9305 : Z = 0 → x9305 ≠ 0 := hx9305
        refine m_if_ne F e_X10_readFee_42 (fun q42 => ?_) (fun q42 => ?_)
        · have h9306 := HS.z0 h9299 (f9304) q42
          have h9307 : HS V c _ [0, 2, 3, 4, 5, 6, 7, 8, 9, 11, 12, 13, 14, 15, 16, 17, 18, 19, 20, 21, 22, 23] _ _ := ⟨HR.mono (Z' := Z) (by intro e; first | rfl | assumption | omega) h9306.1, h9306.2⟩
          exact m_vret F hQ e_X10_readFee_54 (⟨P9301, oP9301, (by unfold RP; omega), h9307, rfl⟩)
        · subst q42
          refine m_aload_n F rfl e_X10_readFee_45 ?_
          refine r_get F e_X10_readFee_46 fl_X10_34 h9299 rfl (fun v hv f9308 => ?_)
          obtain rfl : v = .ref (c + 9) := hv
          refine m_iload_n F rfl e_X10_readFee_49 ?_
          refine m_iload_n F rfl e_X10_readFee_50 ?_
          refine m_iconst F (v := 1) (by decide) e_X10_readFee_51 ?_
          refine m_iadd F e_X10_readFee_52 ?_
          refine Wm.topE (w := nI (n9302 + 1)) (nI_add n9302 1) ?_
          refine r_iast F (g' := (⟨T, Z, u, h, P9301, L⟩ : RG)) (len := 8) (j := n9262) e_X10_readFee_53 h9299 (fun _ h => h) (fun f h => ⟨f, rfl, h⟩) (by decide) (by decide) (nI_clamp (by omega)) (vp_in_nI (by omega) (by decide)) trivial (fun _ _ _ h => h) (fun _ _ _ h => h) (fun σ9309 h9310 g9311 f9312 g9313 => ?_)
          exact m_vret F hQ e_X10_readFee_54 (⟨P9301, oP9301, (by unfold RP; omega), h9310, rfl⟩)
      · have h9314 : HS V c (⟨T, 0, u, h, P9301, L⟩ : RG) [0, 2, 3, 4, 5, 6, 7, 8, 9, 11, 12, 13, 14, 15, 16, 17, 18, 19, 20, 21, 22, 23] _ _ := ⟨h9303, h9299.2⟩
        refine m_istore_n F (lv' := [(2, .int (nI 0)), (1, .int (nI n9262)), (0, .ref c)]) e_X10_readFee_37 (by decide) rfl ?_
        refine m_aload_n F rfl e_X10_readFee_38 ?_
        refine r_get F e_X10_readFee_39 fl_X10_141 h9314 rfl (fun v hv f9315 => ?_)
        obtain ⟨x9316, hx9316, rfl⟩ := hv
        replace hx9316 : 0 = 0 → x9316 ≠ 0 := hx9316
        refine m_if_ne F e_X10_readFee_42 (fun q42 => ?_) (fun q42 => ?_)
        · have h9317 := HS.z0 h9314 (f9315) q42
          have h9318 : HS V c _ [0, 2, 3, 4, 5, 6, 7, 8, 9, 11, 12, 13, 14, 15, 16, 17, 18, 19, 20, 21, 22, 23] _ _ := ⟨HR.mono (Z' := Z) (by intro e; first | rfl | assumption | omega) h9317.1, h9317.2⟩
          exact m_vret F hQ e_X10_readFee_54 (⟨P9301, oP9301, (by unfold RP; omega), h9318, rfl⟩)
        · first | exact absurd q42 (hx9316 rfl) | contradiction
    · refine m_aload_n F rfl e_X10_readFee_21 ?_
      refine m_iconst F (v := 3) (by decide) e_X10_readFee_22 ?_
      refine r_callV F e_X10_readFee_23 (q_X10_wrong (x_l X) V c T Z u h P9263 L _ _ 3 h9261.1 (hob) oP9263 (by first | omega | assumption | decide)) cb_X10_wrong ml_X10_150 im_X10_wrong se_X10_wrong h9261 rfl rfl (rest := []) rfl (Nat.le_of_ble_eq_true rfl) ⟨Nat.le_of_ble_eq_true rfl, Nat.le_of_ble_eq_true rfl⟩ ⟨Nat.le_of_ble_eq_true rfl, Nat.le_of_ble_eq_true rfl⟩ (fun r σ9319 hp => ?_)
      obtain ⟨h9320, rfl⟩ := hp
      have h9321 := HS.trans h9261 h9320 (by decide)
      refine m_aload_n F rfl e_X10_readFee_26 ?_
      refine r_callV F e_X10_readFee_27 (q_X10_goOn (x_l X) V c T 0 u h P9263 L _ _  h9321.1 (hob) oP9263 ) cb_X10_goOn ml_X10_154 im_X10_goOn se_X10_goOn h9321 rfl rfl (rest := []) rfl (Nat.le_of_ble_eq_true rfl) ⟨Nat.le_of_ble_eq_true rfl, Nat.le_of_ble_eq_true rfl⟩ ⟨Nat.le_of_ble_eq_true rfl, Nat.le_of_ble_eq_true rfl⟩ (fun r σ9322 hp => ?_)
      obtain ⟨P9325, oP9325, rP9325, pr9326, h9323, rfl⟩ := hp
      have h9324 := HS.trans h9321 h9323 (by decide)
      have xP9325 := oP9325
      unfold OKP at xP9325
      unfold RA at rP9325
      refine m_aload_n F rfl e_X10_readFee_30 ?_
      refine m_iconst F (v := 0) (by decide) e_X10_readFee_31 ?_
      refine m_ldc F kc_X10_177 e_X10_readFee_32 ?_
      refine r_callV F e_X10_readFee_34 (q_X10_numeral (x_l X) V c T 0 u h P9325 L _ _ 0 99999 h9324.1 (hob) oP9325 (by omega) (by omega)) cb_X10_numeral ml_X10_165 im_X10_numeral se_X10_numeral h9324 rfl rfl (rest := []) rfl (Nat.le_of_ble_eq_true rfl) ⟨Nat.le_of_ble_eq_true rfl, Nat.le_of_ble_eq_true rfl⟩ ⟨Nat.le_of_ble_eq_true rfl, Nat.le_of_ble_eq_true rfl⟩ (fun r σ9327 hp => ?_)
      obtain ⟨P9331, oP9331, rP9331, h9328, c9330⟩ := hp
      have h9329 := HS.trans h9324 h9328 (by decide)
      have xP9331 := oP9331
      unfold OKP at xP9331
      unfold RA at rP9331
      rcases c9330 with ⟨n9332, gn9332, hn9332, rfl⟩ | ⟨h9333, rfl⟩
      · refine m_istore_n F (lv' := [(2, .int (nI n9332)), (1, .int (nI n9262)), (0, .ref c)]) e_X10_readFee_37 (by decide) rfl ?_
        refine m_aload_n F rfl e_X10_readFee_38 ?_
        refine r_get F e_X10_readFee_39 fl_X10_141 h9329 rfl (fun v hv f9334 => ?_)
        obtain ⟨x9335, hx9335, rfl⟩ := hv
        replace hx9335 : 0 = 0 → x9335 ≠ 0 := hx9335
        refine m_if_ne F e_X10_readFee_42 (fun q42 => ?_) (fun q42 => ?_)
        · have h9336 := HS.z0 h9329 (f9334) q42
          have h9337 : HS V c _ [0, 2, 3, 4, 5, 6, 7, 8, 9, 11, 12, 13, 14, 15, 16, 17, 18, 19, 20, 21, 22, 23] _ _ := ⟨HR.mono (Z' := Z) (by intro e; first | rfl | assumption | omega) h9336.1, h9336.2⟩
          exact m_vret F hQ e_X10_readFee_54 (⟨P9331, oP9331, (by unfold RP; omega), h9337, rfl⟩)
        · first | exact absurd q42 (hx9335 rfl) | contradiction
      · have h9338 : HS V c (⟨T, 0, u, h, P9331, L⟩ : RG) [0, 2, 3, 4, 5, 6, 7, 8, 9, 11, 12, 13, 14, 15, 16, 17, 18, 19, 20, 21, 22, 23] _ _ := ⟨h9333, h9329.2⟩
        refine m_istore_n F (lv' := [(2, .int (nI 0)), (1, .int (nI n9262)), (0, .ref c)]) e_X10_readFee_37 (by decide) rfl ?_
        refine m_aload_n F rfl e_X10_readFee_38 ?_
        refine r_get F e_X10_readFee_39 fl_X10_141 h9338 rfl (fun v hv f9339 => ?_)
        obtain ⟨x9340, hx9340, rfl⟩ := hv
        replace hx9340 : 0 = 0 → x9340 ≠ 0 := hx9340
        refine m_if_ne F e_X10_readFee_42 (fun q42 => ?_) (fun q42 => ?_)
        · have h9341 := HS.z0 h9338 (f9339) q42
          have h9342 : HS V c _ [0, 2, 3, 4, 5, 6, 7, 8, 9, 11, 12, 13, 14, 15, 16, 17, 18, 19, 20, 21, 22, 23] _ _ := ⟨HR.mono (Z' := Z) (by intro e; first | rfl | assumption | omega) h9341.1, h9341.2⟩
          exact m_vret F hQ e_X10_readFee_54 (⟨P9331, oP9331, (by unfold RP; omega), h9342, rfl⟩)
        · first | exact absurd q42 (hx9340 rfl) | contradiction
set_option maxRecDepth 20000 in
theorem q_X10_readChange (l : Launch) (V : VX) (c T Z u h : Nat) (P : NP) (L : Nat → LQ) (N : Nat) (σ : Mem)  (h0 : HR V c ⟨T, Z, u, h, P, L⟩ σ) (hob : OKB L) (hP : OKP P)  : Ct l V yX10_readChange cX10_readChange 5 none 8 0 0 N σ [.ref c] (fun r τ => ∃ P9 : NP, OKP P9 ∧ RP P P9 ∧ HS V c (⟨T, Z, u, h, P9, L⟩ : RG) [0, 2, 4, 5, 6, 7, 8, 9, 10, 11, 14, 15, 16, 17, 18, 19, 20, 21, 22, 23] σ τ ∧ r = none) := by
  refine Ct.of (by decide) (Nat.le_of_ble_eq_true rfl) [(0, .ref c)] rfl (fun X hX F hQ => ?_)
  have hPP := hP
  unfold OKP at hPP
  have h1 : HS V c ⟨T, Z, u, h, P, L⟩ [0, 2, 4, 5, 6, 7, 8, 9, 10, 11, 14, 15, 16, 17, 18, 19, 20, 21, 22, 23] σ σ := HS.start h0
  refine m_bipush F (v := 8) (by decide) e_X10_readChange_0 ?_
  refine m_aload_n F rfl e_X10_readChange_2 ?_
  refine m_iconst F (v := 2) (by decide) e_X10_readChange_3 ?_
  refine r_callV F e_X10_readChange_4 (q_X10_reading2 (x_l X) V c T Z u h P L _ _  h1.1 (hob) hP ) cb_X10_reading ml_X10_157 im_X10_reading se_X10_reading h1 rfl rfl (rest := [.int 8]) rfl (Nat.le_of_ble_eq_true rfl) ⟨Nat.le_of_ble_eq_true rfl, Nat.le_of_ble_eq_true rfl⟩ ⟨Nat.le_of_ble_eq_true rfl, Nat.le_of_ble_eq_true rfl⟩ (fun r σ9343 hp => ?_)
  obtain ⟨h9344, rfl⟩ := hp
  have h9345 := HS.trans h1 h9344 (by decide)
  refine m_iadd F e_X10_readChange_7 ?_
  refine Wm.topE (w := nI (8 + P.n7)) (nI_add 8 P.n7) ?_
  refine m_istore_n F (lv' := [(1, .int (nI (8 + P.n7))), (0, .ref c)]) e_X10_readChange_8 (by decide) rfl ?_
  refine m_iload_n F rfl e_X10_readChange_9 ?_
  refine m_bipush F (v := 16) (by decide) e_X10_readChange_10 ?_
  refine m_icmp_ne F e_X10_readChange_12 (fun q12 => ?_) (fun q12 => ?_)
  · have c12 : (8 + P.n7) ≠ 16 := by have hh := mt (nI_eq (a := (8 + P.n7)) (b := 16) (by omega) (by omega)).mpr q12; omega
    refine m_aload_n F rfl e_X10_readChange_20 ?_
    refine r_callV F e_X10_readChange_21 (q_X10_goOn (x_l X) V c T Z u h P L _ _  h9345.1 (hob) hP ) cb_X10_goOn ml_X10_154 im_X10_goOn se_X10_goOn h9345 rfl rfl (rest := []) rfl (Nat.le_of_ble_eq_true rfl) ⟨Nat.le_of_ble_eq_true rfl, Nat.le_of_ble_eq_true rfl⟩ ⟨Nat.le_of_ble_eq_true rfl, Nat.le_of_ble_eq_true rfl⟩ (fun r σ9346 hp => ?_)
    obtain ⟨P9349, oP9349, rP9349, pr9350, h9347, rfl⟩ := hp
    have h9348 := HS.trans h9345 h9347 (by decide)
    have xP9349 := oP9349
    unfold OKP at xP9349
    unfold RA at rP9349
    refine m_aload_n F rfl e_X10_readChange_24 ?_
    refine m_iconst F (v := 2) (by decide) e_X10_readChange_25 ?_
    refine r_callV F e_X10_readChange_26 (q_X10_reading2 (x_l X) V c T Z u h P9349 L _ _  h9348.1 (hob) oP9349 ) cb_X10_reading ml_X10_157 im_X10_reading se_X10_reading h9348 rfl rfl (rest := []) rfl (Nat.le_of_ble_eq_true rfl) ⟨Nat.le_of_ble_eq_true rfl, Nat.le_of_ble_eq_true rfl⟩ ⟨Nat.le_of_ble_eq_true rfl, Nat.le_of_ble_eq_true rfl⟩ (fun r σ9351 hp => ?_)
    obtain ⟨h9352, rfl⟩ := hp
    have h9353 := HS.trans h9348 h9352 (by decide)
    refine m_if_eq F e_X10_readChange_29 (fun q29 => ?_) (fun q29 => ?_)
    · have c29 : P9349.n7 = 0 := (nI_eq (a := P9349.n7) (b := 0) (by omega) (by omega)).mp q29
      refine m_iconst F (v := 0) (by decide) e_X10_readChange_39 ?_
      refine m_goto F e_X10_readChange_40 ?_
      refine m_istore_n F (lv' := [(2, .int 0), (1, .int (nI (8 + P.n7))), (0, .ref c)]) e_X10_readChange_53 (by decide) rfl ?_
      refine m_aload_n F rfl e_X10_readChange_54 ?_
      refine m_iload_n F rfl e_X10_readChange_55 ?_
      refine m_bipush F (v := 99) (by decide) e_X10_readChange_56 ?_
      refine r_callV F e_X10_readChange_58 (q_X10_numeral (x_l X) V c T Z u h P9349 L _ _ 0 99 h9353.1 (hob) oP9349 (by omega) (by omega)) cb_X10_numeral ml_X10_165 im_X10_numeral se_X10_numeral h9353 rfl rfl (rest := []) rfl (Nat.le_of_ble_eq_true rfl) ⟨Nat.le_of_ble_eq_true rfl, Nat.le_of_ble_eq_true rfl⟩ ⟨Nat.le_of_ble_eq_true rfl, Nat.le_of_ble_eq_true rfl⟩ (fun r σ9354 hp => ?_)
      obtain ⟨P9358, oP9358, rP9358, h9355, c9357⟩ := hp
      have h9356 := HS.trans h9353 h9355 (by decide)
      have xP9358 := oP9358
      unfold OKP at xP9358
      unfold RA at rP9358
      rcases c9357 with ⟨n9359, gn9359, hn9359, rfl⟩ | ⟨h9360, rfl⟩
      · refine m_istore_n F (lv' := [(3, .int (nI n9359)), (2, .int 0), (1, .int (nI (8 + P.n7))), (0, .ref c)]) e_X10_readChange_61 (by decide) rfl ?_
        refine m_aload_n F rfl e_X10_readChange_62 ?_
        refine m_sipush F (v := 500) (by decide) e_X10_readChange_63 ?_
        refine m_sipush F (v := 2000) (by decide) e_X10_readChange_66 ?_
        refine r_callV F e_X10_readChange_69 (q_X10_numeral (x_l X) V c T Z u h P9358 L _ _ 500 2000 h9356.1 (hob) oP9358 (by omega) (by omega)) cb_X10_numeral ml_X10_165 im_X10_numeral se_X10_numeral h9356 rfl rfl (rest := []) rfl (Nat.le_of_ble_eq_true rfl) ⟨Nat.le_of_ble_eq_true rfl, Nat.le_of_ble_eq_true rfl⟩ ⟨Nat.le_of_ble_eq_true rfl, Nat.le_of_ble_eq_true rfl⟩ (fun r σ9361 hp => ?_)
        obtain ⟨P9365, oP9365, rP9365, h9362, c9364⟩ := hp
        have h9363 := HS.trans h9356 h9362 (by decide)
        have xP9365 := oP9365
        unfold OKP at xP9365
        unfold RA at rP9365
        rcases c9364 with ⟨n9366, gn9366, hn9366, rfl⟩ | ⟨h9367, rfl⟩
        · refine m_istore F (lv' := [(4, .int (nI n9366)), (3, .int (nI n9359)), (2, .int 0), (1, .int (nI (8 + P.n7))), (0, .ref c)]) e_X10_readChange_72 (by decide) rfl ?_
          refine m_aload_n F rfl e_X10_readChange_74 ?_
          refine r_get F e_X10_readChange_75 fl_X10_141 h9363 rfl (fun v hv f9368 => ?_)
          obtain ⟨x9369, hx9369, rfl⟩ := hv
          replace hx9369 : Z = 0 → x9369 ≠ 0 := hx9369
          refine m_if_eq F e_X10_readChange_78 (fun q78 => ?_) (fun q78 => ?_)
          · subst q78
            refine m_aload_n F rfl e_X10_readChange_82 ?_
            refine r_get F e_X10_readChange_83 fl_X10_40 h9363 rfl (fun v hv f9370 => ?_)
            obtain rfl : v = .ref (c + 11) := hv
            refine m_iload_n F rfl e_X10_readChange_86 ?_
            refine m_iload_n F rfl e_X10_readChange_87 ?_
            refine r_iast F (g' := (⟨T, Z, u, h, P9365, L⟩ : RG)) (len := 16) (j := 8 + P.n7) e_X10_readChange_88 h9363 (fun _ h => h) (fun f h => ⟨f, rfl, h⟩) (by decide) (by decide) (nI_clamp (by omega)) (vp_in_nI (by omega) (by decide)) ⟨n9359, by omega, rfl⟩ (fun _ _ _ h => h) (fun _ _ _ h => h) (fun σ9371 h9372 g9373 f9374 g9375 => ?_)
            refine m_aload_n F rfl e_X10_readChange_89 ?_
            refine r_get F e_X10_readChange_90 fl_X10_43 h9372 rfl (fun v hv f9376 => ?_)
            obtain rfl : v = .ref (c + 12) := hv
            refine m_iload_n F rfl e_X10_readChange_93 ?_
            refine m_iload F rfl e_X10_readChange_94 ?_
            refine r_iast F (g' := (⟨T, Z, u, h, (mkP P9365.n0 P9365.n2 P9365.n5 P9365.n7 P9365.m0 P9365.m5 P9365.w2 (P9365.n7 + 1) P9365.kk P9365.a), L⟩ : RG)) (len := 16) (j := 8 + P.n7) e_X10_readChange_96 h9372 (fun _ h => h) (fun f h => ⟨f, rfl, h⟩) (by decide) (by decide) (nI_clamp (by omega)) (vp_in_nI (by omega) (by decide)) ⟨n9366, by omega, rfl, fun h7 _ => absurd h7 (by omega), fun _ _ => by omega⟩ (fun i hi y hy => by obtain ⟨n9, a9, b9, c9, d9⟩ := hy; exact ⟨n9, a9, b9, c9, fun h7 h8 => d9 h7 (by have h6 : i < 8 + (P9365.n7 + 1) := h8; omega)⟩) (by intro i hi x hx; unfold CR at hx ⊢; split at hx <;> first | exact hx | exact absurd rfl hi) (fun σ9377 h9378 g9379 f9380 g9381 => ?_)
            obtain ⟨P9382, eP9382⟩ : ∃ P9, P9 = (mkP P9365.n0 P9365.n2 P9365.n5 P9365.n7 P9365.m0 P9365.m5 P9365.w2 (P9365.n7 + 1) P9365.kk P9365.a) := ⟨_, rfl⟩
            rw [← eP9382] at h9378
            have fP9382 : P9382.n0 = P9365.n0 ∧ P9382.n2 = P9365.n2 ∧ P9382.n5 = P9365.n5 ∧ P9382.n7 = P9365.n7 ∧ P9382.m0 = P9365.m0 ∧ P9382.m5 = P9365.m5 ∧ P9382.w2 = P9365.w2 ∧ P9382.w7 = P9365.n7 + 1 ∧ P9382.kk = P9365.kk ∧ P9382.a = P9365.a := by rw [eP9382]; exact ⟨rfl, rfl, rfl, rfl, rfl, rfl, rfl, rfl, rfl, rfl⟩
            refine m_aload_n F rfl e_X10_readChange_97 ?_
            refine m_iconst F (v := 2) (by decide) e_X10_readChange_98 ?_
            refine m_aload_n F rfl e_X10_readChange_99 ?_
            refine m_iconst F (v := 2) (by decide) e_X10_readChange_100 ?_
            have oP9386 : OKP P9382 := by unfold OKP; omega
            refine r_callV F e_X10_readChange_101 (q_X10_reading2 (x_l X) V c T Z u h P9382 L _ _  h9378.1 (hob) oP9386 ) cb_X10_reading ml_X10_157 im_X10_reading se_X10_reading h9378 rfl rfl (rest := [.int 2, .ref c]) rfl (Nat.le_of_ble_eq_true rfl) ⟨Nat.le_of_ble_eq_true rfl, Nat.le_of_ble_eq_true rfl⟩ ⟨Nat.le_of_ble_eq_true rfl, Nat.le_of_ble_eq_true rfl⟩ (fun r σ9383 hp => ?_)
            obtain ⟨h9384, rfl⟩ := hp
            have h9385 := HS.trans h9378 h9384 (by decide)
            refine m_iconst F (v := 1) (by decide) e_X10_readChange_104 ?_
            refine m_iadd F e_X10_readChange_105 ?_
            refine Wm.topE (w := nI (P9382.n7 + 1)) (nI_add P9382.n7 1) ?_
            refine r_callV F e_X10_readChange_106 (q_X10_reads2 (x_l X) V c T Z u h P9382 L _ _ (P9382.n7 + 1) h9385.1 (hob) oP9386 (by omega) (by first | omega | assumption | decide)) cb_X10_reads ml_X10_170 im_X10_reads se_X10_reads h9385 rfl rfl (rest := []) rfl (Nat.le_of_ble_eq_true rfl) ⟨Nat.le_of_ble_eq_true rfl, Nat.le_of_ble_eq_true rfl⟩ ⟨Nat.le_of_ble_eq_true rfl, Nat.le_of_ble_eq_true rfl⟩ (fun r σ9387 hp => ?_)
            obtain ⟨h9388, rfl⟩ := hp
            have h9389 := HS.trans h9385 h9388 (by decide)
            obtain ⟨P9390, eP9390⟩ : ∃ P9, P9 = (mkP P9382.n0 P9382.n2 P9382.n5 (P9382.n7 + 1) P9382.m0 P9382.m5 P9382.w2 P9382.w7 P9382.kk P9382.a) := ⟨_, rfl⟩
            rw [← eP9390] at h9389
            have fP9390 : P9390.n0 = P9382.n0 ∧ P9390.n2 = P9382.n2 ∧ P9390.n5 = P9382.n5 ∧ P9390.n7 = P9382.n7 + 1 ∧ P9390.m0 = P9382.m0 ∧ P9390.m5 = P9382.m5 ∧ P9390.w2 = P9382.w2 ∧ P9390.w7 = P9382.w7 ∧ P9390.kk = P9382.kk ∧ P9390.a = P9382.a := by rw [eP9390]; exact ⟨rfl, rfl, rfl, rfl, rfl, rfl, rfl, rfl, rfl, rfl⟩
            have oP9391 : OKP P9390 := by unfold OKP; omega
            exact m_vret F hQ e_X10_readChange_109 (⟨P9390, oP9391, (by unfold RP; omega), h9389, rfl⟩)
          · have h9392 := HS.z0 h9363 (f9368) q78
            have h9393 : HS V c _ [0, 2, 4, 5, 6, 7, 8, 9, 10, 11, 14, 15, 16, 17, 18, 19, 20, 21, 22, 23] _ _ := ⟨HR.mono (Z' := Z) (by intro e; first | rfl | assumption | omega) h9392.1, h9392.2⟩
            exact m_vret F hQ e_X10_readChange_81 (⟨P9365, oP9365, (by unfold RP; omega), h9393, rfl⟩)
        · have h9394 : HS V c (⟨T, 0, u, h, P9365, L⟩ : RG) [0, 2, 4, 5, 6, 7, 8, 9, 10, 11, 14, 15, 16, 17, 18, 19, 20, 21, 22, 23] _ _ := ⟨h9367, h9363.2⟩
          refine m_istore F (lv' := [(4, .int (nI 500)), (3, .int (nI n9359)), (2, .int 0), (1, .int (nI (8 + P.n7))), (0, .ref c)]) e_X10_readChange_72 (by decide) rfl ?_
          refine m_aload_n F rfl e_X10_readChange_74 ?_
          refine r_get F e_X10_readChange_75 fl_X10_141 h9394 rfl (fun v hv f9395 => ?_)
          obtain ⟨x9396, hx9396, rfl⟩ := hv
          replace hx9396 : 0 = 0 → x9396 ≠ 0 := hx9396
          refine m_if_eq F e_X10_readChange_78 (fun q78 => ?_) (fun q78 => ?_)
          · first | exact absurd q78 (hx9396 rfl) | contradiction
          · have h9397 := HS.z0 h9394 (f9395) q78
            have h9398 : HS V c _ [0, 2, 4, 5, 6, 7, 8, 9, 10, 11, 14, 15, 16, 17, 18, 19, 20, 21, 22, 23] _ _ := ⟨HR.mono (Z' := Z) (by intro e; first | rfl | assumption | omega) h9397.1, h9397.2⟩
            exact m_vret F hQ e_X10_readChange_81 (⟨P9365, oP9365, (by unfold RP; omega), h9398, rfl⟩)
      · have h9399 : HS V c (⟨T, 0, u, h, P9358, L⟩ : RG) [0, 2, 4, 5, 6, 7, 8, 9, 10, 11, 14, 15, 16, 17, 18, 19, 20, 21, 22, 23] _ _ := ⟨h9360, h9356.2⟩
        refine m_istore_n F (lv' := [(3, .int (nI 0)), (2, .int 0), (1, .int (nI (8 + P.n7))), (0, .ref c)]) e_X10_readChange_61 (by decide) rfl ?_
        refine m_aload_n F rfl e_X10_readChange_62 ?_
        refine m_sipush F (v := 500) (by decide) e_X10_readChange_63 ?_
        refine m_sipush F (v := 2000) (by decide) e_X10_readChange_66 ?_
        refine r_callV F e_X10_readChange_69 (q_X10_numeral (x_l X) V c T 0 u h P9358 L _ _ 500 2000 h9399.1 (hob) oP9358 (by omega) (by omega)) cb_X10_numeral ml_X10_165 im_X10_numeral se_X10_numeral h9399 rfl rfl (rest := []) rfl (Nat.le_of_ble_eq_true rfl) ⟨Nat.le_of_ble_eq_true rfl, Nat.le_of_ble_eq_true rfl⟩ ⟨Nat.le_of_ble_eq_true rfl, Nat.le_of_ble_eq_true rfl⟩ (fun r σ9400 hp => ?_)
        obtain ⟨P9404, oP9404, rP9404, h9401, c9403⟩ := hp
        have h9402 := HS.trans h9399 h9401 (by decide)
        have xP9404 := oP9404
        unfold OKP at xP9404
        unfold RA at rP9404
        rcases c9403 with ⟨n9405, gn9405, hn9405, rfl⟩ | ⟨h9406, rfl⟩
        · refine m_istore F (lv' := [(4, .int (nI n9405)), (3, .int (nI 0)), (2, .int 0), (1, .int (nI (8 + P.n7))), (0, .ref c)]) e_X10_readChange_72 (by decide) rfl ?_
          refine m_aload_n F rfl e_X10_readChange_74 ?_
          refine r_get F e_X10_readChange_75 fl_X10_141 h9402 rfl (fun v hv f9407 => ?_)
          obtain ⟨x9408, hx9408, rfl⟩ := hv
          replace hx9408 : 0 = 0 → x9408 ≠ 0 := hx9408
          refine m_if_eq F e_X10_readChange_78 (fun q78 => ?_) (fun q78 => ?_)
          · first | exact absurd q78 (hx9408 rfl) | contradiction
          · have h9409 := HS.z0 h9402 (f9407) q78
            have h9410 : HS V c _ [0, 2, 4, 5, 6, 7, 8, 9, 10, 11, 14, 15, 16, 17, 18, 19, 20, 21, 22, 23] _ _ := ⟨HR.mono (Z' := Z) (by intro e; first | rfl | assumption | omega) h9409.1, h9409.2⟩
            exact m_vret F hQ e_X10_readChange_81 (⟨P9404, oP9404, (by unfold RP; omega), h9410, rfl⟩)
        · have h9411 : HS V c (⟨T, 0, u, h, P9404, L⟩ : RG) [0, 2, 4, 5, 6, 7, 8, 9, 10, 11, 14, 15, 16, 17, 18, 19, 20, 21, 22, 23] _ _ := ⟨h9406, h9402.2⟩
          refine m_istore F (lv' := [(4, .int (nI 500)), (3, .int (nI 0)), (2, .int 0), (1, .int (nI (8 + P.n7))), (0, .ref c)]) e_X10_readChange_72 (by decide) rfl ?_
          refine m_aload_n F rfl e_X10_readChange_74 ?_
          refine r_get F e_X10_readChange_75 fl_X10_141 h9411 rfl (fun v hv f9412 => ?_)
          obtain ⟨x9413, hx9413, rfl⟩ := hv
          replace hx9413 : 0 = 0 → x9413 ≠ 0 := hx9413
          refine m_if_eq F e_X10_readChange_78 (fun q78 => ?_) (fun q78 => ?_)
          · first | exact absurd q78 (hx9413 rfl) | contradiction
          · have h9414 := HS.z0 h9411 (f9412) q78
            have h9415 : HS V c _ [0, 2, 4, 5, 6, 7, 8, 9, 10, 11, 14, 15, 16, 17, 18, 19, 20, 21, 22, 23] _ _ := ⟨HR.mono (Z' := Z) (by intro e; first | rfl | assumption | omega) h9414.1, h9414.2⟩
            exact m_vret F hQ e_X10_readChange_81 (⟨P9404, oP9404, (by unfold RP; omega), h9415, rfl⟩)
    · have c29 : P9349.n7 ≠ 0 := by have hh := mt (nI_eq (a := P9349.n7) (b := 0) (by omega) (by omega)).mpr q29; omega
      refine m_aload_n F rfl e_X10_readChange_32 ?_
      refine r_get F e_X10_readChange_33 fl_X10_141 h9353 rfl (fun v hv f9416 => ?_)
      obtain ⟨x9417, hx9417, rfl⟩ := hv
      replace hx9417 : Z = 0 → x9417 ≠ 0 := hx9417
      refine m_if_eq F e_X10_readChange_36 (fun q36 => ?_) (fun q36 => ?_)
      · subst q36
        refine m_aload_n F rfl e_X10_readChange_43 ?_
        refine r_get F e_X10_readChange_44 fl_X10_40 h9353 rfl (fun v hv f9418 => ?_)
        obtain rfl : v = .ref (c + 11) := hv
        refine m_iload_n F rfl e_X10_readChange_47 ?_
        refine m_iconst F (v := 1) (by decide) e_X10_readChange_48 ?_
        refine m_isub F e_X10_readChange_49 ?_
        refine Wm.topE (w := nI ((8 + P.n7) - 1)) (pk_sub (a := 8 + P.n7) (b := 1) (by omega)) ?_
        refine r_iald F (len := 16) (j := (8 + P.n7) - 1) e_X10_readChange_50 h9353 (fun _ h => h) (by decide) (nI_clamp (by omega)) (vp_in_nI (by omega) (by decide)) (fun x9419 h9420 f9421 => ?_)
        obtain ⟨n9422, hn9422, rfl⟩ := h9420
        refine m_iconst F (v := 1) (by decide) e_X10_readChange_51 ?_
        refine m_iadd F e_X10_readChange_52 ?_
        refine Wm.topE (w := nI (n9422 + 1)) (nI_add n9422 1) ?_
        refine m_istore_n F (lv' := [(2, .int (nI (n9422 + 1))), (1, .int (nI (8 + P.n7))), (0, .ref c)]) e_X10_readChange_53 (by decide) rfl ?_
        refine m_aload_n F rfl e_X10_readChange_54 ?_
        refine m_iload_n F rfl e_X10_readChange_55 ?_
        refine m_bipush F (v := 99) (by decide) e_X10_readChange_56 ?_
        refine r_callV F e_X10_readChange_58 (q_X10_numeral (x_l X) V c T Z u h P9349 L _ _ (n9422 + 1) 99 h9353.1 (hob) oP9349 (by omega) (by omega)) cb_X10_numeral ml_X10_165 im_X10_numeral se_X10_numeral h9353 rfl rfl (rest := []) rfl (Nat.le_of_ble_eq_true rfl) ⟨Nat.le_of_ble_eq_true rfl, Nat.le_of_ble_eq_true rfl⟩ ⟨Nat.le_of_ble_eq_true rfl, Nat.le_of_ble_eq_true rfl⟩ (fun r σ9423 hp => ?_)
        obtain ⟨P9427, oP9427, rP9427, h9424, c9426⟩ := hp
        have h9425 := HS.trans h9353 h9424 (by decide)
        have xP9427 := oP9427
        unfold OKP at xP9427
        unfold RA at rP9427
        rcases c9426 with ⟨n9428, gn9428, hn9428, rfl⟩ | ⟨h9429, rfl⟩
        · refine m_istore_n F (lv' := [(3, .int (nI n9428)), (2, .int (nI (n9422 + 1))), (1, .int (nI (8 + P.n7))), (0, .ref c)]) e_X10_readChange_61 (by decide) rfl ?_
          refine m_aload_n F rfl e_X10_readChange_62 ?_
          refine m_sipush F (v := 500) (by decide) e_X10_readChange_63 ?_
          refine m_sipush F (v := 2000) (by decide) e_X10_readChange_66 ?_
          refine r_callV F e_X10_readChange_69 (q_X10_numeral (x_l X) V c T Z u h P9427 L _ _ 500 2000 h9425.1 (hob) oP9427 (by omega) (by omega)) cb_X10_numeral ml_X10_165 im_X10_numeral se_X10_numeral h9425 rfl rfl (rest := []) rfl (Nat.le_of_ble_eq_true rfl) ⟨Nat.le_of_ble_eq_true rfl, Nat.le_of_ble_eq_true rfl⟩ ⟨Nat.le_of_ble_eq_true rfl, Nat.le_of_ble_eq_true rfl⟩ (fun r σ9430 hp => ?_)
          obtain ⟨P9434, oP9434, rP9434, h9431, c9433⟩ := hp
          have h9432 := HS.trans h9425 h9431 (by decide)
          have xP9434 := oP9434
          unfold OKP at xP9434
          unfold RA at rP9434
          rcases c9433 with ⟨n9435, gn9435, hn9435, rfl⟩ | ⟨h9436, rfl⟩
          · refine m_istore F (lv' := [(4, .int (nI n9435)), (3, .int (nI n9428)), (2, .int (nI (n9422 + 1))), (1, .int (nI (8 + P.n7))), (0, .ref c)]) e_X10_readChange_72 (by decide) rfl ?_
            refine m_aload_n F rfl e_X10_readChange_74 ?_
            refine r_get F e_X10_readChange_75 fl_X10_141 h9432 rfl (fun v hv f9437 => ?_)
            obtain ⟨x9438, hx9438, rfl⟩ := hv
            replace hx9438 : Z = 0 → x9438 ≠ 0 := hx9438
            refine m_if_eq F e_X10_readChange_78 (fun q78 => ?_) (fun q78 => ?_)
            · subst q78
              refine m_aload_n F rfl e_X10_readChange_82 ?_
              refine r_get F e_X10_readChange_83 fl_X10_40 h9432 rfl (fun v hv f9439 => ?_)
              obtain rfl : v = .ref (c + 11) := hv
              refine m_iload_n F rfl e_X10_readChange_86 ?_
              refine m_iload_n F rfl e_X10_readChange_87 ?_
              refine r_iast F (g' := (⟨T, Z, u, h, P9434, L⟩ : RG)) (len := 16) (j := 8 + P.n7) e_X10_readChange_88 h9432 (fun _ h => h) (fun f h => ⟨f, rfl, h⟩) (by decide) (by decide) (nI_clamp (by omega)) (vp_in_nI (by omega) (by decide)) ⟨n9428, by omega, rfl⟩ (fun _ _ _ h => h) (fun _ _ _ h => h) (fun σ9440 h9441 g9442 f9443 g9444 => ?_)
              refine m_aload_n F rfl e_X10_readChange_89 ?_
              refine r_get F e_X10_readChange_90 fl_X10_43 h9441 rfl (fun v hv f9445 => ?_)
              obtain rfl : v = .ref (c + 12) := hv
              refine m_iload_n F rfl e_X10_readChange_93 ?_
              refine m_iload F rfl e_X10_readChange_94 ?_
              refine r_iast F (g' := (⟨T, Z, u, h, (mkP P9434.n0 P9434.n2 P9434.n5 P9434.n7 P9434.m0 P9434.m5 P9434.w2 (P9434.n7 + 1) P9434.kk P9434.a), L⟩ : RG)) (len := 16) (j := 8 + P.n7) e_X10_readChange_96 h9441 (fun _ h => h) (fun f h => ⟨f, rfl, h⟩) (by decide) (by decide) (nI_clamp (by omega)) (vp_in_nI (by omega) (by decide)) ⟨n9435, by omega, rfl, fun h7 _ => absurd h7 (by omega), fun _ _ => by omega⟩ (fun i hi y hy => by obtain ⟨n9, a9, b9, c9, d9⟩ := hy; exact ⟨n9, a9, b9, c9, fun h7 h8 => d9 h7 (by have h6 : i < 8 + (P9434.n7 + 1) := h8; omega)⟩) (by intro i hi x hx; unfold CR at hx ⊢; split at hx <;> first | exact hx | exact absurd rfl hi) (fun σ9446 h9447 g9448 f9449 g9450 => ?_)
              obtain ⟨P9451, eP9451⟩ : ∃ P9, P9 = (mkP P9434.n0 P9434.n2 P9434.n5 P9434.n7 P9434.m0 P9434.m5 P9434.w2 (P9434.n7 + 1) P9434.kk P9434.a) := ⟨_, rfl⟩
              rw [← eP9451] at h9447
              have fP9451 : P9451.n0 = P9434.n0 ∧ P9451.n2 = P9434.n2 ∧ P9451.n5 = P9434.n5 ∧ P9451.n7 = P9434.n7 ∧ P9451.m0 = P9434.m0 ∧ P9451.m5 = P9434.m5 ∧ P9451.w2 = P9434.w2 ∧ P9451.w7 = P9434.n7 + 1 ∧ P9451.kk = P9434.kk ∧ P9451.a = P9434.a := by rw [eP9451]; exact ⟨rfl, rfl, rfl, rfl, rfl, rfl, rfl, rfl, rfl, rfl⟩
              refine m_aload_n F rfl e_X10_readChange_97 ?_
              refine m_iconst F (v := 2) (by decide) e_X10_readChange_98 ?_
              refine m_aload_n F rfl e_X10_readChange_99 ?_
              refine m_iconst F (v := 2) (by decide) e_X10_readChange_100 ?_
              have oP9455 : OKP P9451 := by unfold OKP; omega
              refine r_callV F e_X10_readChange_101 (q_X10_reading2 (x_l X) V c T Z u h P9451 L _ _  h9447.1 (hob) oP9455 ) cb_X10_reading ml_X10_157 im_X10_reading se_X10_reading h9447 rfl rfl (rest := [.int 2, .ref c]) rfl (Nat.le_of_ble_eq_true rfl) ⟨Nat.le_of_ble_eq_true rfl, Nat.le_of_ble_eq_true rfl⟩ ⟨Nat.le_of_ble_eq_true rfl, Nat.le_of_ble_eq_true rfl⟩ (fun r σ9452 hp => ?_)
              obtain ⟨h9453, rfl⟩ := hp
              have h9454 := HS.trans h9447 h9453 (by decide)
              refine m_iconst F (v := 1) (by decide) e_X10_readChange_104 ?_
              refine m_iadd F e_X10_readChange_105 ?_
              refine Wm.topE (w := nI (P9451.n7 + 1)) (nI_add P9451.n7 1) ?_
              refine r_callV F e_X10_readChange_106 (q_X10_reads2 (x_l X) V c T Z u h P9451 L _ _ (P9451.n7 + 1) h9454.1 (hob) oP9455 (by omega) (by first | omega | assumption | decide)) cb_X10_reads ml_X10_170 im_X10_reads se_X10_reads h9454 rfl rfl (rest := []) rfl (Nat.le_of_ble_eq_true rfl) ⟨Nat.le_of_ble_eq_true rfl, Nat.le_of_ble_eq_true rfl⟩ ⟨Nat.le_of_ble_eq_true rfl, Nat.le_of_ble_eq_true rfl⟩ (fun r σ9456 hp => ?_)
              obtain ⟨h9457, rfl⟩ := hp
              have h9458 := HS.trans h9454 h9457 (by decide)
              obtain ⟨P9459, eP9459⟩ : ∃ P9, P9 = (mkP P9451.n0 P9451.n2 P9451.n5 (P9451.n7 + 1) P9451.m0 P9451.m5 P9451.w2 P9451.w7 P9451.kk P9451.a) := ⟨_, rfl⟩
              rw [← eP9459] at h9458
              have fP9459 : P9459.n0 = P9451.n0 ∧ P9459.n2 = P9451.n2 ∧ P9459.n5 = P9451.n5 ∧ P9459.n7 = P9451.n7 + 1 ∧ P9459.m0 = P9451.m0 ∧ P9459.m5 = P9451.m5 ∧ P9459.w2 = P9451.w2 ∧ P9459.w7 = P9451.w7 ∧ P9459.kk = P9451.kk ∧ P9459.a = P9451.a := by rw [eP9459]; exact ⟨rfl, rfl, rfl, rfl, rfl, rfl, rfl, rfl, rfl, rfl⟩
              have oP9460 : OKP P9459 := by unfold OKP; omega
              exact m_vret F hQ e_X10_readChange_109 (⟨P9459, oP9460, (by unfold RP; omega), h9458, rfl⟩)
            · have h9461 := HS.z0 h9432 (f9437) q78
              have h9462 : HS V c _ [0, 2, 4, 5, 6, 7, 8, 9, 10, 11, 14, 15, 16, 17, 18, 19, 20, 21, 22, 23] _ _ := ⟨HR.mono (Z' := Z) (by intro e; first | rfl | assumption | omega) h9461.1, h9461.2⟩
              exact m_vret F hQ e_X10_readChange_81 (⟨P9434, oP9434, (by unfold RP; omega), h9462, rfl⟩)
          · have h9463 : HS V c (⟨T, 0, u, h, P9434, L⟩ : RG) [0, 2, 4, 5, 6, 7, 8, 9, 10, 11, 14, 15, 16, 17, 18, 19, 20, 21, 22, 23] _ _ := ⟨h9436, h9432.2⟩
            refine m_istore F (lv' := [(4, .int (nI 500)), (3, .int (nI n9428)), (2, .int (nI (n9422 + 1))), (1, .int (nI (8 + P.n7))), (0, .ref c)]) e_X10_readChange_72 (by decide) rfl ?_
            refine m_aload_n F rfl e_X10_readChange_74 ?_
            refine r_get F e_X10_readChange_75 fl_X10_141 h9463 rfl (fun v hv f9464 => ?_)
            obtain ⟨x9465, hx9465, rfl⟩ := hv
            replace hx9465 : 0 = 0 → x9465 ≠ 0 := hx9465
            refine m_if_eq F e_X10_readChange_78 (fun q78 => ?_) (fun q78 => ?_)
            · first | exact absurd q78 (hx9465 rfl) | contradiction
            · have h9466 := HS.z0 h9463 (f9464) q78
              have h9467 : HS V c _ [0, 2, 4, 5, 6, 7, 8, 9, 10, 11, 14, 15, 16, 17, 18, 19, 20, 21, 22, 23] _ _ := ⟨HR.mono (Z' := Z) (by intro e; first | rfl | assumption | omega) h9466.1, h9466.2⟩
              exact m_vret F hQ e_X10_readChange_81 (⟨P9434, oP9434, (by unfold RP; omega), h9467, rfl⟩)
        · have h9468 : HS V c (⟨T, 0, u, h, P9427, L⟩ : RG) [0, 2, 4, 5, 6, 7, 8, 9, 10, 11, 14, 15, 16, 17, 18, 19, 20, 21, 22, 23] _ _ := ⟨h9429, h9425.2⟩
          refine m_istore_n F (lv' := [(3, .int (nI (n9422 + 1))), (2, .int (nI (n9422 + 1))), (1, .int (nI (8 + P.n7))), (0, .ref c)]) e_X10_readChange_61 (by decide) rfl ?_
          refine m_aload_n F rfl e_X10_readChange_62 ?_
          refine m_sipush F (v := 500) (by decide) e_X10_readChange_63 ?_
          refine m_sipush F (v := 2000) (by decide) e_X10_readChange_66 ?_
          refine r_callV F e_X10_readChange_69 (q_X10_numeral (x_l X) V c T 0 u h P9427 L _ _ 500 2000 h9468.1 (hob) oP9427 (by omega) (by omega)) cb_X10_numeral ml_X10_165 im_X10_numeral se_X10_numeral h9468 rfl rfl (rest := []) rfl (Nat.le_of_ble_eq_true rfl) ⟨Nat.le_of_ble_eq_true rfl, Nat.le_of_ble_eq_true rfl⟩ ⟨Nat.le_of_ble_eq_true rfl, Nat.le_of_ble_eq_true rfl⟩ (fun r σ9469 hp => ?_)
          obtain ⟨P9473, oP9473, rP9473, h9470, c9472⟩ := hp
          have h9471 := HS.trans h9468 h9470 (by decide)
          have xP9473 := oP9473
          unfold OKP at xP9473
          unfold RA at rP9473
          rcases c9472 with ⟨n9474, gn9474, hn9474, rfl⟩ | ⟨h9475, rfl⟩
          · refine m_istore F (lv' := [(4, .int (nI n9474)), (3, .int (nI (n9422 + 1))), (2, .int (nI (n9422 + 1))), (1, .int (nI (8 + P.n7))), (0, .ref c)]) e_X10_readChange_72 (by decide) rfl ?_
            refine m_aload_n F rfl e_X10_readChange_74 ?_
            refine r_get F e_X10_readChange_75 fl_X10_141 h9471 rfl (fun v hv f9476 => ?_)
            obtain ⟨x9477, hx9477, rfl⟩ := hv
            replace hx9477 : 0 = 0 → x9477 ≠ 0 := hx9477
            refine m_if_eq F e_X10_readChange_78 (fun q78 => ?_) (fun q78 => ?_)
            · first | exact absurd q78 (hx9477 rfl) | contradiction
            · have h9478 := HS.z0 h9471 (f9476) q78
              have h9479 : HS V c _ [0, 2, 4, 5, 6, 7, 8, 9, 10, 11, 14, 15, 16, 17, 18, 19, 20, 21, 22, 23] _ _ := ⟨HR.mono (Z' := Z) (by intro e; first | rfl | assumption | omega) h9478.1, h9478.2⟩
              exact m_vret F hQ e_X10_readChange_81 (⟨P9473, oP9473, (by unfold RP; omega), h9479, rfl⟩)
          · have h9480 : HS V c (⟨T, 0, u, h, P9473, L⟩ : RG) [0, 2, 4, 5, 6, 7, 8, 9, 10, 11, 14, 15, 16, 17, 18, 19, 20, 21, 22, 23] _ _ := ⟨h9475, h9471.2⟩
            refine m_istore F (lv' := [(4, .int (nI 500)), (3, .int (nI (n9422 + 1))), (2, .int (nI (n9422 + 1))), (1, .int (nI (8 + P.n7))), (0, .ref c)]) e_X10_readChange_72 (by decide) rfl ?_
            refine m_aload_n F rfl e_X10_readChange_74 ?_
            refine r_get F e_X10_readChange_75 fl_X10_141 h9480 rfl (fun v hv f9481 => ?_)
            obtain ⟨x9482, hx9482, rfl⟩ := hv
            replace hx9482 : 0 = 0 → x9482 ≠ 0 := hx9482
            refine m_if_eq F e_X10_readChange_78 (fun q78 => ?_) (fun q78 => ?_)
            · first | exact absurd q78 (hx9482 rfl) | contradiction
            · have h9483 := HS.z0 h9480 (f9481) q78
              have h9484 : HS V c _ [0, 2, 4, 5, 6, 7, 8, 9, 10, 11, 14, 15, 16, 17, 18, 19, 20, 21, 22, 23] _ _ := ⟨HR.mono (Z' := Z) (by intro e; first | rfl | assumption | omega) h9483.1, h9483.2⟩
              exact m_vret F hQ e_X10_readChange_81 (⟨P9473, oP9473, (by unfold RP; omega), h9484, rfl⟩)
      · have h9485 := HS.z0 h9353 (f9416) q36
        refine m_iconst F (v := 0) (by decide) e_X10_readChange_39 ?_
        refine m_goto F e_X10_readChange_40 ?_
        refine m_istore_n F (lv' := [(2, .int 0), (1, .int (nI (8 + P.n7))), (0, .ref c)]) e_X10_readChange_53 (by decide) rfl ?_
        refine m_aload_n F rfl e_X10_readChange_54 ?_
        refine m_iload_n F rfl e_X10_readChange_55 ?_
        refine m_bipush F (v := 99) (by decide) e_X10_readChange_56 ?_
        refine r_callV F e_X10_readChange_58 (q_X10_numeral (x_l X) V c T 0 u h P9349 L _ _ 0 99 h9485.1 (hob) oP9349 (by omega) (by omega)) cb_X10_numeral ml_X10_165 im_X10_numeral se_X10_numeral h9485 rfl rfl (rest := []) rfl (Nat.le_of_ble_eq_true rfl) ⟨Nat.le_of_ble_eq_true rfl, Nat.le_of_ble_eq_true rfl⟩ ⟨Nat.le_of_ble_eq_true rfl, Nat.le_of_ble_eq_true rfl⟩ (fun r σ9486 hp => ?_)
        obtain ⟨P9490, oP9490, rP9490, h9487, c9489⟩ := hp
        have h9488 := HS.trans h9485 h9487 (by decide)
        have xP9490 := oP9490
        unfold OKP at xP9490
        unfold RA at rP9490
        rcases c9489 with ⟨n9491, gn9491, hn9491, rfl⟩ | ⟨h9492, rfl⟩
        · refine m_istore_n F (lv' := [(3, .int (nI n9491)), (2, .int 0), (1, .int (nI (8 + P.n7))), (0, .ref c)]) e_X10_readChange_61 (by decide) rfl ?_
          refine m_aload_n F rfl e_X10_readChange_62 ?_
          refine m_sipush F (v := 500) (by decide) e_X10_readChange_63 ?_
          refine m_sipush F (v := 2000) (by decide) e_X10_readChange_66 ?_
          refine r_callV F e_X10_readChange_69 (q_X10_numeral (x_l X) V c T 0 u h P9490 L _ _ 500 2000 h9488.1 (hob) oP9490 (by omega) (by omega)) cb_X10_numeral ml_X10_165 im_X10_numeral se_X10_numeral h9488 rfl rfl (rest := []) rfl (Nat.le_of_ble_eq_true rfl) ⟨Nat.le_of_ble_eq_true rfl, Nat.le_of_ble_eq_true rfl⟩ ⟨Nat.le_of_ble_eq_true rfl, Nat.le_of_ble_eq_true rfl⟩ (fun r σ9493 hp => ?_)
          obtain ⟨P9497, oP9497, rP9497, h9494, c9496⟩ := hp
          have h9495 := HS.trans h9488 h9494 (by decide)
          have xP9497 := oP9497
          unfold OKP at xP9497
          unfold RA at rP9497
          rcases c9496 with ⟨n9498, gn9498, hn9498, rfl⟩ | ⟨h9499, rfl⟩
          · refine m_istore F (lv' := [(4, .int (nI n9498)), (3, .int (nI n9491)), (2, .int 0), (1, .int (nI (8 + P.n7))), (0, .ref c)]) e_X10_readChange_72 (by decide) rfl ?_
            refine m_aload_n F rfl e_X10_readChange_74 ?_
            refine r_get F e_X10_readChange_75 fl_X10_141 h9495 rfl (fun v hv f9500 => ?_)
            obtain ⟨x9501, hx9501, rfl⟩ := hv
            replace hx9501 : 0 = 0 → x9501 ≠ 0 := hx9501
            refine m_if_eq F e_X10_readChange_78 (fun q78 => ?_) (fun q78 => ?_)
            · first | exact absurd q78 (hx9501 rfl) | contradiction
            · have h9502 := HS.z0 h9495 (f9500) q78
              have h9503 : HS V c _ [0, 2, 4, 5, 6, 7, 8, 9, 10, 11, 14, 15, 16, 17, 18, 19, 20, 21, 22, 23] _ _ := ⟨HR.mono (Z' := Z) (by intro e; first | rfl | assumption | omega) h9502.1, h9502.2⟩
              exact m_vret F hQ e_X10_readChange_81 (⟨P9497, oP9497, (by unfold RP; omega), h9503, rfl⟩)
          · have h9504 : HS V c (⟨T, 0, u, h, P9497, L⟩ : RG) [0, 2, 4, 5, 6, 7, 8, 9, 10, 11, 14, 15, 16, 17, 18, 19, 20, 21, 22, 23] _ _ := ⟨h9499, h9495.2⟩
            refine m_istore F (lv' := [(4, .int (nI 500)), (3, .int (nI n9491)), (2, .int 0), (1, .int (nI (8 + P.n7))), (0, .ref c)]) e_X10_readChange_72 (by decide) rfl ?_
            refine m_aload_n F rfl e_X10_readChange_74 ?_
            refine r_get F e_X10_readChange_75 fl_X10_141 h9504 rfl (fun v hv f9505 => ?_)
            obtain ⟨x9506, hx9506, rfl⟩ := hv
            replace hx9506 : 0 = 0 → x9506 ≠ 0 := hx9506
            refine m_if_eq F e_X10_readChange_78 (fun q78 => ?_) (fun q78 => ?_)
            · first | exact absurd q78 (hx9506 rfl) | contradiction
            · have h9507 := HS.z0 h9504 (f9505) q78
              have h9508 : HS V c _ [0, 2, 4, 5, 6, 7, 8, 9, 10, 11, 14, 15, 16, 17, 18, 19, 20, 21, 22, 23] _ _ := ⟨HR.mono (Z' := Z) (by intro e; first | rfl | assumption | omega) h9507.1, h9507.2⟩
              exact m_vret F hQ e_X10_readChange_81 (⟨P9497, oP9497, (by unfold RP; omega), h9508, rfl⟩)
        · have h9509 : HS V c (⟨T, 0, u, h, P9490, L⟩ : RG) [0, 2, 4, 5, 6, 7, 8, 9, 10, 11, 14, 15, 16, 17, 18, 19, 20, 21, 22, 23] _ _ := ⟨h9492, h9488.2⟩
          refine m_istore_n F (lv' := [(3, .int (nI 0)), (2, .int 0), (1, .int (nI (8 + P.n7))), (0, .ref c)]) e_X10_readChange_61 (by decide) rfl ?_
          refine m_aload_n F rfl e_X10_readChange_62 ?_
          refine m_sipush F (v := 500) (by decide) e_X10_readChange_63 ?_
          refine m_sipush F (v := 2000) (by decide) e_X10_readChange_66 ?_
          refine r_callV F e_X10_readChange_69 (q_X10_numeral (x_l X) V c T 0 u h P9490 L _ _ 500 2000 h9509.1 (hob) oP9490 (by omega) (by omega)) cb_X10_numeral ml_X10_165 im_X10_numeral se_X10_numeral h9509 rfl rfl (rest := []) rfl (Nat.le_of_ble_eq_true rfl) ⟨Nat.le_of_ble_eq_true rfl, Nat.le_of_ble_eq_true rfl⟩ ⟨Nat.le_of_ble_eq_true rfl, Nat.le_of_ble_eq_true rfl⟩ (fun r σ9510 hp => ?_)
          obtain ⟨P9514, oP9514, rP9514, h9511, c9513⟩ := hp
          have h9512 := HS.trans h9509 h9511 (by decide)
          have xP9514 := oP9514
          unfold OKP at xP9514
          unfold RA at rP9514
          rcases c9513 with ⟨n9515, gn9515, hn9515, rfl⟩ | ⟨h9516, rfl⟩
          · refine m_istore F (lv' := [(4, .int (nI n9515)), (3, .int (nI 0)), (2, .int 0), (1, .int (nI (8 + P.n7))), (0, .ref c)]) e_X10_readChange_72 (by decide) rfl ?_
            refine m_aload_n F rfl e_X10_readChange_74 ?_
            refine r_get F e_X10_readChange_75 fl_X10_141 h9512 rfl (fun v hv f9517 => ?_)
            obtain ⟨x9518, hx9518, rfl⟩ := hv
            replace hx9518 : 0 = 0 → x9518 ≠ 0 := hx9518
            refine m_if_eq F e_X10_readChange_78 (fun q78 => ?_) (fun q78 => ?_)
            · first | exact absurd q78 (hx9518 rfl) | contradiction
            · have h9519 := HS.z0 h9512 (f9517) q78
              have h9520 : HS V c _ [0, 2, 4, 5, 6, 7, 8, 9, 10, 11, 14, 15, 16, 17, 18, 19, 20, 21, 22, 23] _ _ := ⟨HR.mono (Z' := Z) (by intro e; first | rfl | assumption | omega) h9519.1, h9519.2⟩
              exact m_vret F hQ e_X10_readChange_81 (⟨P9514, oP9514, (by unfold RP; omega), h9520, rfl⟩)
          · have h9521 : HS V c (⟨T, 0, u, h, P9514, L⟩ : RG) [0, 2, 4, 5, 6, 7, 8, 9, 10, 11, 14, 15, 16, 17, 18, 19, 20, 21, 22, 23] _ _ := ⟨h9516, h9512.2⟩
            refine m_istore F (lv' := [(4, .int (nI 500)), (3, .int (nI 0)), (2, .int 0), (1, .int (nI (8 + P.n7))), (0, .ref c)]) e_X10_readChange_72 (by decide) rfl ?_
            refine m_aload_n F rfl e_X10_readChange_74 ?_
            refine r_get F e_X10_readChange_75 fl_X10_141 h9521 rfl (fun v hv f9522 => ?_)
            obtain ⟨x9523, hx9523, rfl⟩ := hv
            replace hx9523 : 0 = 0 → x9523 ≠ 0 := hx9523
            refine m_if_eq F e_X10_readChange_78 (fun q78 => ?_) (fun q78 => ?_)
            · first | exact absurd q78 (hx9523 rfl) | contradiction
            · have h9524 := HS.z0 h9521 (f9522) q78
              have h9525 : HS V c _ [0, 2, 4, 5, 6, 7, 8, 9, 10, 11, 14, 15, 16, 17, 18, 19, 20, 21, 22, 23] _ _ := ⟨HR.mono (Z' := Z) (by intro e; first | rfl | assumption | omega) h9524.1, h9524.2⟩
              exact m_vret F hQ e_X10_readChange_81 (⟨P9514, oP9514, (by unfold RP; omega), h9525, rfl⟩)
  · have c12 : (8 + P.n7) = 16 := (nI_eq (a := (8 + P.n7)) (b := 16) (by omega) (by omega)).mp q12
    refine m_aload_n F rfl e_X10_readChange_15 ?_
    refine m_iconst F (v := 2) (by decide) e_X10_readChange_16 ?_
    refine r_callV F e_X10_readChange_17 (q_X10_wrong (x_l X) V c T Z u h P L _ _ 2 h9345.1 (hob) hP (by first | omega | assumption | decide)) cb_X10_wrong ml_X10_150 im_X10_wrong se_X10_wrong h9345 rfl rfl (rest := []) rfl (Nat.le_of_ble_eq_true rfl) ⟨Nat.le_of_ble_eq_true rfl, Nat.le_of_ble_eq_true rfl⟩ ⟨Nat.le_of_ble_eq_true rfl, Nat.le_of_ble_eq_true rfl⟩ (fun r σ9526 hp => ?_)
    obtain ⟨h9527, rfl⟩ := hp
    have h9528 := HS.trans h9345 h9527 (by decide)
    refine m_aload_n F rfl e_X10_readChange_20 ?_
    refine r_callV F e_X10_readChange_21 (q_X10_goOn (x_l X) V c T 0 u h P L _ _  h9528.1 (hob) hP ) cb_X10_goOn ml_X10_154 im_X10_goOn se_X10_goOn h9528 rfl rfl (rest := []) rfl (Nat.le_of_ble_eq_true rfl) ⟨Nat.le_of_ble_eq_true rfl, Nat.le_of_ble_eq_true rfl⟩ ⟨Nat.le_of_ble_eq_true rfl, Nat.le_of_ble_eq_true rfl⟩ (fun r σ9529 hp => ?_)
    obtain ⟨P9532, oP9532, rP9532, pr9533, h9530, rfl⟩ := hp
    have h9531 := HS.trans h9528 h9530 (by decide)
    have xP9532 := oP9532
    unfold OKP at xP9532
    unfold RA at rP9532
    refine m_aload_n F rfl e_X10_readChange_24 ?_
    refine m_iconst F (v := 2) (by decide) e_X10_readChange_25 ?_
    refine r_callV F e_X10_readChange_26 (q_X10_reading2 (x_l X) V c T 0 u h P9532 L _ _  h9531.1 (hob) oP9532 ) cb_X10_reading ml_X10_157 im_X10_reading se_X10_reading h9531 rfl rfl (rest := []) rfl (Nat.le_of_ble_eq_true rfl) ⟨Nat.le_of_ble_eq_true rfl, Nat.le_of_ble_eq_true rfl⟩ ⟨Nat.le_of_ble_eq_true rfl, Nat.le_of_ble_eq_true rfl⟩ (fun r σ9534 hp => ?_)
    obtain ⟨h9535, rfl⟩ := hp
    have h9536 := HS.trans h9531 h9535 (by decide)
    refine m_if_eq F e_X10_readChange_29 (fun q29 => ?_) (fun q29 => ?_)
    · have c29 : P9532.n7 = 0 := (nI_eq (a := P9532.n7) (b := 0) (by omega) (by omega)).mp q29
      refine m_iconst F (v := 0) (by decide) e_X10_readChange_39 ?_
      refine m_goto F e_X10_readChange_40 ?_
      refine m_istore_n F (lv' := [(2, .int 0), (1, .int (nI (8 + P.n7))), (0, .ref c)]) e_X10_readChange_53 (by decide) rfl ?_
      refine m_aload_n F rfl e_X10_readChange_54 ?_
      refine m_iload_n F rfl e_X10_readChange_55 ?_
      refine m_bipush F (v := 99) (by decide) e_X10_readChange_56 ?_
      refine r_callV F e_X10_readChange_58 (q_X10_numeral (x_l X) V c T 0 u h P9532 L _ _ 0 99 h9536.1 (hob) oP9532 (by omega) (by omega)) cb_X10_numeral ml_X10_165 im_X10_numeral se_X10_numeral h9536 rfl rfl (rest := []) rfl (Nat.le_of_ble_eq_true rfl) ⟨Nat.le_of_ble_eq_true rfl, Nat.le_of_ble_eq_true rfl⟩ ⟨Nat.le_of_ble_eq_true rfl, Nat.le_of_ble_eq_true rfl⟩ (fun r σ9537 hp => ?_)
      obtain ⟨P9541, oP9541, rP9541, h9538, c9540⟩ := hp
      have h9539 := HS.trans h9536 h9538 (by decide)
      have xP9541 := oP9541
      unfold OKP at xP9541
      unfold RA at rP9541
      rcases c9540 with ⟨n9542, gn9542, hn9542, rfl⟩ | ⟨h9543, rfl⟩
      · refine m_istore_n F (lv' := [(3, .int (nI n9542)), (2, .int 0), (1, .int (nI (8 + P.n7))), (0, .ref c)]) e_X10_readChange_61 (by decide) rfl ?_
        refine m_aload_n F rfl e_X10_readChange_62 ?_
        refine m_sipush F (v := 500) (by decide) e_X10_readChange_63 ?_
        refine m_sipush F (v := 2000) (by decide) e_X10_readChange_66 ?_
        refine r_callV F e_X10_readChange_69 (q_X10_numeral (x_l X) V c T 0 u h P9541 L _ _ 500 2000 h9539.1 (hob) oP9541 (by omega) (by omega)) cb_X10_numeral ml_X10_165 im_X10_numeral se_X10_numeral h9539 rfl rfl (rest := []) rfl (Nat.le_of_ble_eq_true rfl) ⟨Nat.le_of_ble_eq_true rfl, Nat.le_of_ble_eq_true rfl⟩ ⟨Nat.le_of_ble_eq_true rfl, Nat.le_of_ble_eq_true rfl⟩ (fun r σ9544 hp => ?_)
        obtain ⟨P9548, oP9548, rP9548, h9545, c9547⟩ := hp
        have h9546 := HS.trans h9539 h9545 (by decide)
        have xP9548 := oP9548
        unfold OKP at xP9548
        unfold RA at rP9548
        rcases c9547 with ⟨n9549, gn9549, hn9549, rfl⟩ | ⟨h9550, rfl⟩
        · refine m_istore F (lv' := [(4, .int (nI n9549)), (3, .int (nI n9542)), (2, .int 0), (1, .int (nI (8 + P.n7))), (0, .ref c)]) e_X10_readChange_72 (by decide) rfl ?_
          refine m_aload_n F rfl e_X10_readChange_74 ?_
          refine r_get F e_X10_readChange_75 fl_X10_141 h9546 rfl (fun v hv f9551 => ?_)
          obtain ⟨x9552, hx9552, rfl⟩ := hv
          replace hx9552 : 0 = 0 → x9552 ≠ 0 := hx9552
          refine m_if_eq F e_X10_readChange_78 (fun q78 => ?_) (fun q78 => ?_)
          · first | exact absurd q78 (hx9552 rfl) | contradiction
          · have h9553 := HS.z0 h9546 (f9551) q78
            have h9554 : HS V c _ [0, 2, 4, 5, 6, 7, 8, 9, 10, 11, 14, 15, 16, 17, 18, 19, 20, 21, 22, 23] _ _ := ⟨HR.mono (Z' := Z) (by intro e; first | rfl | assumption | omega) h9553.1, h9553.2⟩
            exact m_vret F hQ e_X10_readChange_81 (⟨P9548, oP9548, (by unfold RP; omega), h9554, rfl⟩)
        · have h9555 : HS V c (⟨T, 0, u, h, P9548, L⟩ : RG) [0, 2, 4, 5, 6, 7, 8, 9, 10, 11, 14, 15, 16, 17, 18, 19, 20, 21, 22, 23] _ _ := ⟨h9550, h9546.2⟩
          refine m_istore F (lv' := [(4, .int (nI 500)), (3, .int (nI n9542)), (2, .int 0), (1, .int (nI (8 + P.n7))), (0, .ref c)]) e_X10_readChange_72 (by decide) rfl ?_
          refine m_aload_n F rfl e_X10_readChange_74 ?_
          refine r_get F e_X10_readChange_75 fl_X10_141 h9555 rfl (fun v hv f9556 => ?_)
          obtain ⟨x9557, hx9557, rfl⟩ := hv
          replace hx9557 : 0 = 0 → x9557 ≠ 0 := hx9557
          refine m_if_eq F e_X10_readChange_78 (fun q78 => ?_) (fun q78 => ?_)
          · first | exact absurd q78 (hx9557 rfl) | contradiction
          · have h9558 := HS.z0 h9555 (f9556) q78
            have h9559 : HS V c _ [0, 2, 4, 5, 6, 7, 8, 9, 10, 11, 14, 15, 16, 17, 18, 19, 20, 21, 22, 23] _ _ := ⟨HR.mono (Z' := Z) (by intro e; first | rfl | assumption | omega) h9558.1, h9558.2⟩
            exact m_vret F hQ e_X10_readChange_81 (⟨P9548, oP9548, (by unfold RP; omega), h9559, rfl⟩)
      · have h9560 : HS V c (⟨T, 0, u, h, P9541, L⟩ : RG) [0, 2, 4, 5, 6, 7, 8, 9, 10, 11, 14, 15, 16, 17, 18, 19, 20, 21, 22, 23] _ _ := ⟨h9543, h9539.2⟩
        refine m_istore_n F (lv' := [(3, .int (nI 0)), (2, .int 0), (1, .int (nI (8 + P.n7))), (0, .ref c)]) e_X10_readChange_61 (by decide) rfl ?_
        refine m_aload_n F rfl e_X10_readChange_62 ?_
        refine m_sipush F (v := 500) (by decide) e_X10_readChange_63 ?_
        refine m_sipush F (v := 2000) (by decide) e_X10_readChange_66 ?_
        refine r_callV F e_X10_readChange_69 (q_X10_numeral (x_l X) V c T 0 u h P9541 L _ _ 500 2000 h9560.1 (hob) oP9541 (by omega) (by omega)) cb_X10_numeral ml_X10_165 im_X10_numeral se_X10_numeral h9560 rfl rfl (rest := []) rfl (Nat.le_of_ble_eq_true rfl) ⟨Nat.le_of_ble_eq_true rfl, Nat.le_of_ble_eq_true rfl⟩ ⟨Nat.le_of_ble_eq_true rfl, Nat.le_of_ble_eq_true rfl⟩ (fun r σ9561 hp => ?_)
        obtain ⟨P9565, oP9565, rP9565, h9562, c9564⟩ := hp
        have h9563 := HS.trans h9560 h9562 (by decide)
        have xP9565 := oP9565
        unfold OKP at xP9565
        unfold RA at rP9565
        rcases c9564 with ⟨n9566, gn9566, hn9566, rfl⟩ | ⟨h9567, rfl⟩
        · refine m_istore F (lv' := [(4, .int (nI n9566)), (3, .int (nI 0)), (2, .int 0), (1, .int (nI (8 + P.n7))), (0, .ref c)]) e_X10_readChange_72 (by decide) rfl ?_
          refine m_aload_n F rfl e_X10_readChange_74 ?_
          refine r_get F e_X10_readChange_75 fl_X10_141 h9563 rfl (fun v hv f9568 => ?_)
          obtain ⟨x9569, hx9569, rfl⟩ := hv
          replace hx9569 : 0 = 0 → x9569 ≠ 0 := hx9569
          refine m_if_eq F e_X10_readChange_78 (fun q78 => ?_) (fun q78 => ?_)
          · first | exact absurd q78 (hx9569 rfl) | contradiction
          · have h9570 := HS.z0 h9563 (f9568) q78
            have h9571 : HS V c _ [0, 2, 4, 5, 6, 7, 8, 9, 10, 11, 14, 15, 16, 17, 18, 19, 20, 21, 22, 23] _ _ := ⟨HR.mono (Z' := Z) (by intro e; first | rfl | assumption | omega) h9570.1, h9570.2⟩
            exact m_vret F hQ e_X10_readChange_81 (⟨P9565, oP9565, (by unfold RP; omega), h9571, rfl⟩)
        · have h9572 : HS V c (⟨T, 0, u, h, P9565, L⟩ : RG) [0, 2, 4, 5, 6, 7, 8, 9, 10, 11, 14, 15, 16, 17, 18, 19, 20, 21, 22, 23] _ _ := ⟨h9567, h9563.2⟩
          refine m_istore F (lv' := [(4, .int (nI 500)), (3, .int (nI 0)), (2, .int 0), (1, .int (nI (8 + P.n7))), (0, .ref c)]) e_X10_readChange_72 (by decide) rfl ?_
          refine m_aload_n F rfl e_X10_readChange_74 ?_
          refine r_get F e_X10_readChange_75 fl_X10_141 h9572 rfl (fun v hv f9573 => ?_)
          obtain ⟨x9574, hx9574, rfl⟩ := hv
          replace hx9574 : 0 = 0 → x9574 ≠ 0 := hx9574
          refine m_if_eq F e_X10_readChange_78 (fun q78 => ?_) (fun q78 => ?_)
          · first | exact absurd q78 (hx9574 rfl) | contradiction
          · have h9575 := HS.z0 h9572 (f9573) q78
            have h9576 : HS V c _ [0, 2, 4, 5, 6, 7, 8, 9, 10, 11, 14, 15, 16, 17, 18, 19, 20, 21, 22, 23] _ _ := ⟨HR.mono (Z' := Z) (by intro e; first | rfl | assumption | omega) h9575.1, h9575.2⟩
            exact m_vret F hQ e_X10_readChange_81 (⟨P9565, oP9565, (by unfold RP; omega), h9576, rfl⟩)
    · have c29 : P9532.n7 ≠ 0 := by have hh := mt (nI_eq (a := P9532.n7) (b := 0) (by omega) (by omega)).mpr q29; omega
      refine m_aload_n F rfl e_X10_readChange_32 ?_
      refine r_get F e_X10_readChange_33 fl_X10_141 h9536 rfl (fun v hv f9577 => ?_)
      obtain ⟨x9578, hx9578, rfl⟩ := hv
      replace hx9578 : 0 = 0 → x9578 ≠ 0 := hx9578
      refine m_if_eq F e_X10_readChange_36 (fun q36 => ?_) (fun q36 => ?_)
      · first | exact absurd q36 (hx9578 rfl) | contradiction
      · have h9579 := HS.z0 h9536 (f9577) q36
        refine m_iconst F (v := 0) (by decide) e_X10_readChange_39 ?_
        refine m_goto F e_X10_readChange_40 ?_
        refine m_istore_n F (lv' := [(2, .int 0), (1, .int (nI (8 + P.n7))), (0, .ref c)]) e_X10_readChange_53 (by decide) rfl ?_
        refine m_aload_n F rfl e_X10_readChange_54 ?_
        refine m_iload_n F rfl e_X10_readChange_55 ?_
        refine m_bipush F (v := 99) (by decide) e_X10_readChange_56 ?_
        refine r_callV F e_X10_readChange_58 (q_X10_numeral (x_l X) V c T 0 u h P9532 L _ _ 0 99 h9579.1 (hob) oP9532 (by omega) (by omega)) cb_X10_numeral ml_X10_165 im_X10_numeral se_X10_numeral h9579 rfl rfl (rest := []) rfl (Nat.le_of_ble_eq_true rfl) ⟨Nat.le_of_ble_eq_true rfl, Nat.le_of_ble_eq_true rfl⟩ ⟨Nat.le_of_ble_eq_true rfl, Nat.le_of_ble_eq_true rfl⟩ (fun r σ9580 hp => ?_)
        obtain ⟨P9584, oP9584, rP9584, h9581, c9583⟩ := hp
        have h9582 := HS.trans h9579 h9581 (by decide)
        have xP9584 := oP9584
        unfold OKP at xP9584
        unfold RA at rP9584
        rcases c9583 with ⟨n9585, gn9585, hn9585, rfl⟩ | ⟨h9586, rfl⟩
        · refine m_istore_n F (lv' := [(3, .int (nI n9585)), (2, .int 0), (1, .int (nI (8 + P.n7))), (0, .ref c)]) e_X10_readChange_61 (by decide) rfl ?_
          refine m_aload_n F rfl e_X10_readChange_62 ?_
          refine m_sipush F (v := 500) (by decide) e_X10_readChange_63 ?_
          refine m_sipush F (v := 2000) (by decide) e_X10_readChange_66 ?_
          refine r_callV F e_X10_readChange_69 (q_X10_numeral (x_l X) V c T 0 u h P9584 L _ _ 500 2000 h9582.1 (hob) oP9584 (by omega) (by omega)) cb_X10_numeral ml_X10_165 im_X10_numeral se_X10_numeral h9582 rfl rfl (rest := []) rfl (Nat.le_of_ble_eq_true rfl) ⟨Nat.le_of_ble_eq_true rfl, Nat.le_of_ble_eq_true rfl⟩ ⟨Nat.le_of_ble_eq_true rfl, Nat.le_of_ble_eq_true rfl⟩ (fun r σ9587 hp => ?_)
          obtain ⟨P9591, oP9591, rP9591, h9588, c9590⟩ := hp
          have h9589 := HS.trans h9582 h9588 (by decide)
          have xP9591 := oP9591
          unfold OKP at xP9591
          unfold RA at rP9591
          rcases c9590 with ⟨n9592, gn9592, hn9592, rfl⟩ | ⟨h9593, rfl⟩
          · refine m_istore F (lv' := [(4, .int (nI n9592)), (3, .int (nI n9585)), (2, .int 0), (1, .int (nI (8 + P.n7))), (0, .ref c)]) e_X10_readChange_72 (by decide) rfl ?_
            refine m_aload_n F rfl e_X10_readChange_74 ?_
            refine r_get F e_X10_readChange_75 fl_X10_141 h9589 rfl (fun v hv f9594 => ?_)
            obtain ⟨x9595, hx9595, rfl⟩ := hv
            replace hx9595 : 0 = 0 → x9595 ≠ 0 := hx9595
            refine m_if_eq F e_X10_readChange_78 (fun q78 => ?_) (fun q78 => ?_)
            · first | exact absurd q78 (hx9595 rfl) | contradiction
            · have h9596 := HS.z0 h9589 (f9594) q78
              have h9597 : HS V c _ [0, 2, 4, 5, 6, 7, 8, 9, 10, 11, 14, 15, 16, 17, 18, 19, 20, 21, 22, 23] _ _ := ⟨HR.mono (Z' := Z) (by intro e; first | rfl | assumption | omega) h9596.1, h9596.2⟩
              exact m_vret F hQ e_X10_readChange_81 (⟨P9591, oP9591, (by unfold RP; omega), h9597, rfl⟩)
          · have h9598 : HS V c (⟨T, 0, u, h, P9591, L⟩ : RG) [0, 2, 4, 5, 6, 7, 8, 9, 10, 11, 14, 15, 16, 17, 18, 19, 20, 21, 22, 23] _ _ := ⟨h9593, h9589.2⟩
            refine m_istore F (lv' := [(4, .int (nI 500)), (3, .int (nI n9585)), (2, .int 0), (1, .int (nI (8 + P.n7))), (0, .ref c)]) e_X10_readChange_72 (by decide) rfl ?_
            refine m_aload_n F rfl e_X10_readChange_74 ?_
            refine r_get F e_X10_readChange_75 fl_X10_141 h9598 rfl (fun v hv f9599 => ?_)
            obtain ⟨x9600, hx9600, rfl⟩ := hv
            replace hx9600 : 0 = 0 → x9600 ≠ 0 := hx9600
            refine m_if_eq F e_X10_readChange_78 (fun q78 => ?_) (fun q78 => ?_)
            · first | exact absurd q78 (hx9600 rfl) | contradiction
            · have h9601 := HS.z0 h9598 (f9599) q78
              have h9602 : HS V c _ [0, 2, 4, 5, 6, 7, 8, 9, 10, 11, 14, 15, 16, 17, 18, 19, 20, 21, 22, 23] _ _ := ⟨HR.mono (Z' := Z) (by intro e; first | rfl | assumption | omega) h9601.1, h9601.2⟩
              exact m_vret F hQ e_X10_readChange_81 (⟨P9591, oP9591, (by unfold RP; omega), h9602, rfl⟩)
        · have h9603 : HS V c (⟨T, 0, u, h, P9584, L⟩ : RG) [0, 2, 4, 5, 6, 7, 8, 9, 10, 11, 14, 15, 16, 17, 18, 19, 20, 21, 22, 23] _ _ := ⟨h9586, h9582.2⟩
          refine m_istore_n F (lv' := [(3, .int (nI 0)), (2, .int 0), (1, .int (nI (8 + P.n7))), (0, .ref c)]) e_X10_readChange_61 (by decide) rfl ?_
          refine m_aload_n F rfl e_X10_readChange_62 ?_
          refine m_sipush F (v := 500) (by decide) e_X10_readChange_63 ?_
          refine m_sipush F (v := 2000) (by decide) e_X10_readChange_66 ?_
          refine r_callV F e_X10_readChange_69 (q_X10_numeral (x_l X) V c T 0 u h P9584 L _ _ 500 2000 h9603.1 (hob) oP9584 (by omega) (by omega)) cb_X10_numeral ml_X10_165 im_X10_numeral se_X10_numeral h9603 rfl rfl (rest := []) rfl (Nat.le_of_ble_eq_true rfl) ⟨Nat.le_of_ble_eq_true rfl, Nat.le_of_ble_eq_true rfl⟩ ⟨Nat.le_of_ble_eq_true rfl, Nat.le_of_ble_eq_true rfl⟩ (fun r σ9604 hp => ?_)
          obtain ⟨P9608, oP9608, rP9608, h9605, c9607⟩ := hp
          have h9606 := HS.trans h9603 h9605 (by decide)
          have xP9608 := oP9608
          unfold OKP at xP9608
          unfold RA at rP9608
          rcases c9607 with ⟨n9609, gn9609, hn9609, rfl⟩ | ⟨h9610, rfl⟩
          · refine m_istore F (lv' := [(4, .int (nI n9609)), (3, .int (nI 0)), (2, .int 0), (1, .int (nI (8 + P.n7))), (0, .ref c)]) e_X10_readChange_72 (by decide) rfl ?_
            refine m_aload_n F rfl e_X10_readChange_74 ?_
            refine r_get F e_X10_readChange_75 fl_X10_141 h9606 rfl (fun v hv f9611 => ?_)
            obtain ⟨x9612, hx9612, rfl⟩ := hv
            replace hx9612 : 0 = 0 → x9612 ≠ 0 := hx9612
            refine m_if_eq F e_X10_readChange_78 (fun q78 => ?_) (fun q78 => ?_)
            · first | exact absurd q78 (hx9612 rfl) | contradiction
            · have h9613 := HS.z0 h9606 (f9611) q78
              have h9614 : HS V c _ [0, 2, 4, 5, 6, 7, 8, 9, 10, 11, 14, 15, 16, 17, 18, 19, 20, 21, 22, 23] _ _ := ⟨HR.mono (Z' := Z) (by intro e; first | rfl | assumption | omega) h9613.1, h9613.2⟩
              exact m_vret F hQ e_X10_readChange_81 (⟨P9608, oP9608, (by unfold RP; omega), h9614, rfl⟩)
          · have h9615 : HS V c (⟨T, 0, u, h, P9608, L⟩ : RG) [0, 2, 4, 5, 6, 7, 8, 9, 10, 11, 14, 15, 16, 17, 18, 19, 20, 21, 22, 23] _ _ := ⟨h9610, h9606.2⟩
            refine m_istore F (lv' := [(4, .int (nI 500)), (3, .int (nI 0)), (2, .int 0), (1, .int (nI (8 + P.n7))), (0, .ref c)]) e_X10_readChange_72 (by decide) rfl ?_
            refine m_aload_n F rfl e_X10_readChange_74 ?_
            refine r_get F e_X10_readChange_75 fl_X10_141 h9615 rfl (fun v hv f9616 => ?_)
            obtain ⟨x9617, hx9617, rfl⟩ := hv
            replace hx9617 : 0 = 0 → x9617 ≠ 0 := hx9617
            refine m_if_eq F e_X10_readChange_78 (fun q78 => ?_) (fun q78 => ?_)
            · first | exact absurd q78 (hx9617 rfl) | contradiction
            · have h9618 := HS.z0 h9615 (f9616) q78
              have h9619 : HS V c _ [0, 2, 4, 5, 6, 7, 8, 9, 10, 11, 14, 15, 16, 17, 18, 19, 20, 21, 22, 23] _ _ := ⟨HR.mono (Z' := Z) (by intro e; first | rfl | assumption | omega) h9618.1, h9618.2⟩
              exact m_vret F hQ e_X10_readChange_81 (⟨P9608, oP9608, (by unfold RP; omega), h9619, rfl⟩)
set_option maxRecDepth 20000 in
theorem q_X10_readOption (l : Launch) (V : VX) (c T Z u h : Nat) (P : NP) (L : Nat → LQ) (N : Nat) (σ : Mem)  (h0 : HR V c ⟨T, Z, u, h, P, L⟩ σ) (hob : OKB L) (hP : OKP P)  : Ct l V yX10_readOption cX10_readOption 5 none 8 0 0 N σ [.ref c] (fun r τ => ∃ P9 : NP, OKP P9 ∧ RP P P9 ∧ HS V c (⟨T, Z, u, h, P9, L⟩ : RG) [0, 2, 4, 5, 6, 7, 8, 9, 10, 11, 12, 13, 17, 18, 19, 20, 21, 22, 23] σ τ ∧ r = none) := by
  refine Ct.of (by decide) (Nat.le_of_ble_eq_true rfl) [(0, .ref c)] rfl (fun X hX F hQ => ?_)
  have hPP := hP
  unfold OKP at hPP
  have h1 : HS V c ⟨T, Z, u, h, P, L⟩ [0, 2, 4, 5, 6, 7, 8, 9, 10, 11, 12, 13, 17, 18, 19, 20, 21, 22, 23] σ σ := HS.start h0
  refine m_iconst F (v := 4) (by decide) e_X10_readOption_0 ?_
  refine m_aload_n F rfl e_X10_readOption_1 ?_
  refine m_iconst F (v := 3) (by decide) e_X10_readOption_2 ?_
  refine r_callV F e_X10_readOption_3 (q_X10_reading3 (x_l X) V c T Z u h P L _ _  h1.1 (hob) hP ) cb_X10_reading ml_X10_157 im_X10_reading se_X10_reading h1 rfl rfl (rest := [.int 4]) rfl (Nat.le_of_ble_eq_true rfl) ⟨Nat.le_of_ble_eq_true rfl, Nat.le_of_ble_eq_true rfl⟩ ⟨Nat.le_of_ble_eq_true rfl, Nat.le_of_ble_eq_true rfl⟩ (fun r σ9620 hp => ?_)
  obtain ⟨h9621, n9623, hn9623, f9624, rfl⟩ := hp
  have h9622 := HS.trans h1 h9621 (by decide)
  refine m_iadd F e_X10_readOption_6 ?_
  refine Wm.topE (w := nI (4 + n9623)) (nI_add 4 n9623) ?_
  refine m_istore_n F (lv' := [(1, .int (nI (4 + n9623))), (0, .ref c)]) e_X10_readOption_7 (by decide) rfl ?_
  refine m_iload_n F rfl e_X10_readOption_8 ?_
  refine m_bipush F (v := 8) (by decide) e_X10_readOption_9 ?_
  refine m_icmp_ne F e_X10_readOption_11 (fun q11 => ?_) (fun q11 => ?_)
  · have c11 : (4 + n9623) ≠ 8 := by have hh := mt (nI_eq (a := (4 + n9623)) (b := 8) (by omega) (by omega)).mpr q11; omega
    refine m_aload_n F rfl e_X10_readOption_19 ?_
    refine r_callV F e_X10_readOption_20 (q_X10_atHand (x_l X) V c T Z u h P L _ _  h9622.1 (hob) hP ) cb_X10_atHand ml_X10_174 im_X10_atHand se_X10_atHand h9622 rfl rfl (rest := []) rfl (Nat.le_of_ble_eq_true rfl) ⟨Nat.le_of_ble_eq_true rfl, Nat.le_of_ble_eq_true rfl⟩ ⟨Nat.le_of_ble_eq_true rfl, Nat.le_of_ble_eq_true rfl⟩ (fun r σ9625 hp => ?_)
    obtain ⟨P9629, oP9629, rP9629, h9626, n9628, gn9628, hn9628, rfl⟩ := hp
    have h9627 := HS.trans h9622 h9626 (by decide)
    have xP9629 := oP9629
    unfold OKP at xP9629
    unfold RA at rP9629
    refine m_istore_n F (lv' := [(2, .int (nI n9628)), (1, .int (nI (4 + n9623))), (0, .ref c)]) e_X10_readOption_23 (by decide) rfl ?_
    refine m_aload_n F rfl e_X10_readOption_24 ?_
    refine r_callV F e_X10_readOption_25 (q_X10_goOn (x_l X) V c T Z u h P9629 L _ _  h9627.1 (hob) oP9629 ) cb_X10_goOn ml_X10_154 im_X10_goOn se_X10_goOn h9627 rfl rfl (rest := []) rfl (Nat.le_of_ble_eq_true rfl) ⟨Nat.le_of_ble_eq_true rfl, Nat.le_of_ble_eq_true rfl⟩ ⟨Nat.le_of_ble_eq_true rfl, Nat.le_of_ble_eq_true rfl⟩ (fun r σ9630 hp => ?_)
    obtain ⟨P9633, oP9633, rP9633, pr9634, h9631, rfl⟩ := hp
    have h9632 := HS.trans h9627 h9631 (by decide)
    have xP9633 := oP9633
    unfold OKP at xP9633
    unfold RA at rP9633
    refine m_aload_n F rfl e_X10_readOption_28 ?_
    refine m_iconst F (v := 1) (by decide) e_X10_readOption_29 ?_
    refine m_bipush F (v := 24) (by decide) e_X10_readOption_30 ?_
    refine r_callV F e_X10_readOption_32 (q_X10_numeral (x_l X) V c T Z u h P9633 L _ _ 1 24 h9632.1 (hob) oP9633 (by omega) (by omega)) cb_X10_numeral ml_X10_165 im_X10_numeral se_X10_numeral h9632 rfl rfl (rest := []) rfl (Nat.le_of_ble_eq_true rfl) ⟨Nat.le_of_ble_eq_true rfl, Nat.le_of_ble_eq_true rfl⟩ ⟨Nat.le_of_ble_eq_true rfl, Nat.le_of_ble_eq_true rfl⟩ (fun r σ9635 hp => ?_)
    obtain ⟨P9639, oP9639, rP9639, h9636, c9638⟩ := hp
    have h9637 := HS.trans h9632 h9636 (by decide)
    have xP9639 := oP9639
    unfold OKP at xP9639
    unfold RA at rP9639
    rcases c9638 with ⟨n9640, gn9640, hn9640, rfl⟩ | ⟨h9641, rfl⟩
    · refine m_istore_n F (lv' := [(3, .int (nI n9640)), (2, .int (nI n9628)), (1, .int (nI (4 + n9623))), (0, .ref c)]) e_X10_readOption_35 (by decide) rfl ?_
      refine m_aload_n F rfl e_X10_readOption_36 ?_
      refine m_iconst F (v := 0) (by decide) e_X10_readOption_37 ?_
      refine m_ldc F kc_X10_177 e_X10_readOption_38 ?_
      refine r_callV F e_X10_readOption_40 (q_X10_numeral (x_l X) V c T Z u h P9639 L _ _ 0 99999 h9637.1 (hob) oP9639 (by omega) (by omega)) cb_X10_numeral ml_X10_165 im_X10_numeral se_X10_numeral h9637 rfl rfl (rest := []) rfl (Nat.le_of_ble_eq_true rfl) ⟨Nat.le_of_ble_eq_true rfl, Nat.le_of_ble_eq_true rfl⟩ ⟨Nat.le_of_ble_eq_true rfl, Nat.le_of_ble_eq_true rfl⟩ (fun r σ9642 hp => ?_)
      obtain ⟨P9646, oP9646, rP9646, h9643, c9645⟩ := hp
      have h9644 := HS.trans h9637 h9643 (by decide)
      have xP9646 := oP9646
      unfold OKP at xP9646
      unfold RA at rP9646
      rcases c9645 with ⟨n9647, gn9647, hn9647, rfl⟩ | ⟨h9648, rfl⟩
      · refine m_istore F (lv' := [(4, .int (nI n9647)), (3, .int (nI n9640)), (2, .int (nI n9628)), (1, .int (nI (4 + n9623))), (0, .ref c)]) e_X10_readOption_43 (by decide) rfl ?_
        refine m_aload_n F rfl e_X10_readOption_45 ?_
        refine r_get F e_X10_readOption_46 fl_X10_141 h9644 rfl (fun v hv f9649 => ?_)
        obtain ⟨x9650, hx9650, rfl⟩ := hv
        replace hx9650 : Z = 0 → x9650 ≠ 0 := hx9650
        refine m_if_eq F e_X10_readOption_49 (fun q49 => ?_) (fun q49 => ?_)
        · subst q49
          refine m_aload_n F rfl e_X10_readOption_53 ?_
          refine r_get F e_X10_readOption_54 fl_X10_46 h9644 rfl (fun v hv f9651 => ?_)
          obtain rfl : v = .ref (c + 13) := hv
          refine m_iload_n F rfl e_X10_readOption_57 ?_
          refine m_iload_n F rfl e_X10_readOption_58 ?_
          refine m_iconst F (v := 4) (by decide) e_X10_readOption_59 ?_
          refine m_isub F e_X10_readOption_60 ?_
          refine Wm.topE (w := nI (n9628 - 4)) (pk_sub (a := n9628) (b := 4) (by omega)) ?_
          refine r_iast F (g' := (⟨T, Z, u, h, P9646, L⟩ : RG)) (len := 8) (j := 4 + n9623) e_X10_readOption_61 h9644 (fun _ h => h) (fun f h => ⟨f, rfl, h⟩) (by decide) (by decide) (nI_clamp (by omega)) (vp_in_nI (by omega) (by decide)) ⟨n9628 - 4, by omega, rfl⟩ (fun _ _ _ h => h) (fun _ _ _ h => h) (fun σ9652 h9653 g9654 f9655 g9656 => ?_)
          refine m_aload_n F rfl e_X10_readOption_62 ?_
          refine r_get F e_X10_readOption_63 fl_X10_49 h9653 rfl (fun v hv f9657 => ?_)
          obtain rfl : v = .ref (c + 14) := hv
          refine m_iload_n F rfl e_X10_readOption_66 ?_
          refine m_iload_n F rfl e_X10_readOption_67 ?_
          refine r_iast F (g' := (⟨T, Z, u, h, P9646, L⟩ : RG)) (len := 8) (j := 4 + n9623) e_X10_readOption_68 h9653 (fun _ h => h) (fun f h => ⟨f, rfl, h⟩) (by decide) (by decide) (nI_clamp (by omega)) (vp_in_nI (by omega) (by decide)) ⟨n9640, by omega, rfl⟩ (fun _ _ _ h => h) (fun _ _ _ h => h) (fun σ9658 h9659 g9660 f9661 g9662 => ?_)
          refine m_aload_n F rfl e_X10_readOption_69 ?_
          refine r_get F e_X10_readOption_70 fl_X10_52 h9659 rfl (fun v hv f9663 => ?_)
          obtain rfl : v = .ref (c + 15) := hv
          refine m_iload_n F rfl e_X10_readOption_73 ?_
          refine m_iload F rfl e_X10_readOption_74 ?_
          refine r_iast F (g' := (⟨T, Z, u, h, P9646, L⟩ : RG)) (len := 8) (j := 4 + n9623) e_X10_readOption_76 h9659 (fun _ h => h) (fun f h => ⟨f, rfl, h⟩) (by decide) (by decide) (nI_clamp (by omega)) (vp_in_nI (by omega) (by decide)) trivial (fun _ _ _ h => h) (fun _ _ _ h => h) (fun σ9664 h9665 g9666 f9667 g9668 => ?_)
          refine m_aload_n F rfl e_X10_readOption_77 ?_
          refine m_iconst F (v := 3) (by decide) e_X10_readOption_78 ?_
          refine m_aload_n F rfl e_X10_readOption_79 ?_
          refine m_iconst F (v := 3) (by decide) e_X10_readOption_80 ?_
          refine r_callV F e_X10_readOption_81 (q_X10_reading3 (x_l X) V c T Z u h P9646 L _ _  h9665.1 (hob) oP9646 ) cb_X10_reading ml_X10_157 im_X10_reading se_X10_reading h9665 rfl rfl (rest := [.int 3, .ref c]) rfl (Nat.le_of_ble_eq_true rfl) ⟨Nat.le_of_ble_eq_true rfl, Nat.le_of_ble_eq_true rfl⟩ ⟨Nat.le_of_ble_eq_true rfl, Nat.le_of_ble_eq_true rfl⟩ (fun r σ9669 hp => ?_)
          obtain ⟨h9670, n9672, hn9672, f9673, rfl⟩ := hp
          have h9671 := HS.trans h9665 h9670 (by decide)
          have gn9672 := nI_inj (by omega) (by omega) (Option.some.inj ((f9673).symm.trans ((elI_eq (h9670.2 (c + 2) (by rw [kC_at (k := 2) (by decide)]; decide))).trans ((elI_eq (g9666 _ (by omega))).trans ((elI_eq (g9660 _ (by omega))).trans ((elI_eq (g9654 _ (by omega))).trans ((elI_eq (h9643.2 (c + 2) (by rw [kC_at (k := 2) (by decide)]; decide))).trans ((elI_eq (h9636.2 (c + 2) (by rw [kC_at (k := 2) (by decide)]; decide))).trans ((elI_eq (h9631.2 (c + 2) (by rw [kC_at (k := 2) (by decide)]; decide))).trans ((elI_eq (h9626.2 (c + 2) (by rw [kC_at (k := 2) (by decide)]; decide))).trans f9624))))))))))
          refine m_iconst F (v := 1) (by decide) e_X10_readOption_84 ?_
          refine m_iadd F e_X10_readOption_85 ?_
          refine Wm.topE (w := nI (n9672 + 1)) (nI_add n9672 1) ?_
          refine r_callV F e_X10_readOption_86 (q_X10_reads3 (x_l X) V c T Z u h P9646 L _ _ (n9672 + 1) h9671.1 (hob) oP9646 (by omega)) cb_X10_reads ml_X10_170 im_X10_reads se_X10_reads h9671 rfl rfl (rest := []) rfl (Nat.le_of_ble_eq_true rfl) ⟨Nat.le_of_ble_eq_true rfl, Nat.le_of_ble_eq_true rfl⟩ ⟨Nat.le_of_ble_eq_true rfl, Nat.le_of_ble_eq_true rfl⟩ (fun r σ9674 hp => ?_)
          obtain ⟨h9675, rfl⟩ := hp
          have h9676 := HS.trans h9671 h9675 (by decide)
          exact m_vret F hQ e_X10_readOption_89 (⟨P9646, oP9646, (by unfold RP; omega), h9676, rfl⟩)
        · have h9677 := HS.z0 h9644 (f9649) q49
          have h9678 : HS V c _ [0, 2, 4, 5, 6, 7, 8, 9, 10, 11, 12, 13, 17, 18, 19, 20, 21, 22, 23] _ _ := ⟨HR.mono (Z' := Z) (by intro e; first | rfl | assumption | omega) h9677.1, h9677.2⟩
          exact m_vret F hQ e_X10_readOption_52 (⟨P9646, oP9646, (by unfold RP; omega), h9678, rfl⟩)
      · have h9679 : HS V c (⟨T, 0, u, h, P9646, L⟩ : RG) [0, 2, 4, 5, 6, 7, 8, 9, 10, 11, 12, 13, 17, 18, 19, 20, 21, 22, 23] _ _ := ⟨h9648, h9644.2⟩
        refine m_istore F (lv' := [(4, .int (nI 0)), (3, .int (nI n9640)), (2, .int (nI n9628)), (1, .int (nI (4 + n9623))), (0, .ref c)]) e_X10_readOption_43 (by decide) rfl ?_
        refine m_aload_n F rfl e_X10_readOption_45 ?_
        refine r_get F e_X10_readOption_46 fl_X10_141 h9679 rfl (fun v hv f9680 => ?_)
        obtain ⟨x9681, hx9681, rfl⟩ := hv
        replace hx9681 : 0 = 0 → x9681 ≠ 0 := hx9681
        refine m_if_eq F e_X10_readOption_49 (fun q49 => ?_) (fun q49 => ?_)
        · first | exact absurd q49 (hx9681 rfl) | contradiction
        · have h9682 := HS.z0 h9679 (f9680) q49
          have h9683 : HS V c _ [0, 2, 4, 5, 6, 7, 8, 9, 10, 11, 12, 13, 17, 18, 19, 20, 21, 22, 23] _ _ := ⟨HR.mono (Z' := Z) (by intro e; first | rfl | assumption | omega) h9682.1, h9682.2⟩
          exact m_vret F hQ e_X10_readOption_52 (⟨P9646, oP9646, (by unfold RP; omega), h9683, rfl⟩)
    · have h9684 : HS V c (⟨T, 0, u, h, P9639, L⟩ : RG) [0, 2, 4, 5, 6, 7, 8, 9, 10, 11, 12, 13, 17, 18, 19, 20, 21, 22, 23] _ _ := ⟨h9641, h9637.2⟩
      refine m_istore_n F (lv' := [(3, .int (nI 1)), (2, .int (nI n9628)), (1, .int (nI (4 + n9623))), (0, .ref c)]) e_X10_readOption_35 (by decide) rfl ?_
      refine m_aload_n F rfl e_X10_readOption_36 ?_
      refine m_iconst F (v := 0) (by decide) e_X10_readOption_37 ?_
      refine m_ldc F kc_X10_177 e_X10_readOption_38 ?_
      refine r_callV F e_X10_readOption_40 (q_X10_numeral (x_l X) V c T 0 u h P9639 L _ _ 0 99999 h9684.1 (hob) oP9639 (by omega) (by omega)) cb_X10_numeral ml_X10_165 im_X10_numeral se_X10_numeral h9684 rfl rfl (rest := []) rfl (Nat.le_of_ble_eq_true rfl) ⟨Nat.le_of_ble_eq_true rfl, Nat.le_of_ble_eq_true rfl⟩ ⟨Nat.le_of_ble_eq_true rfl, Nat.le_of_ble_eq_true rfl⟩ (fun r σ9685 hp => ?_)
      obtain ⟨P9689, oP9689, rP9689, h9686, c9688⟩ := hp
      have h9687 := HS.trans h9684 h9686 (by decide)
      have xP9689 := oP9689
      unfold OKP at xP9689
      unfold RA at rP9689
      rcases c9688 with ⟨n9690, gn9690, hn9690, rfl⟩ | ⟨h9691, rfl⟩
      · refine m_istore F (lv' := [(4, .int (nI n9690)), (3, .int (nI 1)), (2, .int (nI n9628)), (1, .int (nI (4 + n9623))), (0, .ref c)]) e_X10_readOption_43 (by decide) rfl ?_
        refine m_aload_n F rfl e_X10_readOption_45 ?_
        refine r_get F e_X10_readOption_46 fl_X10_141 h9687 rfl (fun v hv f9692 => ?_)
        obtain ⟨x9693, hx9693, rfl⟩ := hv
        replace hx9693 : 0 = 0 → x9693 ≠ 0 := hx9693
        refine m_if_eq F e_X10_readOption_49 (fun q49 => ?_) (fun q49 => ?_)
        · first | exact absurd q49 (hx9693 rfl) | contradiction
        · have h9694 := HS.z0 h9687 (f9692) q49
          have h9695 : HS V c _ [0, 2, 4, 5, 6, 7, 8, 9, 10, 11, 12, 13, 17, 18, 19, 20, 21, 22, 23] _ _ := ⟨HR.mono (Z' := Z) (by intro e; first | rfl | assumption | omega) h9694.1, h9694.2⟩
          exact m_vret F hQ e_X10_readOption_52 (⟨P9689, oP9689, (by unfold RP; omega), h9695, rfl⟩)
      · have h9696 : HS V c (⟨T, 0, u, h, P9689, L⟩ : RG) [0, 2, 4, 5, 6, 7, 8, 9, 10, 11, 12, 13, 17, 18, 19, 20, 21, 22, 23] _ _ := ⟨h9691, h9687.2⟩
        refine m_istore F (lv' := [(4, .int (nI 0)), (3, .int (nI 1)), (2, .int (nI n9628)), (1, .int (nI (4 + n9623))), (0, .ref c)]) e_X10_readOption_43 (by decide) rfl ?_
        refine m_aload_n F rfl e_X10_readOption_45 ?_
        refine r_get F e_X10_readOption_46 fl_X10_141 h9696 rfl (fun v hv f9697 => ?_)
        obtain ⟨x9698, hx9698, rfl⟩ := hv
        replace hx9698 : 0 = 0 → x9698 ≠ 0 := hx9698
        refine m_if_eq F e_X10_readOption_49 (fun q49 => ?_) (fun q49 => ?_)
        · first | exact absurd q49 (hx9698 rfl) | contradiction
        · have h9699 := HS.z0 h9696 (f9697) q49
          have h9700 : HS V c _ [0, 2, 4, 5, 6, 7, 8, 9, 10, 11, 12, 13, 17, 18, 19, 20, 21, 22, 23] _ _ := ⟨HR.mono (Z' := Z) (by intro e; first | rfl | assumption | omega) h9699.1, h9699.2⟩
          exact m_vret F hQ e_X10_readOption_52 (⟨P9689, oP9689, (by unfold RP; omega), h9700, rfl⟩)
  · have c11 : (4 + n9623) = 8 := (nI_eq (a := (4 + n9623)) (b := 8) (by omega) (by omega)).mp q11
    refine m_aload_n F rfl e_X10_readOption_14 ?_
    refine m_iconst F (v := 2) (by decide) e_X10_readOption_15 ?_
    refine r_callV F e_X10_readOption_16 (q_X10_wrong (x_l X) V c T Z u h P L _ _ 2 h9622.1 (hob) hP (by first | omega | assumption | decide)) cb_X10_wrong ml_X10_150 im_X10_wrong se_X10_wrong h9622 rfl rfl (rest := []) rfl (Nat.le_of_ble_eq_true rfl) ⟨Nat.le_of_ble_eq_true rfl, Nat.le_of_ble_eq_true rfl⟩ ⟨Nat.le_of_ble_eq_true rfl, Nat.le_of_ble_eq_true rfl⟩ (fun r σ9701 hp => ?_)
    obtain ⟨h9702, rfl⟩ := hp
    have h9703 := HS.trans h9622 h9702 (by decide)
    refine m_aload_n F rfl e_X10_readOption_19 ?_
    refine r_callV F e_X10_readOption_20 (q_X10_atHand (x_l X) V c T 0 u h P L _ _  h9703.1 (hob) hP ) cb_X10_atHand ml_X10_174 im_X10_atHand se_X10_atHand h9703 rfl rfl (rest := []) rfl (Nat.le_of_ble_eq_true rfl) ⟨Nat.le_of_ble_eq_true rfl, Nat.le_of_ble_eq_true rfl⟩ ⟨Nat.le_of_ble_eq_true rfl, Nat.le_of_ble_eq_true rfl⟩ (fun r σ9704 hp => ?_)
    obtain ⟨P9708, oP9708, rP9708, h9705, n9707, gn9707, hn9707, rfl⟩ := hp
    have h9706 := HS.trans h9703 h9705 (by decide)
    have xP9708 := oP9708
    unfold OKP at xP9708
    unfold RA at rP9708
    refine m_istore_n F (lv' := [(2, .int (nI n9707)), (1, .int (nI (4 + n9623))), (0, .ref c)]) e_X10_readOption_23 (by decide) rfl ?_
    refine m_aload_n F rfl e_X10_readOption_24 ?_
    refine r_callV F e_X10_readOption_25 (q_X10_goOn (x_l X) V c T 0 u h P9708 L _ _  h9706.1 (hob) oP9708 ) cb_X10_goOn ml_X10_154 im_X10_goOn se_X10_goOn h9706 rfl rfl (rest := []) rfl (Nat.le_of_ble_eq_true rfl) ⟨Nat.le_of_ble_eq_true rfl, Nat.le_of_ble_eq_true rfl⟩ ⟨Nat.le_of_ble_eq_true rfl, Nat.le_of_ble_eq_true rfl⟩ (fun r σ9709 hp => ?_)
    obtain ⟨P9712, oP9712, rP9712, pr9713, h9710, rfl⟩ := hp
    have h9711 := HS.trans h9706 h9710 (by decide)
    have xP9712 := oP9712
    unfold OKP at xP9712
    unfold RA at rP9712
    refine m_aload_n F rfl e_X10_readOption_28 ?_
    refine m_iconst F (v := 1) (by decide) e_X10_readOption_29 ?_
    refine m_bipush F (v := 24) (by decide) e_X10_readOption_30 ?_
    refine r_callV F e_X10_readOption_32 (q_X10_numeral (x_l X) V c T 0 u h P9712 L _ _ 1 24 h9711.1 (hob) oP9712 (by omega) (by omega)) cb_X10_numeral ml_X10_165 im_X10_numeral se_X10_numeral h9711 rfl rfl (rest := []) rfl (Nat.le_of_ble_eq_true rfl) ⟨Nat.le_of_ble_eq_true rfl, Nat.le_of_ble_eq_true rfl⟩ ⟨Nat.le_of_ble_eq_true rfl, Nat.le_of_ble_eq_true rfl⟩ (fun r σ9714 hp => ?_)
    obtain ⟨P9718, oP9718, rP9718, h9715, c9717⟩ := hp
    have h9716 := HS.trans h9711 h9715 (by decide)
    have xP9718 := oP9718
    unfold OKP at xP9718
    unfold RA at rP9718
    rcases c9717 with ⟨n9719, gn9719, hn9719, rfl⟩ | ⟨h9720, rfl⟩
    · refine m_istore_n F (lv' := [(3, .int (nI n9719)), (2, .int (nI n9707)), (1, .int (nI (4 + n9623))), (0, .ref c)]) e_X10_readOption_35 (by decide) rfl ?_
      refine m_aload_n F rfl e_X10_readOption_36 ?_
      refine m_iconst F (v := 0) (by decide) e_X10_readOption_37 ?_
      refine m_ldc F kc_X10_177 e_X10_readOption_38 ?_
      refine r_callV F e_X10_readOption_40 (q_X10_numeral (x_l X) V c T 0 u h P9718 L _ _ 0 99999 h9716.1 (hob) oP9718 (by omega) (by omega)) cb_X10_numeral ml_X10_165 im_X10_numeral se_X10_numeral h9716 rfl rfl (rest := []) rfl (Nat.le_of_ble_eq_true rfl) ⟨Nat.le_of_ble_eq_true rfl, Nat.le_of_ble_eq_true rfl⟩ ⟨Nat.le_of_ble_eq_true rfl, Nat.le_of_ble_eq_true rfl⟩ (fun r σ9721 hp => ?_)
      obtain ⟨P9725, oP9725, rP9725, h9722, c9724⟩ := hp
      have h9723 := HS.trans h9716 h9722 (by decide)
      have xP9725 := oP9725
      unfold OKP at xP9725
      unfold RA at rP9725
      rcases c9724 with ⟨n9726, gn9726, hn9726, rfl⟩ | ⟨h9727, rfl⟩
      · refine m_istore F (lv' := [(4, .int (nI n9726)), (3, .int (nI n9719)), (2, .int (nI n9707)), (1, .int (nI (4 + n9623))), (0, .ref c)]) e_X10_readOption_43 (by decide) rfl ?_
        refine m_aload_n F rfl e_X10_readOption_45 ?_
        refine r_get F e_X10_readOption_46 fl_X10_141 h9723 rfl (fun v hv f9728 => ?_)
        obtain ⟨x9729, hx9729, rfl⟩ := hv
        replace hx9729 : 0 = 0 → x9729 ≠ 0 := hx9729
        refine m_if_eq F e_X10_readOption_49 (fun q49 => ?_) (fun q49 => ?_)
        · first | exact absurd q49 (hx9729 rfl) | contradiction
        · have h9730 := HS.z0 h9723 (f9728) q49
          have h9731 : HS V c _ [0, 2, 4, 5, 6, 7, 8, 9, 10, 11, 12, 13, 17, 18, 19, 20, 21, 22, 23] _ _ := ⟨HR.mono (Z' := Z) (by intro e; first | rfl | assumption | omega) h9730.1, h9730.2⟩
          exact m_vret F hQ e_X10_readOption_52 (⟨P9725, oP9725, (by unfold RP; omega), h9731, rfl⟩)
      · have h9732 : HS V c (⟨T, 0, u, h, P9725, L⟩ : RG) [0, 2, 4, 5, 6, 7, 8, 9, 10, 11, 12, 13, 17, 18, 19, 20, 21, 22, 23] _ _ := ⟨h9727, h9723.2⟩
        refine m_istore F (lv' := [(4, .int (nI 0)), (3, .int (nI n9719)), (2, .int (nI n9707)), (1, .int (nI (4 + n9623))), (0, .ref c)]) e_X10_readOption_43 (by decide) rfl ?_
        refine m_aload_n F rfl e_X10_readOption_45 ?_
        refine r_get F e_X10_readOption_46 fl_X10_141 h9732 rfl (fun v hv f9733 => ?_)
        obtain ⟨x9734, hx9734, rfl⟩ := hv
        replace hx9734 : 0 = 0 → x9734 ≠ 0 := hx9734
        refine m_if_eq F e_X10_readOption_49 (fun q49 => ?_) (fun q49 => ?_)
        · first | exact absurd q49 (hx9734 rfl) | contradiction
        · have h9735 := HS.z0 h9732 (f9733) q49
          have h9736 : HS V c _ [0, 2, 4, 5, 6, 7, 8, 9, 10, 11, 12, 13, 17, 18, 19, 20, 21, 22, 23] _ _ := ⟨HR.mono (Z' := Z) (by intro e; first | rfl | assumption | omega) h9735.1, h9735.2⟩
          exact m_vret F hQ e_X10_readOption_52 (⟨P9725, oP9725, (by unfold RP; omega), h9736, rfl⟩)
    · have h9737 : HS V c (⟨T, 0, u, h, P9718, L⟩ : RG) [0, 2, 4, 5, 6, 7, 8, 9, 10, 11, 12, 13, 17, 18, 19, 20, 21, 22, 23] _ _ := ⟨h9720, h9716.2⟩
      refine m_istore_n F (lv' := [(3, .int (nI 1)), (2, .int (nI n9707)), (1, .int (nI (4 + n9623))), (0, .ref c)]) e_X10_readOption_35 (by decide) rfl ?_
      refine m_aload_n F rfl e_X10_readOption_36 ?_
      refine m_iconst F (v := 0) (by decide) e_X10_readOption_37 ?_
      refine m_ldc F kc_X10_177 e_X10_readOption_38 ?_
      refine r_callV F e_X10_readOption_40 (q_X10_numeral (x_l X) V c T 0 u h P9718 L _ _ 0 99999 h9737.1 (hob) oP9718 (by omega) (by omega)) cb_X10_numeral ml_X10_165 im_X10_numeral se_X10_numeral h9737 rfl rfl (rest := []) rfl (Nat.le_of_ble_eq_true rfl) ⟨Nat.le_of_ble_eq_true rfl, Nat.le_of_ble_eq_true rfl⟩ ⟨Nat.le_of_ble_eq_true rfl, Nat.le_of_ble_eq_true rfl⟩ (fun r σ9738 hp => ?_)
      obtain ⟨P9742, oP9742, rP9742, h9739, c9741⟩ := hp
      have h9740 := HS.trans h9737 h9739 (by decide)
      have xP9742 := oP9742
      unfold OKP at xP9742
      unfold RA at rP9742
      rcases c9741 with ⟨n9743, gn9743, hn9743, rfl⟩ | ⟨h9744, rfl⟩
      · refine m_istore F (lv' := [(4, .int (nI n9743)), (3, .int (nI 1)), (2, .int (nI n9707)), (1, .int (nI (4 + n9623))), (0, .ref c)]) e_X10_readOption_43 (by decide) rfl ?_
        refine m_aload_n F rfl e_X10_readOption_45 ?_
        refine r_get F e_X10_readOption_46 fl_X10_141 h9740 rfl (fun v hv f9745 => ?_)
        obtain ⟨x9746, hx9746, rfl⟩ := hv
        replace hx9746 : 0 = 0 → x9746 ≠ 0 := hx9746
        refine m_if_eq F e_X10_readOption_49 (fun q49 => ?_) (fun q49 => ?_)
        · first | exact absurd q49 (hx9746 rfl) | contradiction
        · have h9747 := HS.z0 h9740 (f9745) q49
          have h9748 : HS V c _ [0, 2, 4, 5, 6, 7, 8, 9, 10, 11, 12, 13, 17, 18, 19, 20, 21, 22, 23] _ _ := ⟨HR.mono (Z' := Z) (by intro e; first | rfl | assumption | omega) h9747.1, h9747.2⟩
          exact m_vret F hQ e_X10_readOption_52 (⟨P9742, oP9742, (by unfold RP; omega), h9748, rfl⟩)
      · have h9749 : HS V c (⟨T, 0, u, h, P9742, L⟩ : RG) [0, 2, 4, 5, 6, 7, 8, 9, 10, 11, 12, 13, 17, 18, 19, 20, 21, 22, 23] _ _ := ⟨h9744, h9740.2⟩
        refine m_istore F (lv' := [(4, .int (nI 0)), (3, .int (nI 1)), (2, .int (nI n9707)), (1, .int (nI (4 + n9623))), (0, .ref c)]) e_X10_readOption_43 (by decide) rfl ?_
        refine m_aload_n F rfl e_X10_readOption_45 ?_
        refine r_get F e_X10_readOption_46 fl_X10_141 h9749 rfl (fun v hv f9750 => ?_)
        obtain ⟨x9751, hx9751, rfl⟩ := hv
        replace hx9751 : 0 = 0 → x9751 ≠ 0 := hx9751
        refine m_if_eq F e_X10_readOption_49 (fun q49 => ?_) (fun q49 => ?_)
        · first | exact absurd q49 (hx9751 rfl) | contradiction
        · have h9752 := HS.z0 h9749 (f9750) q49
          have h9753 : HS V c _ [0, 2, 4, 5, 6, 7, 8, 9, 10, 11, 12, 13, 17, 18, 19, 20, 21, 22, 23] _ _ := ⟨HR.mono (Z' := Z) (by intro e; first | rfl | assumption | omega) h9752.1, h9752.2⟩
          exact m_vret F hQ e_X10_readOption_52 (⟨P9742, oP9742, (by unfold RP; omega), h9753, rfl⟩)
set_option maxRecDepth 20000 in
theorem q_X10_readSeed (l : Launch) (V : VX) (c T Z u h : Nat) (P : NP) (L : Nat → LQ) (N : Nat) (σ : Mem)  (h0 : HR V c ⟨T, Z, u, h, P, L⟩ σ) (hob : OKB L) (hP : OKP P)  : Ct l V yX10_readSeed cX10_readSeed 1 none 8 0 0 N σ [.ref c] (fun r τ => ∃ P9 : NP, OKP P9 ∧ RP P P9 ∧ HS V c (⟨T, Z, u, h, P9, L⟩ : RG) [0, 2, 4, 5, 6, 7, 8, 9, 10, 11, 12, 13, 14, 15, 16, 17, 18, 19, 20, 21, 22, 23] σ τ ∧ r = none) := by
  refine Ct.of (by decide) (Nat.le_of_ble_eq_true rfl) [(0, .ref c)] rfl (fun X hX F hQ => ?_)
  have hPP := hP
  unfold OKP at hPP
  have h1 : HS V c ⟨T, Z, u, h, P, L⟩ [0, 2, 4, 5, 6, 7, 8, 9, 10, 11, 12, 13, 14, 15, 16, 17, 18, 19, 20, 21, 22, 23] σ σ := HS.start h0
  refine m_aload_n F rfl e_X10_readSeed_0 ?_
  refine m_iconst F (v := 4) (by decide) e_X10_readSeed_1 ?_
  refine r_callV F e_X10_readSeed_2 (q_X10_reading4 (x_l X) V c T Z u h P L _ _  h1.1 (hob) hP ) cb_X10_reading ml_X10_157 im_X10_reading se_X10_reading h1 rfl rfl (rest := []) rfl (Nat.le_of_ble_eq_true rfl) ⟨Nat.le_of_ble_eq_true rfl, Nat.le_of_ble_eq_true rfl⟩ ⟨Nat.le_of_ble_eq_true rfl, Nat.le_of_ble_eq_true rfl⟩ (fun r σ9754 hp => ?_)
  obtain ⟨h9755, x9757, rfl⟩ := hp
  have h9756 := HS.trans h1 h9755 (by decide)
  refine m_if_eq F e_X10_readSeed_5 (fun q5 => ?_) (fun q5 => ?_)
  · subst q5
    refine m_aload_n F rfl e_X10_readSeed_13 ?_
    refine r_callV F e_X10_readSeed_14 (q_X10_goOn (x_l X) V c T Z u h P L _ _  h9756.1 (hob) hP ) cb_X10_goOn ml_X10_154 im_X10_goOn se_X10_goOn h9756 rfl rfl (rest := []) rfl (Nat.le_of_ble_eq_true rfl) ⟨Nat.le_of_ble_eq_true rfl, Nat.le_of_ble_eq_true rfl⟩ ⟨Nat.le_of_ble_eq_true rfl, Nat.le_of_ble_eq_true rfl⟩ (fun r σ9758 hp => ?_)
    obtain ⟨P9761, oP9761, rP9761, pr9762, h9759, rfl⟩ := hp
    have h9760 := HS.trans h9756 h9759 (by decide)
    have xP9761 := oP9761
    unfold OKP at xP9761
    unfold RA at rP9761
    refine m_aload_n F rfl e_X10_readSeed_17 ?_
    refine m_iconst F (v := 4) (by decide) e_X10_readSeed_18 ?_
    refine m_aload_n F rfl e_X10_readSeed_19 ?_
    refine m_iconst F (v := 0) (by decide) e_X10_readSeed_20 ?_
    refine m_ldc F kc_X10_177 e_X10_readSeed_21 ?_
    refine r_callV F e_X10_readSeed_23 (q_X10_numeral (x_l X) V c T Z u h P9761 L _ _ 0 99999 h9760.1 (hob) oP9761 (by omega) (by omega)) cb_X10_numeral ml_X10_165 im_X10_numeral se_X10_numeral h9760 rfl rfl (rest := [.int 4, .ref c]) rfl (Nat.le_of_ble_eq_true rfl) ⟨Nat.le_of_ble_eq_true rfl, Nat.le_of_ble_eq_true rfl⟩ ⟨Nat.le_of_ble_eq_true rfl, Nat.le_of_ble_eq_true rfl⟩ (fun r σ9763 hp => ?_)
    obtain ⟨P9767, oP9767, rP9767, h9764, c9766⟩ := hp
    have h9765 := HS.trans h9760 h9764 (by decide)
    have xP9767 := oP9767
    unfold OKP at xP9767
    unfold RA at rP9767
    rcases c9766 with ⟨n9768, gn9768, hn9768, rfl⟩ | ⟨h9769, rfl⟩
    · refine m_iconst F (v := 1) (by decide) e_X10_readSeed_26 ?_
      refine m_iadd F e_X10_readSeed_27 ?_
      refine Wm.topE (w := nI (n9768 + 1)) (nI_add n9768 1) ?_
      refine r_callV F e_X10_readSeed_28 (q_X10_reads4 (x_l X) V c T Z u h P9767 L _ _ (nI (n9768 + 1)) h9765.1 (hob) oP9767 ) cb_X10_reads ml_X10_170 im_X10_reads se_X10_reads h9765 rfl rfl (rest := []) rfl (Nat.le_of_ble_eq_true rfl) ⟨Nat.le_of_ble_eq_true rfl, Nat.le_of_ble_eq_true rfl⟩ ⟨Nat.le_of_ble_eq_true rfl, Nat.le_of_ble_eq_true rfl⟩ (fun r σ9770 hp => ?_)
      obtain ⟨h9771, rfl⟩ := hp
      have h9772 := HS.trans h9765 h9771 (by decide)
      exact m_vret F hQ e_X10_readSeed_31 (⟨P9767, oP9767, (by unfold RP; omega), h9772, rfl⟩)
    · have h9773 : HS V c (⟨T, 0, u, h, P9767, L⟩ : RG) [0, 2, 4, 5, 6, 7, 8, 9, 10, 11, 12, 13, 14, 15, 16, 17, 18, 19, 20, 21, 22, 23] _ _ := ⟨h9769, h9765.2⟩
      refine m_iconst F (v := 1) (by decide) e_X10_readSeed_26 ?_
      refine m_iadd F e_X10_readSeed_27 ?_
      refine Wm.topE (w := nI (0 + 1)) (nI_add 0 1) ?_
      refine r_callV F e_X10_readSeed_28 (q_X10_reads4 (x_l X) V c T 0 u h P9767 L _ _ (nI (0 + 1)) h9773.1 (hob) oP9767 ) cb_X10_reads ml_X10_170 im_X10_reads se_X10_reads h9773 rfl rfl (rest := []) rfl (Nat.le_of_ble_eq_true rfl) ⟨Nat.le_of_ble_eq_true rfl, Nat.le_of_ble_eq_true rfl⟩ ⟨Nat.le_of_ble_eq_true rfl, Nat.le_of_ble_eq_true rfl⟩ (fun r σ9774 hp => ?_)
      obtain ⟨h9775, rfl⟩ := hp
      have h9776 := HS.trans h9773 h9775 (by decide)
      have h9777 : HS V c _ [0, 2, 4, 5, 6, 7, 8, 9, 10, 11, 12, 13, 14, 15, 16, 17, 18, 19, 20, 21, 22, 23] _ _ := ⟨HR.mono (Z' := Z) (by intro e; first | rfl | assumption | omega) h9776.1, h9776.2⟩
      exact m_vret F hQ e_X10_readSeed_31 (⟨P9767, oP9767, (by unfold RP; omega), h9777, rfl⟩)
  · refine m_aload_n F rfl e_X10_readSeed_8 ?_
    refine m_iconst F (v := 3) (by decide) e_X10_readSeed_9 ?_
    refine r_callV F e_X10_readSeed_10 (q_X10_wrong (x_l X) V c T Z u h P L _ _ 3 h9756.1 (hob) hP (by first | omega | assumption | decide)) cb_X10_wrong ml_X10_150 im_X10_wrong se_X10_wrong h9756 rfl rfl (rest := []) rfl (Nat.le_of_ble_eq_true rfl) ⟨Nat.le_of_ble_eq_true rfl, Nat.le_of_ble_eq_true rfl⟩ ⟨Nat.le_of_ble_eq_true rfl, Nat.le_of_ble_eq_true rfl⟩ (fun r σ9778 hp => ?_)
    obtain ⟨h9779, rfl⟩ := hp
    have h9780 := HS.trans h9756 h9779 (by decide)
    refine m_aload_n F rfl e_X10_readSeed_13 ?_
    refine r_callV F e_X10_readSeed_14 (q_X10_goOn (x_l X) V c T 0 u h P L _ _  h9780.1 (hob) hP ) cb_X10_goOn ml_X10_154 im_X10_goOn se_X10_goOn h9780 rfl rfl (rest := []) rfl (Nat.le_of_ble_eq_true rfl) ⟨Nat.le_of_ble_eq_true rfl, Nat.le_of_ble_eq_true rfl⟩ ⟨Nat.le_of_ble_eq_true rfl, Nat.le_of_ble_eq_true rfl⟩ (fun r σ9781 hp => ?_)
    obtain ⟨P9784, oP9784, rP9784, pr9785, h9782, rfl⟩ := hp
    have h9783 := HS.trans h9780 h9782 (by decide)
    have xP9784 := oP9784
    unfold OKP at xP9784
    unfold RA at rP9784
    refine m_aload_n F rfl e_X10_readSeed_17 ?_
    refine m_iconst F (v := 4) (by decide) e_X10_readSeed_18 ?_
    refine m_aload_n F rfl e_X10_readSeed_19 ?_
    refine m_iconst F (v := 0) (by decide) e_X10_readSeed_20 ?_
    refine m_ldc F kc_X10_177 e_X10_readSeed_21 ?_
    refine r_callV F e_X10_readSeed_23 (q_X10_numeral (x_l X) V c T 0 u h P9784 L _ _ 0 99999 h9783.1 (hob) oP9784 (by omega) (by omega)) cb_X10_numeral ml_X10_165 im_X10_numeral se_X10_numeral h9783 rfl rfl (rest := [.int 4, .ref c]) rfl (Nat.le_of_ble_eq_true rfl) ⟨Nat.le_of_ble_eq_true rfl, Nat.le_of_ble_eq_true rfl⟩ ⟨Nat.le_of_ble_eq_true rfl, Nat.le_of_ble_eq_true rfl⟩ (fun r σ9786 hp => ?_)
    obtain ⟨P9790, oP9790, rP9790, h9787, c9789⟩ := hp
    have h9788 := HS.trans h9783 h9787 (by decide)
    have xP9790 := oP9790
    unfold OKP at xP9790
    unfold RA at rP9790
    rcases c9789 with ⟨n9791, gn9791, hn9791, rfl⟩ | ⟨h9792, rfl⟩
    · refine m_iconst F (v := 1) (by decide) e_X10_readSeed_26 ?_
      refine m_iadd F e_X10_readSeed_27 ?_
      refine Wm.topE (w := nI (n9791 + 1)) (nI_add n9791 1) ?_
      refine r_callV F e_X10_readSeed_28 (q_X10_reads4 (x_l X) V c T 0 u h P9790 L _ _ (nI (n9791 + 1)) h9788.1 (hob) oP9790 ) cb_X10_reads ml_X10_170 im_X10_reads se_X10_reads h9788 rfl rfl (rest := []) rfl (Nat.le_of_ble_eq_true rfl) ⟨Nat.le_of_ble_eq_true rfl, Nat.le_of_ble_eq_true rfl⟩ ⟨Nat.le_of_ble_eq_true rfl, Nat.le_of_ble_eq_true rfl⟩ (fun r σ9793 hp => ?_)
      obtain ⟨h9794, rfl⟩ := hp
      have h9795 := HS.trans h9788 h9794 (by decide)
      have h9796 : HS V c _ [0, 2, 4, 5, 6, 7, 8, 9, 10, 11, 12, 13, 14, 15, 16, 17, 18, 19, 20, 21, 22, 23] _ _ := ⟨HR.mono (Z' := Z) (by intro e; first | rfl | assumption | omega) h9795.1, h9795.2⟩
      exact m_vret F hQ e_X10_readSeed_31 (⟨P9790, oP9790, (by unfold RP; omega), h9796, rfl⟩)
    · have h9797 : HS V c (⟨T, 0, u, h, P9790, L⟩ : RG) [0, 2, 4, 5, 6, 7, 8, 9, 10, 11, 12, 13, 14, 15, 16, 17, 18, 19, 20, 21, 22, 23] _ _ := ⟨h9792, h9788.2⟩
      refine m_iconst F (v := 1) (by decide) e_X10_readSeed_26 ?_
      refine m_iadd F e_X10_readSeed_27 ?_
      refine Wm.topE (w := nI (0 + 1)) (nI_add 0 1) ?_
      refine r_callV F e_X10_readSeed_28 (q_X10_reads4 (x_l X) V c T 0 u h P9790 L _ _ (nI (0 + 1)) h9797.1 (hob) oP9790 ) cb_X10_reads ml_X10_170 im_X10_reads se_X10_reads h9797 rfl rfl (rest := []) rfl (Nat.le_of_ble_eq_true rfl) ⟨Nat.le_of_ble_eq_true rfl, Nat.le_of_ble_eq_true rfl⟩ ⟨Nat.le_of_ble_eq_true rfl, Nat.le_of_ble_eq_true rfl⟩ (fun r σ9798 hp => ?_)
      obtain ⟨h9799, rfl⟩ := hp
      have h9800 := HS.trans h9797 h9799 (by decide)
      have h9801 : HS V c _ [0, 2, 4, 5, 6, 7, 8, 9, 10, 11, 12, 13, 14, 15, 16, 17, 18, 19, 20, 21, 22, 23] _ _ := ⟨HR.mono (Z' := Z) (by intro e; first | rfl | assumption | omega) h9800.1, h9800.2⟩
      exact m_vret F hQ e_X10_readSeed_31 (⟨P9790, oP9790, (by unfold RP; omega), h9801, rfl⟩)
set_option maxRecDepth 20000 in
theorem q_X10_readLine (l : Launch) (V : VX) (c T Z u h : Nat) (P : NP) (L : Nat → LQ) (N : Nat) (σ : Mem)  (h0 : HR V c ⟨T, Z, u, h, P, L⟩ σ) (hob : OKB L) (hP : OKP P)  : Ct l V yX10_readLine cX10_readLine 1 none 9 0 0 N σ [.ref c] (fun r τ => ∃ P9 : NP, OKP P9 ∧ RP P P9 ∧ PG c P.a P9.a τ ∧ HS V c (⟨T, Z, u, h, P9, L⟩ : RG) [0, 2, 17, 18, 19, 20, 21, 22, 23] σ τ ∧ r = none) := by
  refine Ct.of (by decide) (Nat.le_of_ble_eq_true rfl) [(0, .ref c)] rfl (fun X hX F hQ => ?_)
  have hPP := hP
  unfold OKP at hPP
  have h1 : HS V c ⟨T, Z, u, h, P, L⟩ [0, 2, 17, 18, 19, 20, 21, 22, 23] σ σ := HS.start h0
  refine m_aload_n F rfl e_X10_readLine_0 ?_
  refine r_get F e_X10_readLine_1 fl_X10_110 h1 rfl (fun v hv f9802 => ?_)
  obtain ⟨x9803, rfl⟩ := hv
  refine m_if_eq F e_X10_readLine_4 (fun q4 => ?_) (fun q4 => ?_)
  · subst q4
    refine m_aload_n F rfl e_X10_readLine_15 ?_
    refine r_get F e_X10_readLine_16 fl_X10_120 h1 rfl (fun v hv f9804 => ?_)
    obtain ⟨x9805, rfl⟩ := hv
    refine m_if_ne F e_X10_readLine_19 (fun q19 => ?_) (fun q19 => ?_)
    · refine m_aload_n F rfl e_X10_readLine_29 ?_
      refine r_getC F e_X10_readLine_30 fl_X10_120 h1 (f9804) ?_
      refine m_iconst F (v := 1) (by decide) e_X10_readLine_33 ?_
      refine m_icmp_ne F e_X10_readLine_34 (fun q34 => ?_) (fun q34 => ?_)
      · refine m_aload_n F rfl e_X10_readLine_44 ?_
        refine r_getC F e_X10_readLine_45 fl_X10_120 h1 (f9804) ?_
        refine m_iconst F (v := 2) (by decide) e_X10_readLine_48 ?_
        refine m_icmp_eq F e_X10_readLine_49 (fun q49 => ?_) (fun q49 => ?_)
        · subst q49
          refine m_aload_n F rfl e_X10_readLine_60 ?_
          refine m_aload_n F rfl e_X10_readLine_61 ?_
          refine r_getC F e_X10_readLine_62 fl_X10_120 h1 (f9804) ?_
          refine m_iconst F (v := 2) (by decide) e_X10_readLine_65 ?_
          refine m_icmp_ne F e_X10_readLine_66 (fun q => absurd (by decide) q) (fun _ => ?_)
          refine m_iconst F (v := 1) (by decide) e_X10_readLine_69 ?_
          refine m_goto F e_X10_readLine_70 ?_
          refine r_callV F e_X10_readLine_74 (q_X10_readMark (x_l X) V c T Z u h P L _ _ 1 h1.1 (hob) hP ) cb_X10_readMark ml_X10_184 im_X10_readMark se_X10_readMark h1 rfl rfl (rest := []) rfl (Nat.le_of_ble_eq_true rfl) ⟨Nat.le_of_ble_eq_true rfl, Nat.le_of_ble_eq_true rfl⟩ ⟨Nat.le_of_ble_eq_true rfl, Nat.le_of_ble_eq_true rfl⟩ (fun r σ9806 hp => ?_)
          obtain ⟨P9809, oP9809, rP9809, h9807, rfl⟩ := hp
          have h9808 := HS.trans h1 h9807 (by decide)
          have xP9809 := oP9809
          unfold OKP at xP9809
          unfold RP at rP9809
          refine m_goto F e_X10_readLine_77 ?_
          refine m_aload_n F rfl e_X10_readLine_146 ?_
          refine r_get F e_X10_readLine_147 fl_X10_141 h9808 rfl (fun v hv f9810 => ?_)
          obtain ⟨x9811, hx9811, rfl⟩ := hv
          replace hx9811 : Z = 0 → x9811 ≠ 0 := hx9811
          refine m_if_ne F e_X10_readLine_150 (fun q150 => ?_) (fun q150 => ?_)
          · have h9812 := HS.z0 h9808 (f9810) q150
            refine m_aload_n F rfl e_X10_readLine_166 ?_
            refine r_callV F e_X10_readLine_167 (q_X10_goOn (x_l X) V c T 0 u h P9809 L _ _  h9812.1 (hob) oP9809 ) cb_X10_goOn ml_X10_154 im_X10_goOn se_X10_goOn h9812 rfl rfl (rest := []) rfl (Nat.le_of_ble_eq_true rfl) ⟨Nat.le_of_ble_eq_true rfl, Nat.le_of_ble_eq_true rfl⟩ ⟨Nat.le_of_ble_eq_true rfl, Nat.le_of_ble_eq_true rfl⟩ (fun r σ9813 hp => ?_)
            obtain ⟨P9816, oP9816, rP9816, pr9817, h9814, rfl⟩ := hp
            have h9815 := HS.trans h9812 h9814 (by decide)
            have xP9816 := oP9816
            unfold OKP at xP9816
            unfold RA at rP9816
            refine m_aload_n F rfl e_X10_readLine_170 ?_
            refine m_dup F rfl e_X10_readLine_171 ?_
            refine r_get F e_X10_readLine_172 fl_X10_202 h9815 rfl (fun v hv f9818 => ?_)
            obtain ⟨x9819, rfl⟩ := hv
            refine m_iconst F (v := 1) (by decide) e_X10_readLine_175 ?_
            refine m_iadd F e_X10_readLine_176 ?_
            refine Wm.top (fun x9820 _ => ?_)
            refine r_put F (g' := (⟨T, 0, u, h, P9816, L⟩ : RG)) e_X10_readLine_177 fp_X10_202 h9815 (by decide) ⟨_, rfl⟩ (fun _ _ _ _ q => q) (fun _ _ _ q => q) rfl rfl (by decide) (fun σ9821 h9822 g9823 g9824 f9825 => ?_)
            have pg9826 := pr9817.of (g9824 23 (by decide)) (g9824 21 (by decide))
            have h9827 : HS V c _ [0, 2, 17, 18, 19, 20, 21, 22, 23] _ _ := ⟨HR.mono (Z' := Z) (by intro e; first | rfl | assumption | omega) h9822.1, h9822.2⟩
            exact m_vret F hQ e_X10_readLine_180 (⟨P9816, oP9816, (by unfold RP; omega), (pg9826.mono (by omega)), h9827, rfl⟩)
          · subst q150
            refine m_aload_n F rfl e_X10_readLine_153 ?_
            refine r_get F e_X10_readLine_154 fl_X10_110 h9808 rfl (fun v hv f9828 => ?_)
            obtain ⟨x9829, rfl⟩ := hv
            refine m_iconst F (v := 3) (by decide) e_X10_readLine_157 ?_
            refine m_icmp_eq F e_X10_readLine_158 (fun q158 => ?_) (fun q158 => ?_)
            · subst q158
              refine m_aload_n F rfl e_X10_readLine_166 ?_
              refine r_callV F e_X10_readLine_167 (q_X10_goOn (x_l X) V c T Z u h P9809 L _ _  h9808.1 (hob) oP9809 ) cb_X10_goOn ml_X10_154 im_X10_goOn se_X10_goOn h9808 rfl rfl (rest := []) rfl (Nat.le_of_ble_eq_true rfl) ⟨Nat.le_of_ble_eq_true rfl, Nat.le_of_ble_eq_true rfl⟩ ⟨Nat.le_of_ble_eq_true rfl, Nat.le_of_ble_eq_true rfl⟩ (fun r σ9830 hp => ?_)
              obtain ⟨P9833, oP9833, rP9833, pr9834, h9831, rfl⟩ := hp
              have h9832 := HS.trans h9808 h9831 (by decide)
              have xP9833 := oP9833
              unfold OKP at xP9833
              unfold RA at rP9833
              refine m_aload_n F rfl e_X10_readLine_170 ?_
              refine m_dup F rfl e_X10_readLine_171 ?_
              refine r_get F e_X10_readLine_172 fl_X10_202 h9832 rfl (fun v hv f9835 => ?_)
              obtain ⟨x9836, rfl⟩ := hv
              refine m_iconst F (v := 1) (by decide) e_X10_readLine_175 ?_
              refine m_iadd F e_X10_readLine_176 ?_
              refine Wm.top (fun x9837 _ => ?_)
              refine r_put F (g' := (⟨T, Z, u, h, P9833, L⟩ : RG)) e_X10_readLine_177 fp_X10_202 h9832 (by decide) ⟨_, rfl⟩ (fun _ _ _ _ q => q) (fun _ _ _ q => q) rfl rfl (by decide) (fun σ9838 h9839 g9840 g9841 f9842 => ?_)
              have pg9843 := pr9834.of (g9841 23 (by decide)) (g9841 21 (by decide))
              exact m_vret F hQ e_X10_readLine_180 (⟨P9833, oP9833, (by unfold RP; omega), (pg9843.mono (by omega)), h9839, rfl⟩)
            · refine m_aload_n F rfl e_X10_readLine_161 ?_
              refine m_iconst F (v := 1) (by decide) e_X10_readLine_162 ?_
              refine r_callV F e_X10_readLine_163 (q_X10_wrong (x_l X) V c T Z u h P9809 L _ _ 1 h9808.1 (hob) oP9809 (by first | omega | assumption | decide)) cb_X10_wrong ml_X10_150 im_X10_wrong se_X10_wrong h9808 rfl rfl (rest := []) rfl (Nat.le_of_ble_eq_true rfl) ⟨Nat.le_of_ble_eq_true rfl, Nat.le_of_ble_eq_true rfl⟩ ⟨Nat.le_of_ble_eq_true rfl, Nat.le_of_ble_eq_true rfl⟩ (fun r σ9844 hp => ?_)
              obtain ⟨h9845, rfl⟩ := hp
              have h9846 := HS.trans h9808 h9845 (by decide)
              refine m_aload_n F rfl e_X10_readLine_166 ?_
              refine r_callV F e_X10_readLine_167 (q_X10_goOn (x_l X) V c T 0 u h P9809 L _ _  h9846.1 (hob) oP9809 ) cb_X10_goOn ml_X10_154 im_X10_goOn se_X10_goOn h9846 rfl rfl (rest := []) rfl (Nat.le_of_ble_eq_true rfl) ⟨Nat.le_of_ble_eq_true rfl, Nat.le_of_ble_eq_true rfl⟩ ⟨Nat.le_of_ble_eq_true rfl, Nat.le_of_ble_eq_true rfl⟩ (fun r σ9847 hp => ?_)
              obtain ⟨P9850, oP9850, rP9850, pr9851, h9848, rfl⟩ := hp
              have h9849 := HS.trans h9846 h9848 (by decide)
              have xP9850 := oP9850
              unfold OKP at xP9850
              unfold RA at rP9850
              refine m_aload_n F rfl e_X10_readLine_170 ?_
              refine m_dup F rfl e_X10_readLine_171 ?_
              refine r_get F e_X10_readLine_172 fl_X10_202 h9849 rfl (fun v hv f9852 => ?_)
              obtain ⟨x9853, rfl⟩ := hv
              refine m_iconst F (v := 1) (by decide) e_X10_readLine_175 ?_
              refine m_iadd F e_X10_readLine_176 ?_
              refine Wm.top (fun x9854 _ => ?_)
              refine r_put F (g' := (⟨T, 0, u, h, P9850, L⟩ : RG)) e_X10_readLine_177 fp_X10_202 h9849 (by decide) ⟨_, rfl⟩ (fun _ _ _ _ q => q) (fun _ _ _ q => q) rfl rfl (by decide) (fun σ9855 h9856 g9857 g9858 f9859 => ?_)
              have pg9860 := pr9851.of (g9858 23 (by decide)) (g9858 21 (by decide))
              have h9861 : HS V c _ [0, 2, 17, 18, 19, 20, 21, 22, 23] _ _ := ⟨HR.mono (Z' := Z) (by intro e; first | rfl | assumption | omega) h9856.1, h9856.2⟩
              exact m_vret F hQ e_X10_readLine_180 (⟨P9850, oP9850, (by unfold RP; omega), (pg9860.mono (by omega)), h9861, rfl⟩)
        · refine m_aload_n F rfl e_X10_readLine_52 ?_
          refine r_getC F e_X10_readLine_53 fl_X10_120 h1 (f9804) ?_
          refine m_iconst F (v := 5) (by decide) e_X10_readLine_56 ?_
          refine m_icmp_ne F e_X10_readLine_57 (fun q57 => ?_) (fun q57 => ?_)
          · refine m_aload_n F rfl e_X10_readLine_80 ?_
            refine r_getC F e_X10_readLine_81 fl_X10_120 h1 (f9804) ?_
            refine m_iconst F (v := 3) (by decide) e_X10_readLine_84 ?_
            refine m_icmp_ne F e_X10_readLine_85 (fun q85 => ?_) (fun q85 => ?_)
            · refine m_aload_n F rfl e_X10_readLine_95 ?_
              refine r_getC F e_X10_readLine_96 fl_X10_120 h1 (f9804) ?_
              refine m_iconst F (v := 4) (by decide) e_X10_readLine_99 ?_
              refine m_icmp_ne F e_X10_readLine_100 (fun q100 => ?_) (fun q100 => ?_)
              · refine m_aload_n F rfl e_X10_readLine_110 ?_
                refine r_getC F e_X10_readLine_111 fl_X10_120 h1 (f9804) ?_
                refine m_bipush F (v := 6) (by decide) e_X10_readLine_114 ?_
                refine m_icmp_ne F e_X10_readLine_116 (fun q116 => ?_) (fun q116 => ?_)
                · refine m_aload_n F rfl e_X10_readLine_126 ?_
                  refine r_getC F e_X10_readLine_127 fl_X10_120 h1 (f9804) ?_
                  refine m_bipush F (v := 7) (by decide) e_X10_readLine_130 ?_
                  refine m_icmp_ne F e_X10_readLine_132 (fun q132 => ?_) (fun q132 => ?_)
                  · refine m_aload_n F rfl e_X10_readLine_142 ?_
                    refine r_callV F e_X10_readLine_143 (q_X10_readSeed (x_l X) V c T Z u h P L _ _  h1.1 (hob) hP ) cb_X10_readSeed ml_X10_199 im_X10_readSeed se_X10_readSeed h1 rfl rfl (rest := []) rfl (Nat.le_of_ble_eq_true rfl) ⟨Nat.le_of_ble_eq_true rfl, Nat.le_of_ble_eq_true rfl⟩ ⟨Nat.le_of_ble_eq_true rfl, Nat.le_of_ble_eq_true rfl⟩ (fun r σ9862 hp => ?_)
                    obtain ⟨P9865, oP9865, rP9865, h9863, rfl⟩ := hp
                    have h9864 := HS.trans h1 h9863 (by decide)
                    have xP9865 := oP9865
                    unfold OKP at xP9865
                    unfold RP at rP9865
                    refine m_aload_n F rfl e_X10_readLine_146 ?_
                    refine r_get F e_X10_readLine_147 fl_X10_141 h9864 rfl (fun v hv f9866 => ?_)
                    obtain ⟨x9867, hx9867, rfl⟩ := hv
                    replace hx9867 : Z = 0 → x9867 ≠ 0 := hx9867
                    refine m_if_ne F e_X10_readLine_150 (fun q150 => ?_) (fun q150 => ?_)
                    · have h9868 := HS.z0 h9864 (f9866) q150
                      refine m_aload_n F rfl e_X10_readLine_166 ?_
                      refine r_callV F e_X10_readLine_167 (q_X10_goOn (x_l X) V c T 0 u h P9865 L _ _  h9868.1 (hob) oP9865 ) cb_X10_goOn ml_X10_154 im_X10_goOn se_X10_goOn h9868 rfl rfl (rest := []) rfl (Nat.le_of_ble_eq_true rfl) ⟨Nat.le_of_ble_eq_true rfl, Nat.le_of_ble_eq_true rfl⟩ ⟨Nat.le_of_ble_eq_true rfl, Nat.le_of_ble_eq_true rfl⟩ (fun r σ9869 hp => ?_)
                      obtain ⟨P9872, oP9872, rP9872, pr9873, h9870, rfl⟩ := hp
                      have h9871 := HS.trans h9868 h9870 (by decide)
                      have xP9872 := oP9872
                      unfold OKP at xP9872
                      unfold RA at rP9872
                      refine m_aload_n F rfl e_X10_readLine_170 ?_
                      refine m_dup F rfl e_X10_readLine_171 ?_
                      refine r_get F e_X10_readLine_172 fl_X10_202 h9871 rfl (fun v hv f9874 => ?_)
                      obtain ⟨x9875, rfl⟩ := hv
                      refine m_iconst F (v := 1) (by decide) e_X10_readLine_175 ?_
                      refine m_iadd F e_X10_readLine_176 ?_
                      refine Wm.top (fun x9876 _ => ?_)
                      refine r_put F (g' := (⟨T, 0, u, h, P9872, L⟩ : RG)) e_X10_readLine_177 fp_X10_202 h9871 (by decide) ⟨_, rfl⟩ (fun _ _ _ _ q => q) (fun _ _ _ q => q) rfl rfl (by decide) (fun σ9877 h9878 g9879 g9880 f9881 => ?_)
                      have pg9882 := pr9873.of (g9880 23 (by decide)) (g9880 21 (by decide))
                      have h9883 : HS V c _ [0, 2, 17, 18, 19, 20, 21, 22, 23] _ _ := ⟨HR.mono (Z' := Z) (by intro e; first | rfl | assumption | omega) h9878.1, h9878.2⟩
                      exact m_vret F hQ e_X10_readLine_180 (⟨P9872, oP9872, (by unfold RP; omega), (pg9882.mono (by omega)), h9883, rfl⟩)
                    · subst q150
                      refine m_aload_n F rfl e_X10_readLine_153 ?_
                      refine r_get F e_X10_readLine_154 fl_X10_110 h9864 rfl (fun v hv f9884 => ?_)
                      obtain ⟨x9885, rfl⟩ := hv
                      refine m_iconst F (v := 3) (by decide) e_X10_readLine_157 ?_
                      refine m_icmp_eq F e_X10_readLine_158 (fun q158 => ?_) (fun q158 => ?_)
                      · subst q158
                        refine m_aload_n F rfl e_X10_readLine_166 ?_
                        refine r_callV F e_X10_readLine_167 (q_X10_goOn (x_l X) V c T Z u h P9865 L _ _  h9864.1 (hob) oP9865 ) cb_X10_goOn ml_X10_154 im_X10_goOn se_X10_goOn h9864 rfl rfl (rest := []) rfl (Nat.le_of_ble_eq_true rfl) ⟨Nat.le_of_ble_eq_true rfl, Nat.le_of_ble_eq_true rfl⟩ ⟨Nat.le_of_ble_eq_true rfl, Nat.le_of_ble_eq_true rfl⟩ (fun r σ9886 hp => ?_)
                        obtain ⟨P9889, oP9889, rP9889, pr9890, h9887, rfl⟩ := hp
                        have h9888 := HS.trans h9864 h9887 (by decide)
                        have xP9889 := oP9889
                        unfold OKP at xP9889
                        unfold RA at rP9889
                        refine m_aload_n F rfl e_X10_readLine_170 ?_
                        refine m_dup F rfl e_X10_readLine_171 ?_
                        refine r_get F e_X10_readLine_172 fl_X10_202 h9888 rfl (fun v hv f9891 => ?_)
                        obtain ⟨x9892, rfl⟩ := hv
                        refine m_iconst F (v := 1) (by decide) e_X10_readLine_175 ?_
                        refine m_iadd F e_X10_readLine_176 ?_
                        refine Wm.top (fun x9893 _ => ?_)
                        refine r_put F (g' := (⟨T, Z, u, h, P9889, L⟩ : RG)) e_X10_readLine_177 fp_X10_202 h9888 (by decide) ⟨_, rfl⟩ (fun _ _ _ _ q => q) (fun _ _ _ q => q) rfl rfl (by decide) (fun σ9894 h9895 g9896 g9897 f9898 => ?_)
                        have pg9899 := pr9890.of (g9897 23 (by decide)) (g9897 21 (by decide))
                        exact m_vret F hQ e_X10_readLine_180 (⟨P9889, oP9889, (by unfold RP; omega), (pg9899.mono (by omega)), h9895, rfl⟩)
                      · refine m_aload_n F rfl e_X10_readLine_161 ?_
                        refine m_iconst F (v := 1) (by decide) e_X10_readLine_162 ?_
                        refine r_callV F e_X10_readLine_163 (q_X10_wrong (x_l X) V c T Z u h P9865 L _ _ 1 h9864.1 (hob) oP9865 (by first | omega | assumption | decide)) cb_X10_wrong ml_X10_150 im_X10_wrong se_X10_wrong h9864 rfl rfl (rest := []) rfl (Nat.le_of_ble_eq_true rfl) ⟨Nat.le_of_ble_eq_true rfl, Nat.le_of_ble_eq_true rfl⟩ ⟨Nat.le_of_ble_eq_true rfl, Nat.le_of_ble_eq_true rfl⟩ (fun r σ9900 hp => ?_)
                        obtain ⟨h9901, rfl⟩ := hp
                        have h9902 := HS.trans h9864 h9901 (by decide)
                        refine m_aload_n F rfl e_X10_readLine_166 ?_
                        refine r_callV F e_X10_readLine_167 (q_X10_goOn (x_l X) V c T 0 u h P9865 L _ _  h9902.1 (hob) oP9865 ) cb_X10_goOn ml_X10_154 im_X10_goOn se_X10_goOn h9902 rfl rfl (rest := []) rfl (Nat.le_of_ble_eq_true rfl) ⟨Nat.le_of_ble_eq_true rfl, Nat.le_of_ble_eq_true rfl⟩ ⟨Nat.le_of_ble_eq_true rfl, Nat.le_of_ble_eq_true rfl⟩ (fun r σ9903 hp => ?_)
                        obtain ⟨P9906, oP9906, rP9906, pr9907, h9904, rfl⟩ := hp
                        have h9905 := HS.trans h9902 h9904 (by decide)
                        have xP9906 := oP9906
                        unfold OKP at xP9906
                        unfold RA at rP9906
                        refine m_aload_n F rfl e_X10_readLine_170 ?_
                        refine m_dup F rfl e_X10_readLine_171 ?_
                        refine r_get F e_X10_readLine_172 fl_X10_202 h9905 rfl (fun v hv f9908 => ?_)
                        obtain ⟨x9909, rfl⟩ := hv
                        refine m_iconst F (v := 1) (by decide) e_X10_readLine_175 ?_
                        refine m_iadd F e_X10_readLine_176 ?_
                        refine Wm.top (fun x9910 _ => ?_)
                        refine r_put F (g' := (⟨T, 0, u, h, P9906, L⟩ : RG)) e_X10_readLine_177 fp_X10_202 h9905 (by decide) ⟨_, rfl⟩ (fun _ _ _ _ q => q) (fun _ _ _ q => q) rfl rfl (by decide) (fun σ9911 h9912 g9913 g9914 f9915 => ?_)
                        have pg9916 := pr9907.of (g9914 23 (by decide)) (g9914 21 (by decide))
                        have h9917 : HS V c _ [0, 2, 17, 18, 19, 20, 21, 22, 23] _ _ := ⟨HR.mono (Z' := Z) (by intro e; first | rfl | assumption | omega) h9912.1, h9912.2⟩
                        exact m_vret F hQ e_X10_readLine_180 (⟨P9906, oP9906, (by unfold RP; omega), (pg9916.mono (by omega)), h9917, rfl⟩)
                  · subst q132
                    refine m_aload_n F rfl e_X10_readLine_135 ?_
                    refine r_callV F e_X10_readLine_136 (q_X10_readOption (x_l X) V c T Z u h P L _ _  h1.1 (hob) hP ) cb_X10_readOption ml_X10_196 im_X10_readOption se_X10_readOption h1 rfl rfl (rest := []) rfl (Nat.le_of_ble_eq_true rfl) ⟨Nat.le_of_ble_eq_true rfl, Nat.le_of_ble_eq_true rfl⟩ ⟨Nat.le_of_ble_eq_true rfl, Nat.le_of_ble_eq_true rfl⟩ (fun r σ9918 hp => ?_)
                    obtain ⟨P9921, oP9921, rP9921, h9919, rfl⟩ := hp
                    have h9920 := HS.trans h1 h9919 (by decide)
                    have xP9921 := oP9921
                    unfold OKP at xP9921
                    unfold RP at rP9921
                    refine m_goto F e_X10_readLine_139 ?_
                    refine m_aload_n F rfl e_X10_readLine_146 ?_
                    refine r_get F e_X10_readLine_147 fl_X10_141 h9920 rfl (fun v hv f9922 => ?_)
                    obtain ⟨x9923, hx9923, rfl⟩ := hv
                    replace hx9923 : Z = 0 → x9923 ≠ 0 := hx9923
                    refine m_if_ne F e_X10_readLine_150 (fun q150 => ?_) (fun q150 => ?_)
                    · have h9924 := HS.z0 h9920 (f9922) q150
                      refine m_aload_n F rfl e_X10_readLine_166 ?_
                      refine r_callV F e_X10_readLine_167 (q_X10_goOn (x_l X) V c T 0 u h P9921 L _ _  h9924.1 (hob) oP9921 ) cb_X10_goOn ml_X10_154 im_X10_goOn se_X10_goOn h9924 rfl rfl (rest := []) rfl (Nat.le_of_ble_eq_true rfl) ⟨Nat.le_of_ble_eq_true rfl, Nat.le_of_ble_eq_true rfl⟩ ⟨Nat.le_of_ble_eq_true rfl, Nat.le_of_ble_eq_true rfl⟩ (fun r σ9925 hp => ?_)
                      obtain ⟨P9928, oP9928, rP9928, pr9929, h9926, rfl⟩ := hp
                      have h9927 := HS.trans h9924 h9926 (by decide)
                      have xP9928 := oP9928
                      unfold OKP at xP9928
                      unfold RA at rP9928
                      refine m_aload_n F rfl e_X10_readLine_170 ?_
                      refine m_dup F rfl e_X10_readLine_171 ?_
                      refine r_get F e_X10_readLine_172 fl_X10_202 h9927 rfl (fun v hv f9930 => ?_)
                      obtain ⟨x9931, rfl⟩ := hv
                      refine m_iconst F (v := 1) (by decide) e_X10_readLine_175 ?_
                      refine m_iadd F e_X10_readLine_176 ?_
                      refine Wm.top (fun x9932 _ => ?_)
                      refine r_put F (g' := (⟨T, 0, u, h, P9928, L⟩ : RG)) e_X10_readLine_177 fp_X10_202 h9927 (by decide) ⟨_, rfl⟩ (fun _ _ _ _ q => q) (fun _ _ _ q => q) rfl rfl (by decide) (fun σ9933 h9934 g9935 g9936 f9937 => ?_)
                      have pg9938 := pr9929.of (g9936 23 (by decide)) (g9936 21 (by decide))
                      have h9939 : HS V c _ [0, 2, 17, 18, 19, 20, 21, 22, 23] _ _ := ⟨HR.mono (Z' := Z) (by intro e; first | rfl | assumption | omega) h9934.1, h9934.2⟩
                      exact m_vret F hQ e_X10_readLine_180 (⟨P9928, oP9928, (by unfold RP; omega), (pg9938.mono (by omega)), h9939, rfl⟩)
                    · subst q150
                      refine m_aload_n F rfl e_X10_readLine_153 ?_
                      refine r_get F e_X10_readLine_154 fl_X10_110 h9920 rfl (fun v hv f9940 => ?_)
                      obtain ⟨x9941, rfl⟩ := hv
                      refine m_iconst F (v := 3) (by decide) e_X10_readLine_157 ?_
                      refine m_icmp_eq F e_X10_readLine_158 (fun q158 => ?_) (fun q158 => ?_)
                      · subst q158
                        refine m_aload_n F rfl e_X10_readLine_166 ?_
                        refine r_callV F e_X10_readLine_167 (q_X10_goOn (x_l X) V c T Z u h P9921 L _ _  h9920.1 (hob) oP9921 ) cb_X10_goOn ml_X10_154 im_X10_goOn se_X10_goOn h9920 rfl rfl (rest := []) rfl (Nat.le_of_ble_eq_true rfl) ⟨Nat.le_of_ble_eq_true rfl, Nat.le_of_ble_eq_true rfl⟩ ⟨Nat.le_of_ble_eq_true rfl, Nat.le_of_ble_eq_true rfl⟩ (fun r σ9942 hp => ?_)
                        obtain ⟨P9945, oP9945, rP9945, pr9946, h9943, rfl⟩ := hp
                        have h9944 := HS.trans h9920 h9943 (by decide)
                        have xP9945 := oP9945
                        unfold OKP at xP9945
                        unfold RA at rP9945
                        refine m_aload_n F rfl e_X10_readLine_170 ?_
                        refine m_dup F rfl e_X10_readLine_171 ?_
                        refine r_get F e_X10_readLine_172 fl_X10_202 h9944 rfl (fun v hv f9947 => ?_)
                        obtain ⟨x9948, rfl⟩ := hv
                        refine m_iconst F (v := 1) (by decide) e_X10_readLine_175 ?_
                        refine m_iadd F e_X10_readLine_176 ?_
                        refine Wm.top (fun x9949 _ => ?_)
                        refine r_put F (g' := (⟨T, Z, u, h, P9945, L⟩ : RG)) e_X10_readLine_177 fp_X10_202 h9944 (by decide) ⟨_, rfl⟩ (fun _ _ _ _ q => q) (fun _ _ _ q => q) rfl rfl (by decide) (fun σ9950 h9951 g9952 g9953 f9954 => ?_)
                        have pg9955 := pr9946.of (g9953 23 (by decide)) (g9953 21 (by decide))
                        exact m_vret F hQ e_X10_readLine_180 (⟨P9945, oP9945, (by unfold RP; omega), (pg9955.mono (by omega)), h9951, rfl⟩)
                      · refine m_aload_n F rfl e_X10_readLine_161 ?_
                        refine m_iconst F (v := 1) (by decide) e_X10_readLine_162 ?_
                        refine r_callV F e_X10_readLine_163 (q_X10_wrong (x_l X) V c T Z u h P9921 L _ _ 1 h9920.1 (hob) oP9921 (by first | omega | assumption | decide)) cb_X10_wrong ml_X10_150 im_X10_wrong se_X10_wrong h9920 rfl rfl (rest := []) rfl (Nat.le_of_ble_eq_true rfl) ⟨Nat.le_of_ble_eq_true rfl, Nat.le_of_ble_eq_true rfl⟩ ⟨Nat.le_of_ble_eq_true rfl, Nat.le_of_ble_eq_true rfl⟩ (fun r σ9956 hp => ?_)
                        obtain ⟨h9957, rfl⟩ := hp
                        have h9958 := HS.trans h9920 h9957 (by decide)
                        refine m_aload_n F rfl e_X10_readLine_166 ?_
                        refine r_callV F e_X10_readLine_167 (q_X10_goOn (x_l X) V c T 0 u h P9921 L _ _  h9958.1 (hob) oP9921 ) cb_X10_goOn ml_X10_154 im_X10_goOn se_X10_goOn h9958 rfl rfl (rest := []) rfl (Nat.le_of_ble_eq_true rfl) ⟨Nat.le_of_ble_eq_true rfl, Nat.le_of_ble_eq_true rfl⟩ ⟨Nat.le_of_ble_eq_true rfl, Nat.le_of_ble_eq_true rfl⟩ (fun r σ9959 hp => ?_)
                        obtain ⟨P9962, oP9962, rP9962, pr9963, h9960, rfl⟩ := hp
                        have h9961 := HS.trans h9958 h9960 (by decide)
                        have xP9962 := oP9962
                        unfold OKP at xP9962
                        unfold RA at rP9962
                        refine m_aload_n F rfl e_X10_readLine_170 ?_
                        refine m_dup F rfl e_X10_readLine_171 ?_
                        refine r_get F e_X10_readLine_172 fl_X10_202 h9961 rfl (fun v hv f9964 => ?_)
                        obtain ⟨x9965, rfl⟩ := hv
                        refine m_iconst F (v := 1) (by decide) e_X10_readLine_175 ?_
                        refine m_iadd F e_X10_readLine_176 ?_
                        refine Wm.top (fun x9966 _ => ?_)
                        refine r_put F (g' := (⟨T, 0, u, h, P9962, L⟩ : RG)) e_X10_readLine_177 fp_X10_202 h9961 (by decide) ⟨_, rfl⟩ (fun _ _ _ _ q => q) (fun _ _ _ q => q) rfl rfl (by decide) (fun σ9967 h9968 g9969 g9970 f9971 => ?_)
                        have pg9972 := pr9963.of (g9970 23 (by decide)) (g9970 21 (by decide))
                        have h9973 : HS V c _ [0, 2, 17, 18, 19, 20, 21, 22, 23] _ _ := ⟨HR.mono (Z' := Z) (by intro e; first | rfl | assumption | omega) h9968.1, h9968.2⟩
                        exact m_vret F hQ e_X10_readLine_180 (⟨P9962, oP9962, (by unfold RP; omega), (pg9972.mono (by omega)), h9973, rfl⟩)
                · subst q116
                  refine m_aload_n F rfl e_X10_readLine_119 ?_
                  refine r_callV F e_X10_readLine_120 (q_X10_readChange (x_l X) V c T Z u h P L _ _  h1.1 (hob) hP ) cb_X10_readChange ml_X10_193 im_X10_readChange se_X10_readChange h1 rfl rfl (rest := []) rfl (Nat.le_of_ble_eq_true rfl) ⟨Nat.le_of_ble_eq_true rfl, Nat.le_of_ble_eq_true rfl⟩ ⟨Nat.le_of_ble_eq_true rfl, Nat.le_of_ble_eq_true rfl⟩ (fun r σ9974 hp => ?_)
                  obtain ⟨P9977, oP9977, rP9977, h9975, rfl⟩ := hp
                  have h9976 := HS.trans h1 h9975 (by decide)
                  have xP9977 := oP9977
                  unfold OKP at xP9977
                  unfold RP at rP9977
                  refine m_goto F e_X10_readLine_123 ?_
                  refine m_aload_n F rfl e_X10_readLine_146 ?_
                  refine r_get F e_X10_readLine_147 fl_X10_141 h9976 rfl (fun v hv f9978 => ?_)
                  obtain ⟨x9979, hx9979, rfl⟩ := hv
                  replace hx9979 : Z = 0 → x9979 ≠ 0 := hx9979
                  refine m_if_ne F e_X10_readLine_150 (fun q150 => ?_) (fun q150 => ?_)
                  · have h9980 := HS.z0 h9976 (f9978) q150
                    refine m_aload_n F rfl e_X10_readLine_166 ?_
                    refine r_callV F e_X10_readLine_167 (q_X10_goOn (x_l X) V c T 0 u h P9977 L _ _  h9980.1 (hob) oP9977 ) cb_X10_goOn ml_X10_154 im_X10_goOn se_X10_goOn h9980 rfl rfl (rest := []) rfl (Nat.le_of_ble_eq_true rfl) ⟨Nat.le_of_ble_eq_true rfl, Nat.le_of_ble_eq_true rfl⟩ ⟨Nat.le_of_ble_eq_true rfl, Nat.le_of_ble_eq_true rfl⟩ (fun r σ9981 hp => ?_)
                    obtain ⟨P9984, oP9984, rP9984, pr9985, h9982, rfl⟩ := hp
                    have h9983 := HS.trans h9980 h9982 (by decide)
                    have xP9984 := oP9984
                    unfold OKP at xP9984
                    unfold RA at rP9984
                    refine m_aload_n F rfl e_X10_readLine_170 ?_
                    refine m_dup F rfl e_X10_readLine_171 ?_
                    refine r_get F e_X10_readLine_172 fl_X10_202 h9983 rfl (fun v hv f9986 => ?_)
                    obtain ⟨x9987, rfl⟩ := hv
                    refine m_iconst F (v := 1) (by decide) e_X10_readLine_175 ?_
                    refine m_iadd F e_X10_readLine_176 ?_
                    refine Wm.top (fun x9988 _ => ?_)
                    refine r_put F (g' := (⟨T, 0, u, h, P9984, L⟩ : RG)) e_X10_readLine_177 fp_X10_202 h9983 (by decide) ⟨_, rfl⟩ (fun _ _ _ _ q => q) (fun _ _ _ q => q) rfl rfl (by decide) (fun σ9989 h9990 g9991 g9992 f9993 => ?_)
                    have pg9994 := pr9985.of (g9992 23 (by decide)) (g9992 21 (by decide))
                    have h9995 : HS V c _ [0, 2, 17, 18, 19, 20, 21, 22, 23] _ _ := ⟨HR.mono (Z' := Z) (by intro e; first | rfl | assumption | omega) h9990.1, h9990.2⟩
                    exact m_vret F hQ e_X10_readLine_180 (⟨P9984, oP9984, (by unfold RP; omega), (pg9994.mono (by omega)), h9995, rfl⟩)
                  · subst q150
                    refine m_aload_n F rfl e_X10_readLine_153 ?_
                    refine r_get F e_X10_readLine_154 fl_X10_110 h9976 rfl (fun v hv f9996 => ?_)
                    obtain ⟨x9997, rfl⟩ := hv
                    refine m_iconst F (v := 3) (by decide) e_X10_readLine_157 ?_
                    refine m_icmp_eq F e_X10_readLine_158 (fun q158 => ?_) (fun q158 => ?_)
                    · subst q158
                      refine m_aload_n F rfl e_X10_readLine_166 ?_
                      refine r_callV F e_X10_readLine_167 (q_X10_goOn (x_l X) V c T Z u h P9977 L _ _  h9976.1 (hob) oP9977 ) cb_X10_goOn ml_X10_154 im_X10_goOn se_X10_goOn h9976 rfl rfl (rest := []) rfl (Nat.le_of_ble_eq_true rfl) ⟨Nat.le_of_ble_eq_true rfl, Nat.le_of_ble_eq_true rfl⟩ ⟨Nat.le_of_ble_eq_true rfl, Nat.le_of_ble_eq_true rfl⟩ (fun r σ9998 hp => ?_)
                      obtain ⟨P10001, oP10001, rP10001, pr10002, h9999, rfl⟩ := hp
                      have h10000 := HS.trans h9976 h9999 (by decide)
                      have xP10001 := oP10001
                      unfold OKP at xP10001
                      unfold RA at rP10001
                      refine m_aload_n F rfl e_X10_readLine_170 ?_
                      refine m_dup F rfl e_X10_readLine_171 ?_
                      refine r_get F e_X10_readLine_172 fl_X10_202 h10000 rfl (fun v hv f10003 => ?_)
                      obtain ⟨x10004, rfl⟩ := hv
                      refine m_iconst F (v := 1) (by decide) e_X10_readLine_175 ?_
                      refine m_iadd F e_X10_readLine_176 ?_
                      refine Wm.top (fun x10005 _ => ?_)
                      refine r_put F (g' := (⟨T, Z, u, h, P10001, L⟩ : RG)) e_X10_readLine_177 fp_X10_202 h10000 (by decide) ⟨_, rfl⟩ (fun _ _ _ _ q => q) (fun _ _ _ q => q) rfl rfl (by decide) (fun σ10006 h10007 g10008 g10009 f10010 => ?_)
                      have pg10011 := pr10002.of (g10009 23 (by decide)) (g10009 21 (by decide))
                      exact m_vret F hQ e_X10_readLine_180 (⟨P10001, oP10001, (by unfold RP; omega), (pg10011.mono (by omega)), h10007, rfl⟩)
                    · refine m_aload_n F rfl e_X10_readLine_161 ?_
                      refine m_iconst F (v := 1) (by decide) e_X10_readLine_162 ?_
                      refine r_callV F e_X10_readLine_163 (q_X10_wrong (x_l X) V c T Z u h P9977 L _ _ 1 h9976.1 (hob) oP9977 (by first | omega | assumption | decide)) cb_X10_wrong ml_X10_150 im_X10_wrong se_X10_wrong h9976 rfl rfl (rest := []) rfl (Nat.le_of_ble_eq_true rfl) ⟨Nat.le_of_ble_eq_true rfl, Nat.le_of_ble_eq_true rfl⟩ ⟨Nat.le_of_ble_eq_true rfl, Nat.le_of_ble_eq_true rfl⟩ (fun r σ10012 hp => ?_)
                      obtain ⟨h10013, rfl⟩ := hp
                      have h10014 := HS.trans h9976 h10013 (by decide)
                      refine m_aload_n F rfl e_X10_readLine_166 ?_
                      refine r_callV F e_X10_readLine_167 (q_X10_goOn (x_l X) V c T 0 u h P9977 L _ _  h10014.1 (hob) oP9977 ) cb_X10_goOn ml_X10_154 im_X10_goOn se_X10_goOn h10014 rfl rfl (rest := []) rfl (Nat.le_of_ble_eq_true rfl) ⟨Nat.le_of_ble_eq_true rfl, Nat.le_of_ble_eq_true rfl⟩ ⟨Nat.le_of_ble_eq_true rfl, Nat.le_of_ble_eq_true rfl⟩ (fun r σ10015 hp => ?_)
                      obtain ⟨P10018, oP10018, rP10018, pr10019, h10016, rfl⟩ := hp
                      have h10017 := HS.trans h10014 h10016 (by decide)
                      have xP10018 := oP10018
                      unfold OKP at xP10018
                      unfold RA at rP10018
                      refine m_aload_n F rfl e_X10_readLine_170 ?_
                      refine m_dup F rfl e_X10_readLine_171 ?_
                      refine r_get F e_X10_readLine_172 fl_X10_202 h10017 rfl (fun v hv f10020 => ?_)
                      obtain ⟨x10021, rfl⟩ := hv
                      refine m_iconst F (v := 1) (by decide) e_X10_readLine_175 ?_
                      refine m_iadd F e_X10_readLine_176 ?_
                      refine Wm.top (fun x10022 _ => ?_)
                      refine r_put F (g' := (⟨T, 0, u, h, P10018, L⟩ : RG)) e_X10_readLine_177 fp_X10_202 h10017 (by decide) ⟨_, rfl⟩ (fun _ _ _ _ q => q) (fun _ _ _ q => q) rfl rfl (by decide) (fun σ10023 h10024 g10025 g10026 f10027 => ?_)
                      have pg10028 := pr10019.of (g10026 23 (by decide)) (g10026 21 (by decide))
                      have h10029 : HS V c _ [0, 2, 17, 18, 19, 20, 21, 22, 23] _ _ := ⟨HR.mono (Z' := Z) (by intro e; first | rfl | assumption | omega) h10024.1, h10024.2⟩
                      exact m_vret F hQ e_X10_readLine_180 (⟨P10018, oP10018, (by unfold RP; omega), (pg10028.mono (by omega)), h10029, rfl⟩)
              · subst q100
                refine m_aload_n F rfl e_X10_readLine_103 ?_
                refine r_callV F e_X10_readLine_104 (q_X10_readFee (x_l X) V c T Z u h P L _ _  h1.1 (hob) hP ) cb_X10_readFee ml_X10_190 im_X10_readFee se_X10_readFee h1 rfl rfl (rest := []) rfl (Nat.le_of_ble_eq_true rfl) ⟨Nat.le_of_ble_eq_true rfl, Nat.le_of_ble_eq_true rfl⟩ ⟨Nat.le_of_ble_eq_true rfl, Nat.le_of_ble_eq_true rfl⟩ (fun r σ10030 hp => ?_)
                obtain ⟨P10033, oP10033, rP10033, h10031, rfl⟩ := hp
                have h10032 := HS.trans h1 h10031 (by decide)
                have xP10033 := oP10033
                unfold OKP at xP10033
                unfold RP at rP10033
                refine m_goto F e_X10_readLine_107 ?_
                refine m_aload_n F rfl e_X10_readLine_146 ?_
                refine r_get F e_X10_readLine_147 fl_X10_141 h10032 rfl (fun v hv f10034 => ?_)
                obtain ⟨x10035, hx10035, rfl⟩ := hv
                replace hx10035 : Z = 0 → x10035 ≠ 0 := hx10035
                refine m_if_ne F e_X10_readLine_150 (fun q150 => ?_) (fun q150 => ?_)
                · have h10036 := HS.z0 h10032 (f10034) q150
                  refine m_aload_n F rfl e_X10_readLine_166 ?_
                  refine r_callV F e_X10_readLine_167 (q_X10_goOn (x_l X) V c T 0 u h P10033 L _ _  h10036.1 (hob) oP10033 ) cb_X10_goOn ml_X10_154 im_X10_goOn se_X10_goOn h10036 rfl rfl (rest := []) rfl (Nat.le_of_ble_eq_true rfl) ⟨Nat.le_of_ble_eq_true rfl, Nat.le_of_ble_eq_true rfl⟩ ⟨Nat.le_of_ble_eq_true rfl, Nat.le_of_ble_eq_true rfl⟩ (fun r σ10037 hp => ?_)
                  obtain ⟨P10040, oP10040, rP10040, pr10041, h10038, rfl⟩ := hp
                  have h10039 := HS.trans h10036 h10038 (by decide)
                  have xP10040 := oP10040
                  unfold OKP at xP10040
                  unfold RA at rP10040
                  refine m_aload_n F rfl e_X10_readLine_170 ?_
                  refine m_dup F rfl e_X10_readLine_171 ?_
                  refine r_get F e_X10_readLine_172 fl_X10_202 h10039 rfl (fun v hv f10042 => ?_)
                  obtain ⟨x10043, rfl⟩ := hv
                  refine m_iconst F (v := 1) (by decide) e_X10_readLine_175 ?_
                  refine m_iadd F e_X10_readLine_176 ?_
                  refine Wm.top (fun x10044 _ => ?_)
                  refine r_put F (g' := (⟨T, 0, u, h, P10040, L⟩ : RG)) e_X10_readLine_177 fp_X10_202 h10039 (by decide) ⟨_, rfl⟩ (fun _ _ _ _ q => q) (fun _ _ _ q => q) rfl rfl (by decide) (fun σ10045 h10046 g10047 g10048 f10049 => ?_)
                  have pg10050 := pr10041.of (g10048 23 (by decide)) (g10048 21 (by decide))
                  have h10051 : HS V c _ [0, 2, 17, 18, 19, 20, 21, 22, 23] _ _ := ⟨HR.mono (Z' := Z) (by intro e; first | rfl | assumption | omega) h10046.1, h10046.2⟩
                  exact m_vret F hQ e_X10_readLine_180 (⟨P10040, oP10040, (by unfold RP; omega), (pg10050.mono (by omega)), h10051, rfl⟩)
                · subst q150
                  refine m_aload_n F rfl e_X10_readLine_153 ?_
                  refine r_get F e_X10_readLine_154 fl_X10_110 h10032 rfl (fun v hv f10052 => ?_)
                  obtain ⟨x10053, rfl⟩ := hv
                  refine m_iconst F (v := 3) (by decide) e_X10_readLine_157 ?_
                  refine m_icmp_eq F e_X10_readLine_158 (fun q158 => ?_) (fun q158 => ?_)
                  · subst q158
                    refine m_aload_n F rfl e_X10_readLine_166 ?_
                    refine r_callV F e_X10_readLine_167 (q_X10_goOn (x_l X) V c T Z u h P10033 L _ _  h10032.1 (hob) oP10033 ) cb_X10_goOn ml_X10_154 im_X10_goOn se_X10_goOn h10032 rfl rfl (rest := []) rfl (Nat.le_of_ble_eq_true rfl) ⟨Nat.le_of_ble_eq_true rfl, Nat.le_of_ble_eq_true rfl⟩ ⟨Nat.le_of_ble_eq_true rfl, Nat.le_of_ble_eq_true rfl⟩ (fun r σ10054 hp => ?_)
                    obtain ⟨P10057, oP10057, rP10057, pr10058, h10055, rfl⟩ := hp
                    have h10056 := HS.trans h10032 h10055 (by decide)
                    have xP10057 := oP10057
                    unfold OKP at xP10057
                    unfold RA at rP10057
                    refine m_aload_n F rfl e_X10_readLine_170 ?_
                    refine m_dup F rfl e_X10_readLine_171 ?_
                    refine r_get F e_X10_readLine_172 fl_X10_202 h10056 rfl (fun v hv f10059 => ?_)
                    obtain ⟨x10060, rfl⟩ := hv
                    refine m_iconst F (v := 1) (by decide) e_X10_readLine_175 ?_
                    refine m_iadd F e_X10_readLine_176 ?_
                    refine Wm.top (fun x10061 _ => ?_)
                    refine r_put F (g' := (⟨T, Z, u, h, P10057, L⟩ : RG)) e_X10_readLine_177 fp_X10_202 h10056 (by decide) ⟨_, rfl⟩ (fun _ _ _ _ q => q) (fun _ _ _ q => q) rfl rfl (by decide) (fun σ10062 h10063 g10064 g10065 f10066 => ?_)
                    have pg10067 := pr10058.of (g10065 23 (by decide)) (g10065 21 (by decide))
                    exact m_vret F hQ e_X10_readLine_180 (⟨P10057, oP10057, (by unfold RP; omega), (pg10067.mono (by omega)), h10063, rfl⟩)
                  · refine m_aload_n F rfl e_X10_readLine_161 ?_
                    refine m_iconst F (v := 1) (by decide) e_X10_readLine_162 ?_
                    refine r_callV F e_X10_readLine_163 (q_X10_wrong (x_l X) V c T Z u h P10033 L _ _ 1 h10032.1 (hob) oP10033 (by first | omega | assumption | decide)) cb_X10_wrong ml_X10_150 im_X10_wrong se_X10_wrong h10032 rfl rfl (rest := []) rfl (Nat.le_of_ble_eq_true rfl) ⟨Nat.le_of_ble_eq_true rfl, Nat.le_of_ble_eq_true rfl⟩ ⟨Nat.le_of_ble_eq_true rfl, Nat.le_of_ble_eq_true rfl⟩ (fun r σ10068 hp => ?_)
                    obtain ⟨h10069, rfl⟩ := hp
                    have h10070 := HS.trans h10032 h10069 (by decide)
                    refine m_aload_n F rfl e_X10_readLine_166 ?_
                    refine r_callV F e_X10_readLine_167 (q_X10_goOn (x_l X) V c T 0 u h P10033 L _ _  h10070.1 (hob) oP10033 ) cb_X10_goOn ml_X10_154 im_X10_goOn se_X10_goOn h10070 rfl rfl (rest := []) rfl (Nat.le_of_ble_eq_true rfl) ⟨Nat.le_of_ble_eq_true rfl, Nat.le_of_ble_eq_true rfl⟩ ⟨Nat.le_of_ble_eq_true rfl, Nat.le_of_ble_eq_true rfl⟩ (fun r σ10071 hp => ?_)
                    obtain ⟨P10074, oP10074, rP10074, pr10075, h10072, rfl⟩ := hp
                    have h10073 := HS.trans h10070 h10072 (by decide)
                    have xP10074 := oP10074
                    unfold OKP at xP10074
                    unfold RA at rP10074
                    refine m_aload_n F rfl e_X10_readLine_170 ?_
                    refine m_dup F rfl e_X10_readLine_171 ?_
                    refine r_get F e_X10_readLine_172 fl_X10_202 h10073 rfl (fun v hv f10076 => ?_)
                    obtain ⟨x10077, rfl⟩ := hv
                    refine m_iconst F (v := 1) (by decide) e_X10_readLine_175 ?_
                    refine m_iadd F e_X10_readLine_176 ?_
                    refine Wm.top (fun x10078 _ => ?_)
                    refine r_put F (g' := (⟨T, 0, u, h, P10074, L⟩ : RG)) e_X10_readLine_177 fp_X10_202 h10073 (by decide) ⟨_, rfl⟩ (fun _ _ _ _ q => q) (fun _ _ _ q => q) rfl rfl (by decide) (fun σ10079 h10080 g10081 g10082 f10083 => ?_)
                    have pg10084 := pr10075.of (g10082 23 (by decide)) (g10082 21 (by decide))
                    have h10085 : HS V c _ [0, 2, 17, 18, 19, 20, 21, 22, 23] _ _ := ⟨HR.mono (Z' := Z) (by intro e; first | rfl | assumption | omega) h10080.1, h10080.2⟩
                    exact m_vret F hQ e_X10_readLine_180 (⟨P10074, oP10074, (by unfold RP; omega), (pg10084.mono (by omega)), h10085, rfl⟩)
            · subst q85
              refine m_aload_n F rfl e_X10_readLine_88 ?_
              refine r_callV F e_X10_readLine_89 (q_X10_readFair (x_l X) V c T Z u h P L _ _  h1.1 (hob) hP ) cb_X10_readFair ml_X10_187 im_X10_readFair se_X10_readFair h1 rfl rfl (rest := []) rfl (Nat.le_of_ble_eq_true rfl) ⟨Nat.le_of_ble_eq_true rfl, Nat.le_of_ble_eq_true rfl⟩ ⟨Nat.le_of_ble_eq_true rfl, Nat.le_of_ble_eq_true rfl⟩ (fun r σ10086 hp => ?_)
              obtain ⟨P10089, oP10089, rP10089, h10087, rfl⟩ := hp
              have h10088 := HS.trans h1 h10087 (by decide)
              have xP10089 := oP10089
              unfold OKP at xP10089
              unfold RP at rP10089
              refine m_goto F e_X10_readLine_92 ?_
              refine m_aload_n F rfl e_X10_readLine_146 ?_
              refine r_get F e_X10_readLine_147 fl_X10_141 h10088 rfl (fun v hv f10090 => ?_)
              obtain ⟨x10091, hx10091, rfl⟩ := hv
              replace hx10091 : Z = 0 → x10091 ≠ 0 := hx10091
              refine m_if_ne F e_X10_readLine_150 (fun q150 => ?_) (fun q150 => ?_)
              · have h10092 := HS.z0 h10088 (f10090) q150
                refine m_aload_n F rfl e_X10_readLine_166 ?_
                refine r_callV F e_X10_readLine_167 (q_X10_goOn (x_l X) V c T 0 u h P10089 L _ _  h10092.1 (hob) oP10089 ) cb_X10_goOn ml_X10_154 im_X10_goOn se_X10_goOn h10092 rfl rfl (rest := []) rfl (Nat.le_of_ble_eq_true rfl) ⟨Nat.le_of_ble_eq_true rfl, Nat.le_of_ble_eq_true rfl⟩ ⟨Nat.le_of_ble_eq_true rfl, Nat.le_of_ble_eq_true rfl⟩ (fun r σ10093 hp => ?_)
                obtain ⟨P10096, oP10096, rP10096, pr10097, h10094, rfl⟩ := hp
                have h10095 := HS.trans h10092 h10094 (by decide)
                have xP10096 := oP10096
                unfold OKP at xP10096
                unfold RA at rP10096
                refine m_aload_n F rfl e_X10_readLine_170 ?_
                refine m_dup F rfl e_X10_readLine_171 ?_
                refine r_get F e_X10_readLine_172 fl_X10_202 h10095 rfl (fun v hv f10098 => ?_)
                obtain ⟨x10099, rfl⟩ := hv
                refine m_iconst F (v := 1) (by decide) e_X10_readLine_175 ?_
                refine m_iadd F e_X10_readLine_176 ?_
                refine Wm.top (fun x10100 _ => ?_)
                refine r_put F (g' := (⟨T, 0, u, h, P10096, L⟩ : RG)) e_X10_readLine_177 fp_X10_202 h10095 (by decide) ⟨_, rfl⟩ (fun _ _ _ _ q => q) (fun _ _ _ q => q) rfl rfl (by decide) (fun σ10101 h10102 g10103 g10104 f10105 => ?_)
                have pg10106 := pr10097.of (g10104 23 (by decide)) (g10104 21 (by decide))
                have h10107 : HS V c _ [0, 2, 17, 18, 19, 20, 21, 22, 23] _ _ := ⟨HR.mono (Z' := Z) (by intro e; first | rfl | assumption | omega) h10102.1, h10102.2⟩
                exact m_vret F hQ e_X10_readLine_180 (⟨P10096, oP10096, (by unfold RP; omega), (pg10106.mono (by omega)), h10107, rfl⟩)
              · subst q150
                refine m_aload_n F rfl e_X10_readLine_153 ?_
                refine r_get F e_X10_readLine_154 fl_X10_110 h10088 rfl (fun v hv f10108 => ?_)
                obtain ⟨x10109, rfl⟩ := hv
                refine m_iconst F (v := 3) (by decide) e_X10_readLine_157 ?_
                refine m_icmp_eq F e_X10_readLine_158 (fun q158 => ?_) (fun q158 => ?_)
                · subst q158
                  refine m_aload_n F rfl e_X10_readLine_166 ?_
                  refine r_callV F e_X10_readLine_167 (q_X10_goOn (x_l X) V c T Z u h P10089 L _ _  h10088.1 (hob) oP10089 ) cb_X10_goOn ml_X10_154 im_X10_goOn se_X10_goOn h10088 rfl rfl (rest := []) rfl (Nat.le_of_ble_eq_true rfl) ⟨Nat.le_of_ble_eq_true rfl, Nat.le_of_ble_eq_true rfl⟩ ⟨Nat.le_of_ble_eq_true rfl, Nat.le_of_ble_eq_true rfl⟩ (fun r σ10110 hp => ?_)
                  obtain ⟨P10113, oP10113, rP10113, pr10114, h10111, rfl⟩ := hp
                  have h10112 := HS.trans h10088 h10111 (by decide)
                  have xP10113 := oP10113
                  unfold OKP at xP10113
                  unfold RA at rP10113
                  refine m_aload_n F rfl e_X10_readLine_170 ?_
                  refine m_dup F rfl e_X10_readLine_171 ?_
                  refine r_get F e_X10_readLine_172 fl_X10_202 h10112 rfl (fun v hv f10115 => ?_)
                  obtain ⟨x10116, rfl⟩ := hv
                  refine m_iconst F (v := 1) (by decide) e_X10_readLine_175 ?_
                  refine m_iadd F e_X10_readLine_176 ?_
                  refine Wm.top (fun x10117 _ => ?_)
                  refine r_put F (g' := (⟨T, Z, u, h, P10113, L⟩ : RG)) e_X10_readLine_177 fp_X10_202 h10112 (by decide) ⟨_, rfl⟩ (fun _ _ _ _ q => q) (fun _ _ _ q => q) rfl rfl (by decide) (fun σ10118 h10119 g10120 g10121 f10122 => ?_)
                  have pg10123 := pr10114.of (g10121 23 (by decide)) (g10121 21 (by decide))
                  exact m_vret F hQ e_X10_readLine_180 (⟨P10113, oP10113, (by unfold RP; omega), (pg10123.mono (by omega)), h10119, rfl⟩)
                · refine m_aload_n F rfl e_X10_readLine_161 ?_
                  refine m_iconst F (v := 1) (by decide) e_X10_readLine_162 ?_
                  refine r_callV F e_X10_readLine_163 (q_X10_wrong (x_l X) V c T Z u h P10089 L _ _ 1 h10088.1 (hob) oP10089 (by first | omega | assumption | decide)) cb_X10_wrong ml_X10_150 im_X10_wrong se_X10_wrong h10088 rfl rfl (rest := []) rfl (Nat.le_of_ble_eq_true rfl) ⟨Nat.le_of_ble_eq_true rfl, Nat.le_of_ble_eq_true rfl⟩ ⟨Nat.le_of_ble_eq_true rfl, Nat.le_of_ble_eq_true rfl⟩ (fun r σ10124 hp => ?_)
                  obtain ⟨h10125, rfl⟩ := hp
                  have h10126 := HS.trans h10088 h10125 (by decide)
                  refine m_aload_n F rfl e_X10_readLine_166 ?_
                  refine r_callV F e_X10_readLine_167 (q_X10_goOn (x_l X) V c T 0 u h P10089 L _ _  h10126.1 (hob) oP10089 ) cb_X10_goOn ml_X10_154 im_X10_goOn se_X10_goOn h10126 rfl rfl (rest := []) rfl (Nat.le_of_ble_eq_true rfl) ⟨Nat.le_of_ble_eq_true rfl, Nat.le_of_ble_eq_true rfl⟩ ⟨Nat.le_of_ble_eq_true rfl, Nat.le_of_ble_eq_true rfl⟩ (fun r σ10127 hp => ?_)
                  obtain ⟨P10130, oP10130, rP10130, pr10131, h10128, rfl⟩ := hp
                  have h10129 := HS.trans h10126 h10128 (by decide)
                  have xP10130 := oP10130
                  unfold OKP at xP10130
                  unfold RA at rP10130
                  refine m_aload_n F rfl e_X10_readLine_170 ?_
                  refine m_dup F rfl e_X10_readLine_171 ?_
                  refine r_get F e_X10_readLine_172 fl_X10_202 h10129 rfl (fun v hv f10132 => ?_)
                  obtain ⟨x10133, rfl⟩ := hv
                  refine m_iconst F (v := 1) (by decide) e_X10_readLine_175 ?_
                  refine m_iadd F e_X10_readLine_176 ?_
                  refine Wm.top (fun x10134 _ => ?_)
                  refine r_put F (g' := (⟨T, 0, u, h, P10130, L⟩ : RG)) e_X10_readLine_177 fp_X10_202 h10129 (by decide) ⟨_, rfl⟩ (fun _ _ _ _ q => q) (fun _ _ _ q => q) rfl rfl (by decide) (fun σ10135 h10136 g10137 g10138 f10139 => ?_)
                  have pg10140 := pr10131.of (g10138 23 (by decide)) (g10138 21 (by decide))
                  have h10141 : HS V c _ [0, 2, 17, 18, 19, 20, 21, 22, 23] _ _ := ⟨HR.mono (Z' := Z) (by intro e; first | rfl | assumption | omega) h10136.1, h10136.2⟩
                  exact m_vret F hQ e_X10_readLine_180 (⟨P10130, oP10130, (by unfold RP; omega), (pg10140.mono (by omega)), h10141, rfl⟩)
          · subst q57
            refine m_aload_n F rfl e_X10_readLine_60 ?_
            refine m_aload_n F rfl e_X10_readLine_61 ?_
            refine r_getC F e_X10_readLine_62 fl_X10_120 h1 (f9804) ?_
            refine m_iconst F (v := 2) (by decide) e_X10_readLine_65 ?_
            refine m_icmp_ne F e_X10_readLine_66 (fun _ => ?_) (fun q => absurd q (by decide))
            refine m_iconst F (v := 2) (by decide) e_X10_readLine_73 ?_
            refine r_callV F e_X10_readLine_74 (q_X10_readMark (x_l X) V c T Z u h P L _ _ 2 h1.1 (hob) hP ) cb_X10_readMark ml_X10_184 im_X10_readMark se_X10_readMark h1 rfl rfl (rest := []) rfl (Nat.le_of_ble_eq_true rfl) ⟨Nat.le_of_ble_eq_true rfl, Nat.le_of_ble_eq_true rfl⟩ ⟨Nat.le_of_ble_eq_true rfl, Nat.le_of_ble_eq_true rfl⟩ (fun r σ10142 hp => ?_)
            obtain ⟨P10145, oP10145, rP10145, h10143, rfl⟩ := hp
            have h10144 := HS.trans h1 h10143 (by decide)
            have xP10145 := oP10145
            unfold OKP at xP10145
            unfold RP at rP10145
            refine m_goto F e_X10_readLine_77 ?_
            refine m_aload_n F rfl e_X10_readLine_146 ?_
            refine r_get F e_X10_readLine_147 fl_X10_141 h10144 rfl (fun v hv f10146 => ?_)
            obtain ⟨x10147, hx10147, rfl⟩ := hv
            replace hx10147 : Z = 0 → x10147 ≠ 0 := hx10147
            refine m_if_ne F e_X10_readLine_150 (fun q150 => ?_) (fun q150 => ?_)
            · have h10148 := HS.z0 h10144 (f10146) q150
              refine m_aload_n F rfl e_X10_readLine_166 ?_
              refine r_callV F e_X10_readLine_167 (q_X10_goOn (x_l X) V c T 0 u h P10145 L _ _  h10148.1 (hob) oP10145 ) cb_X10_goOn ml_X10_154 im_X10_goOn se_X10_goOn h10148 rfl rfl (rest := []) rfl (Nat.le_of_ble_eq_true rfl) ⟨Nat.le_of_ble_eq_true rfl, Nat.le_of_ble_eq_true rfl⟩ ⟨Nat.le_of_ble_eq_true rfl, Nat.le_of_ble_eq_true rfl⟩ (fun r σ10149 hp => ?_)
              obtain ⟨P10152, oP10152, rP10152, pr10153, h10150, rfl⟩ := hp
              have h10151 := HS.trans h10148 h10150 (by decide)
              have xP10152 := oP10152
              unfold OKP at xP10152
              unfold RA at rP10152
              refine m_aload_n F rfl e_X10_readLine_170 ?_
              refine m_dup F rfl e_X10_readLine_171 ?_
              refine r_get F e_X10_readLine_172 fl_X10_202 h10151 rfl (fun v hv f10154 => ?_)
              obtain ⟨x10155, rfl⟩ := hv
              refine m_iconst F (v := 1) (by decide) e_X10_readLine_175 ?_
              refine m_iadd F e_X10_readLine_176 ?_
              refine Wm.top (fun x10156 _ => ?_)
              refine r_put F (g' := (⟨T, 0, u, h, P10152, L⟩ : RG)) e_X10_readLine_177 fp_X10_202 h10151 (by decide) ⟨_, rfl⟩ (fun _ _ _ _ q => q) (fun _ _ _ q => q) rfl rfl (by decide) (fun σ10157 h10158 g10159 g10160 f10161 => ?_)
              have pg10162 := pr10153.of (g10160 23 (by decide)) (g10160 21 (by decide))
              have h10163 : HS V c _ [0, 2, 17, 18, 19, 20, 21, 22, 23] _ _ := ⟨HR.mono (Z' := Z) (by intro e; first | rfl | assumption | omega) h10158.1, h10158.2⟩
              exact m_vret F hQ e_X10_readLine_180 (⟨P10152, oP10152, (by unfold RP; omega), (pg10162.mono (by omega)), h10163, rfl⟩)
            · subst q150
              refine m_aload_n F rfl e_X10_readLine_153 ?_
              refine r_get F e_X10_readLine_154 fl_X10_110 h10144 rfl (fun v hv f10164 => ?_)
              obtain ⟨x10165, rfl⟩ := hv
              refine m_iconst F (v := 3) (by decide) e_X10_readLine_157 ?_
              refine m_icmp_eq F e_X10_readLine_158 (fun q158 => ?_) (fun q158 => ?_)
              · subst q158
                refine m_aload_n F rfl e_X10_readLine_166 ?_
                refine r_callV F e_X10_readLine_167 (q_X10_goOn (x_l X) V c T Z u h P10145 L _ _  h10144.1 (hob) oP10145 ) cb_X10_goOn ml_X10_154 im_X10_goOn se_X10_goOn h10144 rfl rfl (rest := []) rfl (Nat.le_of_ble_eq_true rfl) ⟨Nat.le_of_ble_eq_true rfl, Nat.le_of_ble_eq_true rfl⟩ ⟨Nat.le_of_ble_eq_true rfl, Nat.le_of_ble_eq_true rfl⟩ (fun r σ10166 hp => ?_)
                obtain ⟨P10169, oP10169, rP10169, pr10170, h10167, rfl⟩ := hp
                have h10168 := HS.trans h10144 h10167 (by decide)
                have xP10169 := oP10169
                unfold OKP at xP10169
                unfold RA at rP10169
                refine m_aload_n F rfl e_X10_readLine_170 ?_
                refine m_dup F rfl e_X10_readLine_171 ?_
                refine r_get F e_X10_readLine_172 fl_X10_202 h10168 rfl (fun v hv f10171 => ?_)
                obtain ⟨x10172, rfl⟩ := hv
                refine m_iconst F (v := 1) (by decide) e_X10_readLine_175 ?_
                refine m_iadd F e_X10_readLine_176 ?_
                refine Wm.top (fun x10173 _ => ?_)
                refine r_put F (g' := (⟨T, Z, u, h, P10169, L⟩ : RG)) e_X10_readLine_177 fp_X10_202 h10168 (by decide) ⟨_, rfl⟩ (fun _ _ _ _ q => q) (fun _ _ _ q => q) rfl rfl (by decide) (fun σ10174 h10175 g10176 g10177 f10178 => ?_)
                have pg10179 := pr10170.of (g10177 23 (by decide)) (g10177 21 (by decide))
                exact m_vret F hQ e_X10_readLine_180 (⟨P10169, oP10169, (by unfold RP; omega), (pg10179.mono (by omega)), h10175, rfl⟩)
              · refine m_aload_n F rfl e_X10_readLine_161 ?_
                refine m_iconst F (v := 1) (by decide) e_X10_readLine_162 ?_
                refine r_callV F e_X10_readLine_163 (q_X10_wrong (x_l X) V c T Z u h P10145 L _ _ 1 h10144.1 (hob) oP10145 (by first | omega | assumption | decide)) cb_X10_wrong ml_X10_150 im_X10_wrong se_X10_wrong h10144 rfl rfl (rest := []) rfl (Nat.le_of_ble_eq_true rfl) ⟨Nat.le_of_ble_eq_true rfl, Nat.le_of_ble_eq_true rfl⟩ ⟨Nat.le_of_ble_eq_true rfl, Nat.le_of_ble_eq_true rfl⟩ (fun r σ10180 hp => ?_)
                obtain ⟨h10181, rfl⟩ := hp
                have h10182 := HS.trans h10144 h10181 (by decide)
                refine m_aload_n F rfl e_X10_readLine_166 ?_
                refine r_callV F e_X10_readLine_167 (q_X10_goOn (x_l X) V c T 0 u h P10145 L _ _  h10182.1 (hob) oP10145 ) cb_X10_goOn ml_X10_154 im_X10_goOn se_X10_goOn h10182 rfl rfl (rest := []) rfl (Nat.le_of_ble_eq_true rfl) ⟨Nat.le_of_ble_eq_true rfl, Nat.le_of_ble_eq_true rfl⟩ ⟨Nat.le_of_ble_eq_true rfl, Nat.le_of_ble_eq_true rfl⟩ (fun r σ10183 hp => ?_)
                obtain ⟨P10186, oP10186, rP10186, pr10187, h10184, rfl⟩ := hp
                have h10185 := HS.trans h10182 h10184 (by decide)
                have xP10186 := oP10186
                unfold OKP at xP10186
                unfold RA at rP10186
                refine m_aload_n F rfl e_X10_readLine_170 ?_
                refine m_dup F rfl e_X10_readLine_171 ?_
                refine r_get F e_X10_readLine_172 fl_X10_202 h10185 rfl (fun v hv f10188 => ?_)
                obtain ⟨x10189, rfl⟩ := hv
                refine m_iconst F (v := 1) (by decide) e_X10_readLine_175 ?_
                refine m_iadd F e_X10_readLine_176 ?_
                refine Wm.top (fun x10190 _ => ?_)
                refine r_put F (g' := (⟨T, 0, u, h, P10186, L⟩ : RG)) e_X10_readLine_177 fp_X10_202 h10185 (by decide) ⟨_, rfl⟩ (fun _ _ _ _ q => q) (fun _ _ _ q => q) rfl rfl (by decide) (fun σ10191 h10192 g10193 g10194 f10195 => ?_)
                have pg10196 := pr10187.of (g10194 23 (by decide)) (g10194 21 (by decide))
                have h10197 : HS V c _ [0, 2, 17, 18, 19, 20, 21, 22, 23] _ _ := ⟨HR.mono (Z' := Z) (by intro e; first | rfl | assumption | omega) h10192.1, h10192.2⟩
                exact m_vret F hQ e_X10_readLine_180 (⟨P10186, oP10186, (by unfold RP; omega), (pg10196.mono (by omega)), h10197, rfl⟩)
      · subst q34
        refine m_aload_n F rfl e_X10_readLine_37 ?_
        refine r_callV F e_X10_readLine_38 (q_X10_readPay (x_l X) V c T Z u h P L _ _  h1.1 (hob) hP ) cb_X10_readPay ml_X10_181 im_X10_readPay se_X10_readPay h1 rfl rfl (rest := []) rfl (Nat.le_of_ble_eq_true rfl) ⟨Nat.le_of_ble_eq_true rfl, Nat.le_of_ble_eq_true rfl⟩ ⟨Nat.le_of_ble_eq_true rfl, Nat.le_of_ble_eq_true rfl⟩ (fun r σ10198 hp => ?_)
        obtain ⟨P10201, oP10201, rP10201, h10199, rfl⟩ := hp
        have h10200 := HS.trans h1 h10199 (by decide)
        have xP10201 := oP10201
        unfold OKP at xP10201
        unfold RP at rP10201
        refine m_goto F e_X10_readLine_41 ?_
        refine m_aload_n F rfl e_X10_readLine_146 ?_
        refine r_get F e_X10_readLine_147 fl_X10_141 h10200 rfl (fun v hv f10202 => ?_)
        obtain ⟨x10203, hx10203, rfl⟩ := hv
        replace hx10203 : Z = 0 → x10203 ≠ 0 := hx10203
        refine m_if_ne F e_X10_readLine_150 (fun q150 => ?_) (fun q150 => ?_)
        · have h10204 := HS.z0 h10200 (f10202) q150
          refine m_aload_n F rfl e_X10_readLine_166 ?_
          refine r_callV F e_X10_readLine_167 (q_X10_goOn (x_l X) V c T 0 u h P10201 L _ _  h10204.1 (hob) oP10201 ) cb_X10_goOn ml_X10_154 im_X10_goOn se_X10_goOn h10204 rfl rfl (rest := []) rfl (Nat.le_of_ble_eq_true rfl) ⟨Nat.le_of_ble_eq_true rfl, Nat.le_of_ble_eq_true rfl⟩ ⟨Nat.le_of_ble_eq_true rfl, Nat.le_of_ble_eq_true rfl⟩ (fun r σ10205 hp => ?_)
          obtain ⟨P10208, oP10208, rP10208, pr10209, h10206, rfl⟩ := hp
          have h10207 := HS.trans h10204 h10206 (by decide)
          have xP10208 := oP10208
          unfold OKP at xP10208
          unfold RA at rP10208
          refine m_aload_n F rfl e_X10_readLine_170 ?_
          refine m_dup F rfl e_X10_readLine_171 ?_
          refine r_get F e_X10_readLine_172 fl_X10_202 h10207 rfl (fun v hv f10210 => ?_)
          obtain ⟨x10211, rfl⟩ := hv
          refine m_iconst F (v := 1) (by decide) e_X10_readLine_175 ?_
          refine m_iadd F e_X10_readLine_176 ?_
          refine Wm.top (fun x10212 _ => ?_)
          refine r_put F (g' := (⟨T, 0, u, h, P10208, L⟩ : RG)) e_X10_readLine_177 fp_X10_202 h10207 (by decide) ⟨_, rfl⟩ (fun _ _ _ _ q => q) (fun _ _ _ q => q) rfl rfl (by decide) (fun σ10213 h10214 g10215 g10216 f10217 => ?_)
          have pg10218 := pr10209.of (g10216 23 (by decide)) (g10216 21 (by decide))
          have h10219 : HS V c _ [0, 2, 17, 18, 19, 20, 21, 22, 23] _ _ := ⟨HR.mono (Z' := Z) (by intro e; first | rfl | assumption | omega) h10214.1, h10214.2⟩
          exact m_vret F hQ e_X10_readLine_180 (⟨P10208, oP10208, (by unfold RP; omega), (pg10218.mono (by omega)), h10219, rfl⟩)
        · subst q150
          refine m_aload_n F rfl e_X10_readLine_153 ?_
          refine r_get F e_X10_readLine_154 fl_X10_110 h10200 rfl (fun v hv f10220 => ?_)
          obtain ⟨x10221, rfl⟩ := hv
          refine m_iconst F (v := 3) (by decide) e_X10_readLine_157 ?_
          refine m_icmp_eq F e_X10_readLine_158 (fun q158 => ?_) (fun q158 => ?_)
          · subst q158
            refine m_aload_n F rfl e_X10_readLine_166 ?_
            refine r_callV F e_X10_readLine_167 (q_X10_goOn (x_l X) V c T Z u h P10201 L _ _  h10200.1 (hob) oP10201 ) cb_X10_goOn ml_X10_154 im_X10_goOn se_X10_goOn h10200 rfl rfl (rest := []) rfl (Nat.le_of_ble_eq_true rfl) ⟨Nat.le_of_ble_eq_true rfl, Nat.le_of_ble_eq_true rfl⟩ ⟨Nat.le_of_ble_eq_true rfl, Nat.le_of_ble_eq_true rfl⟩ (fun r σ10222 hp => ?_)
            obtain ⟨P10225, oP10225, rP10225, pr10226, h10223, rfl⟩ := hp
            have h10224 := HS.trans h10200 h10223 (by decide)
            have xP10225 := oP10225
            unfold OKP at xP10225
            unfold RA at rP10225
            refine m_aload_n F rfl e_X10_readLine_170 ?_
            refine m_dup F rfl e_X10_readLine_171 ?_
            refine r_get F e_X10_readLine_172 fl_X10_202 h10224 rfl (fun v hv f10227 => ?_)
            obtain ⟨x10228, rfl⟩ := hv
            refine m_iconst F (v := 1) (by decide) e_X10_readLine_175 ?_
            refine m_iadd F e_X10_readLine_176 ?_
            refine Wm.top (fun x10229 _ => ?_)
            refine r_put F (g' := (⟨T, Z, u, h, P10225, L⟩ : RG)) e_X10_readLine_177 fp_X10_202 h10224 (by decide) ⟨_, rfl⟩ (fun _ _ _ _ q => q) (fun _ _ _ q => q) rfl rfl (by decide) (fun σ10230 h10231 g10232 g10233 f10234 => ?_)
            have pg10235 := pr10226.of (g10233 23 (by decide)) (g10233 21 (by decide))
            exact m_vret F hQ e_X10_readLine_180 (⟨P10225, oP10225, (by unfold RP; omega), (pg10235.mono (by omega)), h10231, rfl⟩)
          · refine m_aload_n F rfl e_X10_readLine_161 ?_
            refine m_iconst F (v := 1) (by decide) e_X10_readLine_162 ?_
            refine r_callV F e_X10_readLine_163 (q_X10_wrong (x_l X) V c T Z u h P10201 L _ _ 1 h10200.1 (hob) oP10201 (by first | omega | assumption | decide)) cb_X10_wrong ml_X10_150 im_X10_wrong se_X10_wrong h10200 rfl rfl (rest := []) rfl (Nat.le_of_ble_eq_true rfl) ⟨Nat.le_of_ble_eq_true rfl, Nat.le_of_ble_eq_true rfl⟩ ⟨Nat.le_of_ble_eq_true rfl, Nat.le_of_ble_eq_true rfl⟩ (fun r σ10236 hp => ?_)
            obtain ⟨h10237, rfl⟩ := hp
            have h10238 := HS.trans h10200 h10237 (by decide)
            refine m_aload_n F rfl e_X10_readLine_166 ?_
            refine r_callV F e_X10_readLine_167 (q_X10_goOn (x_l X) V c T 0 u h P10201 L _ _  h10238.1 (hob) oP10201 ) cb_X10_goOn ml_X10_154 im_X10_goOn se_X10_goOn h10238 rfl rfl (rest := []) rfl (Nat.le_of_ble_eq_true rfl) ⟨Nat.le_of_ble_eq_true rfl, Nat.le_of_ble_eq_true rfl⟩ ⟨Nat.le_of_ble_eq_true rfl, Nat.le_of_ble_eq_true rfl⟩ (fun r σ10239 hp => ?_)
            obtain ⟨P10242, oP10242, rP10242, pr10243, h10240, rfl⟩ := hp
            have h10241 := HS.trans h10238 h10240 (by decide)
            have xP10242 := oP10242
            unfold OKP at xP10242
            unfold RA at rP10242
            refine m_aload_n F rfl e_X10_readLine_170 ?_
            refine m_dup F rfl e_X10_readLine_171 ?_
            refine r_get F e_X10_readLine_172 fl_X10_202 h10241 rfl (fun v hv f10244 => ?_)
            obtain ⟨x10245, rfl⟩ := hv
            refine m_iconst F (v := 1) (by decide) e_X10_readLine_175 ?_
            refine m_iadd F e_X10_readLine_176 ?_
            refine Wm.top (fun x10246 _ => ?_)
            refine r_put F (g' := (⟨T, 0, u, h, P10242, L⟩ : RG)) e_X10_readLine_177 fp_X10_202 h10241 (by decide) ⟨_, rfl⟩ (fun _ _ _ _ q => q) (fun _ _ _ q => q) rfl rfl (by decide) (fun σ10247 h10248 g10249 g10250 f10251 => ?_)
            have pg10252 := pr10243.of (g10250 23 (by decide)) (g10250 21 (by decide))
            have h10253 : HS V c _ [0, 2, 17, 18, 19, 20, 21, 22, 23] _ _ := ⟨HR.mono (Z' := Z) (by intro e; first | rfl | assumption | omega) h10248.1, h10248.2⟩
            exact m_vret F hQ e_X10_readLine_180 (⟨P10242, oP10242, (by unfold RP; omega), (pg10252.mono (by omega)), h10253, rfl⟩)
    · subst q19
      refine m_aload_n F rfl e_X10_readLine_22 ?_
      refine r_callV F e_X10_readLine_23 (q_X10_readLease (x_l X) V c T Z u h P L _ _  h1.1 (hob) hP ) cb_X10_readLease ml_X10_178 im_X10_readLease se_X10_readLease h1 rfl rfl (rest := []) rfl (Nat.le_of_ble_eq_true rfl) ⟨Nat.le_of_ble_eq_true rfl, Nat.le_of_ble_eq_true rfl⟩ ⟨Nat.le_of_ble_eq_true rfl, Nat.le_of_ble_eq_true rfl⟩ (fun r σ10254 hp => ?_)
      obtain ⟨P10257, oP10257, rP10257, h10255, rfl⟩ := hp
      have h10256 := HS.trans h1 h10255 (by decide)
      have xP10257 := oP10257
      unfold OKP at xP10257
      unfold RP at rP10257
      refine m_goto F e_X10_readLine_26 ?_
      refine m_aload_n F rfl e_X10_readLine_146 ?_
      refine r_get F e_X10_readLine_147 fl_X10_141 h10256 rfl (fun v hv f10258 => ?_)
      obtain ⟨x10259, hx10259, rfl⟩ := hv
      replace hx10259 : Z = 0 → x10259 ≠ 0 := hx10259
      refine m_if_ne F e_X10_readLine_150 (fun q150 => ?_) (fun q150 => ?_)
      · have h10260 := HS.z0 h10256 (f10258) q150
        refine m_aload_n F rfl e_X10_readLine_166 ?_
        refine r_callV F e_X10_readLine_167 (q_X10_goOn (x_l X) V c T 0 u h P10257 L _ _  h10260.1 (hob) oP10257 ) cb_X10_goOn ml_X10_154 im_X10_goOn se_X10_goOn h10260 rfl rfl (rest := []) rfl (Nat.le_of_ble_eq_true rfl) ⟨Nat.le_of_ble_eq_true rfl, Nat.le_of_ble_eq_true rfl⟩ ⟨Nat.le_of_ble_eq_true rfl, Nat.le_of_ble_eq_true rfl⟩ (fun r σ10261 hp => ?_)
        obtain ⟨P10264, oP10264, rP10264, pr10265, h10262, rfl⟩ := hp
        have h10263 := HS.trans h10260 h10262 (by decide)
        have xP10264 := oP10264
        unfold OKP at xP10264
        unfold RA at rP10264
        refine m_aload_n F rfl e_X10_readLine_170 ?_
        refine m_dup F rfl e_X10_readLine_171 ?_
        refine r_get F e_X10_readLine_172 fl_X10_202 h10263 rfl (fun v hv f10266 => ?_)
        obtain ⟨x10267, rfl⟩ := hv
        refine m_iconst F (v := 1) (by decide) e_X10_readLine_175 ?_
        refine m_iadd F e_X10_readLine_176 ?_
        refine Wm.top (fun x10268 _ => ?_)
        refine r_put F (g' := (⟨T, 0, u, h, P10264, L⟩ : RG)) e_X10_readLine_177 fp_X10_202 h10263 (by decide) ⟨_, rfl⟩ (fun _ _ _ _ q => q) (fun _ _ _ q => q) rfl rfl (by decide) (fun σ10269 h10270 g10271 g10272 f10273 => ?_)
        have pg10274 := pr10265.of (g10272 23 (by decide)) (g10272 21 (by decide))
        have h10275 : HS V c _ [0, 2, 17, 18, 19, 20, 21, 22, 23] _ _ := ⟨HR.mono (Z' := Z) (by intro e; first | rfl | assumption | omega) h10270.1, h10270.2⟩
        exact m_vret F hQ e_X10_readLine_180 (⟨P10264, oP10264, (by unfold RP; omega), (pg10274.mono (by omega)), h10275, rfl⟩)
      · subst q150
        refine m_aload_n F rfl e_X10_readLine_153 ?_
        refine r_get F e_X10_readLine_154 fl_X10_110 h10256 rfl (fun v hv f10276 => ?_)
        obtain ⟨x10277, rfl⟩ := hv
        refine m_iconst F (v := 3) (by decide) e_X10_readLine_157 ?_
        refine m_icmp_eq F e_X10_readLine_158 (fun q158 => ?_) (fun q158 => ?_)
        · subst q158
          refine m_aload_n F rfl e_X10_readLine_166 ?_
          refine r_callV F e_X10_readLine_167 (q_X10_goOn (x_l X) V c T Z u h P10257 L _ _  h10256.1 (hob) oP10257 ) cb_X10_goOn ml_X10_154 im_X10_goOn se_X10_goOn h10256 rfl rfl (rest := []) rfl (Nat.le_of_ble_eq_true rfl) ⟨Nat.le_of_ble_eq_true rfl, Nat.le_of_ble_eq_true rfl⟩ ⟨Nat.le_of_ble_eq_true rfl, Nat.le_of_ble_eq_true rfl⟩ (fun r σ10278 hp => ?_)
          obtain ⟨P10281, oP10281, rP10281, pr10282, h10279, rfl⟩ := hp
          have h10280 := HS.trans h10256 h10279 (by decide)
          have xP10281 := oP10281
          unfold OKP at xP10281
          unfold RA at rP10281
          refine m_aload_n F rfl e_X10_readLine_170 ?_
          refine m_dup F rfl e_X10_readLine_171 ?_
          refine r_get F e_X10_readLine_172 fl_X10_202 h10280 rfl (fun v hv f10283 => ?_)
          obtain ⟨x10284, rfl⟩ := hv
          refine m_iconst F (v := 1) (by decide) e_X10_readLine_175 ?_
          refine m_iadd F e_X10_readLine_176 ?_
          refine Wm.top (fun x10285 _ => ?_)
          refine r_put F (g' := (⟨T, Z, u, h, P10281, L⟩ : RG)) e_X10_readLine_177 fp_X10_202 h10280 (by decide) ⟨_, rfl⟩ (fun _ _ _ _ q => q) (fun _ _ _ q => q) rfl rfl (by decide) (fun σ10286 h10287 g10288 g10289 f10290 => ?_)
          have pg10291 := pr10282.of (g10289 23 (by decide)) (g10289 21 (by decide))
          exact m_vret F hQ e_X10_readLine_180 (⟨P10281, oP10281, (by unfold RP; omega), (pg10291.mono (by omega)), h10287, rfl⟩)
        · refine m_aload_n F rfl e_X10_readLine_161 ?_
          refine m_iconst F (v := 1) (by decide) e_X10_readLine_162 ?_
          refine r_callV F e_X10_readLine_163 (q_X10_wrong (x_l X) V c T Z u h P10257 L _ _ 1 h10256.1 (hob) oP10257 (by first | omega | assumption | decide)) cb_X10_wrong ml_X10_150 im_X10_wrong se_X10_wrong h10256 rfl rfl (rest := []) rfl (Nat.le_of_ble_eq_true rfl) ⟨Nat.le_of_ble_eq_true rfl, Nat.le_of_ble_eq_true rfl⟩ ⟨Nat.le_of_ble_eq_true rfl, Nat.le_of_ble_eq_true rfl⟩ (fun r σ10292 hp => ?_)
          obtain ⟨h10293, rfl⟩ := hp
          have h10294 := HS.trans h10256 h10293 (by decide)
          refine m_aload_n F rfl e_X10_readLine_166 ?_
          refine r_callV F e_X10_readLine_167 (q_X10_goOn (x_l X) V c T 0 u h P10257 L _ _  h10294.1 (hob) oP10257 ) cb_X10_goOn ml_X10_154 im_X10_goOn se_X10_goOn h10294 rfl rfl (rest := []) rfl (Nat.le_of_ble_eq_true rfl) ⟨Nat.le_of_ble_eq_true rfl, Nat.le_of_ble_eq_true rfl⟩ ⟨Nat.le_of_ble_eq_true rfl, Nat.le_of_ble_eq_true rfl⟩ (fun r σ10295 hp => ?_)
          obtain ⟨P10298, oP10298, rP10298, pr10299, h10296, rfl⟩ := hp
          have h10297 := HS.trans h10294 h10296 (by decide)
          have xP10298 := oP10298
          unfold OKP at xP10298
          unfold RA at rP10298
          refine m_aload_n F rfl e_X10_readLine_170 ?_
          refine m_dup F rfl e_X10_readLine_171 ?_
          refine r_get F e_X10_readLine_172 fl_X10_202 h10297 rfl (fun v hv f10300 => ?_)
          obtain ⟨x10301, rfl⟩ := hv
          refine m_iconst F (v := 1) (by decide) e_X10_readLine_175 ?_
          refine m_iadd F e_X10_readLine_176 ?_
          refine Wm.top (fun x10302 _ => ?_)
          refine r_put F (g' := (⟨T, 0, u, h, P10298, L⟩ : RG)) e_X10_readLine_177 fp_X10_202 h10297 (by decide) ⟨_, rfl⟩ (fun _ _ _ _ q => q) (fun _ _ _ q => q) rfl rfl (by decide) (fun σ10303 h10304 g10305 g10306 f10307 => ?_)
          have pg10308 := pr10299.of (g10306 23 (by decide)) (g10306 21 (by decide))
          have h10309 : HS V c _ [0, 2, 17, 18, 19, 20, 21, 22, 23] _ _ := ⟨HR.mono (Z' := Z) (by intro e; first | rfl | assumption | omega) h10304.1, h10304.2⟩
          exact m_vret F hQ e_X10_readLine_180 (⟨P10298, oP10298, (by unfold RP; omega), (pg10308.mono (by omega)), h10309, rfl⟩)
  · refine m_aload_n F rfl e_X10_readLine_7 ?_
    refine m_iconst F (v := 1) (by decide) e_X10_readLine_8 ?_
    refine r_callV F e_X10_readLine_9 (q_X10_wrong (x_l X) V c T Z u h P L _ _ 1 h1.1 (hob) hP (by first | omega | assumption | decide)) cb_X10_wrong ml_X10_150 im_X10_wrong se_X10_wrong h1 rfl rfl (rest := []) rfl (Nat.le_of_ble_eq_true rfl) ⟨Nat.le_of_ble_eq_true rfl, Nat.le_of_ble_eq_true rfl⟩ ⟨Nat.le_of_ble_eq_true rfl, Nat.le_of_ble_eq_true rfl⟩ (fun r σ10310 hp => ?_)
    obtain ⟨h10311, rfl⟩ := hp
    have h10312 := HS.trans h1 h10311 (by decide)
    refine m_goto F e_X10_readLine_12 ?_
    refine m_aload_n F rfl e_X10_readLine_146 ?_
    refine r_get F e_X10_readLine_147 fl_X10_141 h10312 rfl (fun v hv f10313 => ?_)
    obtain ⟨x10314, hx10314, rfl⟩ := hv
    replace hx10314 : 0 = 0 → x10314 ≠ 0 := hx10314
    refine m_if_ne F e_X10_readLine_150 (fun q150 => ?_) (fun q150 => ?_)
    · have h10315 := HS.z0 h10312 (f10313) q150
      refine m_aload_n F rfl e_X10_readLine_166 ?_
      refine r_callV F e_X10_readLine_167 (q_X10_goOn (x_l X) V c T 0 u h P L _ _  h10315.1 (hob) hP ) cb_X10_goOn ml_X10_154 im_X10_goOn se_X10_goOn h10315 rfl rfl (rest := []) rfl (Nat.le_of_ble_eq_true rfl) ⟨Nat.le_of_ble_eq_true rfl, Nat.le_of_ble_eq_true rfl⟩ ⟨Nat.le_of_ble_eq_true rfl, Nat.le_of_ble_eq_true rfl⟩ (fun r σ10316 hp => ?_)
      obtain ⟨P10319, oP10319, rP10319, pr10320, h10317, rfl⟩ := hp
      have h10318 := HS.trans h10315 h10317 (by decide)
      have xP10319 := oP10319
      unfold OKP at xP10319
      unfold RA at rP10319
      refine m_aload_n F rfl e_X10_readLine_170 ?_
      refine m_dup F rfl e_X10_readLine_171 ?_
      refine r_get F e_X10_readLine_172 fl_X10_202 h10318 rfl (fun v hv f10321 => ?_)
      obtain ⟨x10322, rfl⟩ := hv
      refine m_iconst F (v := 1) (by decide) e_X10_readLine_175 ?_
      refine m_iadd F e_X10_readLine_176 ?_
      refine Wm.top (fun x10323 _ => ?_)
      refine r_put F (g' := (⟨T, 0, u, h, P10319, L⟩ : RG)) e_X10_readLine_177 fp_X10_202 h10318 (by decide) ⟨_, rfl⟩ (fun _ _ _ _ q => q) (fun _ _ _ q => q) rfl rfl (by decide) (fun σ10324 h10325 g10326 g10327 f10328 => ?_)
      have pg10329 := pr10320.of (g10327 23 (by decide)) (g10327 21 (by decide))
      have h10330 : HS V c _ [0, 2, 17, 18, 19, 20, 21, 22, 23] _ _ := ⟨HR.mono (Z' := Z) (by intro e; first | rfl | assumption | omega) h10325.1, h10325.2⟩
      exact m_vret F hQ e_X10_readLine_180 (⟨P10319, oP10319, (by unfold RP; omega), (pg10329.mono (by omega)), h10330, rfl⟩)
    · first | exact absurd q150 (hx10314 rfl) | contradiction
set_option maxRecDepth 20000 in
theorem q_X10_freshText (l : Launch) (V : VX) (c T Z u h : Nat) (P : NP) (L : Nat → LQ) (N : Nat) (σ : Mem)  (h0 : HR V c ⟨T, Z, u, h, P, L⟩ σ) (hob : OKB L) (hP : OKP P)  : Ct l V yX10_freshText cX10_freshText 2 none 1 0 0 N σ [.ref c] (fun r τ => ∃ P9 : NP, OKP P9 ∧ RP P P9 ∧ HS V c (⟨T, Z, u, h, P9, L⟩ : RG) [0, 1, 2, 4, 5, 6, 7, 8, 9, 10, 11, 12, 13, 14, 15, 16, 17, 18, 19, 20, 21, 22, 23] σ τ ∧ r = none) := by
  refine Ct.of (by decide) (Nat.le_of_ble_eq_true rfl) [(0, .ref c)] rfl (fun X hX F hQ => ?_)
  have hPP := hP
  unfold OKP at hPP
  have h1 : HS V c ⟨T, Z, u, h, P, L⟩ [0, 1, 2, 4, 5, 6, 7, 8, 9, 10, 11, 12, 13, 14, 15, 16, 17, 18, 19, 20, 21, 22, 23] σ σ := HS.start h0
  refine m_iconst F (v := 0) (by decide) e_X10_freshText_0 ?_
  refine m_istore_n F (lv' := [(1, .int 0), (0, .ref c)]) e_X10_freshText_1 (by decide) rfl ?_
  refine m_iload_n F rfl e_X10_freshText_2 ?_
  refine m_iconst F (v := 5) (by decide) e_X10_freshText_3 ?_
  refine m_icmp_ge F e_X10_freshText_4 (fun q => absurd q (by decide)) (fun _ => ?_)
  refine m_aload_n F rfl e_X10_freshText_7 ?_
  refine m_iload_n F rfl e_X10_freshText_8 ?_
  refine m_iconst F (v := 0) (by decide) e_X10_freshText_9 ?_
  refine r_callV F e_X10_freshText_10 (q_X10_reads0 (x_l X) V c T Z u h P L _ _ 0 h1.1 (hob) hP (by omega) (by first | omega | assumption | decide)) cb_X10_reads ml_X10_170 im_X10_reads se_X10_reads h1 rfl rfl (rest := []) rfl (Nat.le_of_ble_eq_true rfl) ⟨Nat.le_of_ble_eq_true rfl, Nat.le_of_ble_eq_true rfl⟩ ⟨Nat.le_of_ble_eq_true rfl, Nat.le_of_ble_eq_true rfl⟩ (fun r σ10331 hp => ?_)
  obtain ⟨h10332, rfl⟩ := hp
  have h10333 := HS.trans h1 h10332 (by decide)
  obtain ⟨P10334, eP10334⟩ : ∃ P9, P9 = (mkP P.n0 P.n2 0 P.n7 P.m0 P.m5 P.w2 P.w7 P.kk P.a) := ⟨_, rfl⟩
  rw [← eP10334] at h10333
  have fP10334 : P10334.n0 = P.n0 ∧ P10334.n2 = P.n2 ∧ P10334.n5 = 0 ∧ P10334.n7 = P.n7 ∧ P10334.m0 = P.m0 ∧ P10334.m5 = P.m5 ∧ P10334.w2 = P.w2 ∧ P10334.w7 = P.w7 ∧ P10334.kk = P.kk ∧ P10334.a = P.a := by rw [eP10334]; exact ⟨rfl, rfl, rfl, rfl, rfl, rfl, rfl, rfl, rfl, rfl⟩
  refine m_iinc F (v := 1) (lv' := [(1, .int 1), (0, .ref c)]) e_X10_freshText_13 rfl (by decide) (by decide) rfl ?_
  refine m_goto F e_X10_freshText_16 ?_
  refine m_iload_n F rfl e_X10_freshText_2 ?_
  refine m_iconst F (v := 5) (by decide) e_X10_freshText_3 ?_
  refine m_icmp_ge F e_X10_freshText_4 (fun q => absurd q (by decide)) (fun _ => ?_)
  refine m_aload_n F rfl e_X10_freshText_7 ?_
  refine m_iload_n F rfl e_X10_freshText_8 ?_
  refine m_iconst F (v := 0) (by decide) e_X10_freshText_9 ?_
  have oP10338 : OKP P10334 := by unfold OKP; omega
  refine r_callV F e_X10_freshText_10 (q_X10_reads1 (x_l X) V c T Z u h P10334 L _ _ 0 h10333.1 (hob) oP10338 ) cb_X10_reads ml_X10_170 im_X10_reads se_X10_reads h10333 rfl rfl (rest := []) rfl (Nat.le_of_ble_eq_true rfl) ⟨Nat.le_of_ble_eq_true rfl, Nat.le_of_ble_eq_true rfl⟩ ⟨Nat.le_of_ble_eq_true rfl, Nat.le_of_ble_eq_true rfl⟩ (fun r σ10335 hp => ?_)
  obtain ⟨h10336, rfl⟩ := hp
  have h10337 := HS.trans h10333 h10336 (by decide)
  refine m_iinc F (v := 2) (lv' := [(1, .int 2), (0, .ref c)]) e_X10_freshText_13 rfl (by decide) (by decide) rfl ?_
  refine m_goto F e_X10_freshText_16 ?_
  refine m_iload_n F rfl e_X10_freshText_2 ?_
  refine m_iconst F (v := 5) (by decide) e_X10_freshText_3 ?_
  refine m_icmp_ge F e_X10_freshText_4 (fun q => absurd q (by decide)) (fun _ => ?_)
  refine m_aload_n F rfl e_X10_freshText_7 ?_
  refine m_iload_n F rfl e_X10_freshText_8 ?_
  refine m_iconst F (v := 0) (by decide) e_X10_freshText_9 ?_
  refine r_callV F e_X10_freshText_10 (q_X10_reads2 (x_l X) V c T Z u h P10334 L _ _ 0 h10337.1 (hob) oP10338 (by omega) (by first | omega | assumption | decide)) cb_X10_reads ml_X10_170 im_X10_reads se_X10_reads h10337 rfl rfl (rest := []) rfl (Nat.le_of_ble_eq_true rfl) ⟨Nat.le_of_ble_eq_true rfl, Nat.le_of_ble_eq_true rfl⟩ ⟨Nat.le_of_ble_eq_true rfl, Nat.le_of_ble_eq_true rfl⟩ (fun r σ10339 hp => ?_)
  obtain ⟨h10340, rfl⟩ := hp
  have h10341 := HS.trans h10337 h10340 (by decide)
  obtain ⟨P10342, eP10342⟩ : ∃ P9, P9 = (mkP P10334.n0 P10334.n2 P10334.n5 0 P10334.m0 P10334.m5 P10334.w2 P10334.w7 P10334.kk P10334.a) := ⟨_, rfl⟩
  rw [← eP10342] at h10341
  have fP10342 : P10342.n0 = P10334.n0 ∧ P10342.n2 = P10334.n2 ∧ P10342.n5 = P10334.n5 ∧ P10342.n7 = 0 ∧ P10342.m0 = P10334.m0 ∧ P10342.m5 = P10334.m5 ∧ P10342.w2 = P10334.w2 ∧ P10342.w7 = P10334.w7 ∧ P10342.kk = P10334.kk ∧ P10342.a = P10334.a := by rw [eP10342]; exact ⟨rfl, rfl, rfl, rfl, rfl, rfl, rfl, rfl, rfl, rfl⟩
  refine m_iinc F (v := 3) (lv' := [(1, .int 3), (0, .ref c)]) e_X10_freshText_13 rfl (by decide) (by decide) rfl ?_
  refine m_goto F e_X10_freshText_16 ?_
  refine m_iload_n F rfl e_X10_freshText_2 ?_
  refine m_iconst F (v := 5) (by decide) e_X10_freshText_3 ?_
  refine m_icmp_ge F e_X10_freshText_4 (fun q => absurd q (by decide)) (fun _ => ?_)
  refine m_aload_n F rfl e_X10_freshText_7 ?_
  refine m_iload_n F rfl e_X10_freshText_8 ?_
  refine m_iconst F (v := 0) (by decide) e_X10_freshText_9 ?_
  have oP10346 : OKP P10342 := by unfold OKP; omega
  refine r_callV F e_X10_freshText_10 (q_X10_reads3 (x_l X) V c T Z u h P10342 L _ _ 0 h10341.1 (hob) oP10346 (by omega)) cb_X10_reads ml_X10_170 im_X10_reads se_X10_reads h10341 rfl rfl (rest := []) rfl (Nat.le_of_ble_eq_true rfl) ⟨Nat.le_of_ble_eq_true rfl, Nat.le_of_ble_eq_true rfl⟩ ⟨Nat.le_of_ble_eq_true rfl, Nat.le_of_ble_eq_true rfl⟩ (fun r σ10343 hp => ?_)
  obtain ⟨h10344, rfl⟩ := hp
  have h10345 := HS.trans h10341 h10344 (by decide)
  refine m_iinc F (v := 4) (lv' := [(1, .int 4), (0, .ref c)]) e_X10_freshText_13 rfl (by decide) (by decide) rfl ?_
  refine m_goto F e_X10_freshText_16 ?_
  refine m_iload_n F rfl e_X10_freshText_2 ?_
  refine m_iconst F (v := 5) (by decide) e_X10_freshText_3 ?_
  refine m_icmp_ge F e_X10_freshText_4 (fun q => absurd q (by decide)) (fun _ => ?_)
  refine m_aload_n F rfl e_X10_freshText_7 ?_
  refine m_iload_n F rfl e_X10_freshText_8 ?_
  refine m_iconst F (v := 0) (by decide) e_X10_freshText_9 ?_
  refine r_callV F e_X10_freshText_10 (q_X10_reads4 (x_l X) V c T Z u h P10342 L _ _ 0 h10345.1 (hob) oP10346 ) cb_X10_reads ml_X10_170 im_X10_reads se_X10_reads h10345 rfl rfl (rest := []) rfl (Nat.le_of_ble_eq_true rfl) ⟨Nat.le_of_ble_eq_true rfl, Nat.le_of_ble_eq_true rfl⟩ ⟨Nat.le_of_ble_eq_true rfl, Nat.le_of_ble_eq_true rfl⟩ (fun r σ10347 hp => ?_)
  obtain ⟨h10348, rfl⟩ := hp
  have h10349 := HS.trans h10345 h10348 (by decide)
  refine m_iinc F (v := 5) (lv' := [(1, .int 5), (0, .ref c)]) e_X10_freshText_13 rfl (by decide) (by decide) rfl ?_
  refine m_goto F e_X10_freshText_16 ?_
  refine m_iload_n F rfl e_X10_freshText_2 ?_
  refine m_iconst F (v := 5) (by decide) e_X10_freshText_3 ?_
  refine m_icmp_ge F e_X10_freshText_4 (fun _ => ?_) (fun q => absurd (by decide) q)
  exact m_vret F hQ e_X10_freshText_19 (⟨P10342, oP10346, (by unfold RP; omega), h10349, rfl⟩)
