/-! heap typing of the reference: its cells from c on: 0 the object, 1 .. 22 its rows. Ghosts RG: taped; Z (0: fault isn't 0); number[0], [2], [5], [7]; for how many LEASES term[] is 1 or more (held, read), for how many changes changeTo[] is; undoable; hasImage; of each LEASE of s STATE, TERM, BASE, GONE -/
abbrev LQ : Type := Nat × Nat × Nat × Nat
abbrev NP : Type := Nat × Nat × Nat × Nat × Nat × Nat × Nat × Nat × Nat × Nat × Nat × Nat × Nat × Nat
abbrev NP.n0 (p : NP) : Nat := p.1
abbrev NP.n2 (p : NP) : Nat := p.2.1
abbrev NP.n5 (p : NP) : Nat := p.2.2.1
abbrev NP.n7 (p : NP) : Nat := p.2.2.2.1
abbrev NP.m0 (p : NP) : Nat := p.2.2.2.2.1
abbrev NP.m5 (p : NP) : Nat := p.2.2.2.2.2.1
abbrev NP.w2 (p : NP) : Nat := p.2.2.2.2.2.2.1
abbrev NP.w7 (p : NP) : Nat := p.2.2.2.2.2.2.2.1
abbrev NP.kk (p : NP) : Nat := p.2.2.2.2.2.2.2.2.1
abbrev NP.a (p : NP) : Nat := p.2.2.2.2.2.2.2.2.2.1
abbrev NP.b0 (p : NP) : Nat := p.2.2.2.2.2.2.2.2.2.2.1
abbrev NP.b1 (p : NP) : Nat := p.2.2.2.2.2.2.2.2.2.2.2.1
abbrev NP.b2 (p : NP) : Nat := p.2.2.2.2.2.2.2.2.2.2.2.2.1
abbrev NP.b3 (p : NP) : Nat := p.2.2.2.2.2.2.2.2.2.2.2.2.2
/-- the names that are held, by their numbers -/
def bsel (g : NP) (i : Nat) : Nat := if i = 0 then g.b0 else if i = 1 then g.b1 else if i = 2 then g.b2 else g.b3
abbrev RG : Type := Nat × Nat × Nat × Nat × NP × (Nat → LQ)
abbrev RG.T (g : RG) : Nat := g.1
abbrev RG.Z (g : RG) : Nat := g.2.1
abbrev RG.u (g : RG) : Nat := g.2.2.1
abbrev RG.h (g : RG) : Nat := g.2.2.2.1
abbrev RG.P (g : RG) : NP := g.2.2.2.2.1
abbrev RG.L (g : RG) : Nat → LQ := g.2.2.2.2.2
def kC (c a : Nat) : Nat := if a < c then 0 else if a - c < 23 then a - c + 1 else 0
def bN (q : Nat) (x : Int32) : Prop := ∃ n : Nat, n ≤ q ∧ x = nI n
def EI (g : NP) (k i : Nat) (x : Int32) : Prop := match k with
  | 3 => (i = 0 → x = nI g.n0) ∧ (i = 2 → x = nI g.n2) ∧ (i = 5 → x = nI g.n5) ∧ (i = 7 → x = nI g.n7) ∧ (i = 3 → bN 4 x) ∧ (i = 8 → bN 4 x)
  | 4 => i < 4 → x = nI (bsel g i)
  | 6 => ∃ n : Nat, n ≤ 48 ∧ x = nI n ∧ (i < 4 → i < g.m0 → 1 ≤ n) ∧ (4 ≤ i → i < 4 + g.m5 → 1 ≤ n)
  | 7 => bN 200000 x
  | 12 => bN 99 x
  | 13 => ∃ n : Nat, n ≤ 2000 ∧ x = nI n ∧ (i < 8 → i < g.w2 → 1 ≤ n) ∧ (8 ≤ i → i < 8 + g.w7 → 1 ≤ n)
  | 14 => bN 3 x
  | 15 => bN 24 x
  | 22 => bN 1 x
  | _ => True
def EL (q : LQ) (r : Nat) (x : Int64) : Prop := match r with
  | 0 => x = lN q.1
  | 1 => x = lN q.2.1
  | 2 => ∃ n : Nat, n ≤ 1000000 ∧ x = lN n
  | 3 => x = lN q.2.2.1
  | 5 => x = lN q.2.2.2
  | _ => True
def EJ (L : Nat → LQ) (i : Nat) (x : Int64) : Prop := if i < 640 then EL (L (i / 160)) (i % 160) x else if i < 644 then True else if i < 744 then (∃ n : Nat, 1 ≤ n ∧ n ≤ 2000 ∧ x = lN n) else if i = 744 then x = lN (L 4).1 else if i = 751 then (∃ n : Nat, n ≤ 40 ∧ x = lN n) else True
def OKL (n : Nat) (L : Nat → LQ) : Prop := (L 4).1 ≤ 99 ∧ ∀ l, l < 4 → (L l).1 ≤ 2 ∧ (L l).2.1 ≤ 72 ∧ (L l).2.2.1 ≤ 2000 ∧ (L l).2.2.2 ≤ 72 ∧ ((L l).1 = 1 → (L l).2.2.2 < (L l).2.1 ∧ 1 ≤ (L l).2.2.1) ∧ ((L l).1 = 0 → (L l).2.2.2 = 0) ∧ (l < n → 1 ≤ (L l).2.1)
def OKP (P : NP) : Prop := P.n0 ≤ 4 ∧ P.n2 ≤ 8 ∧ P.n5 ≤ 4 ∧ P.n7 ≤ 8 ∧ P.n5 ≤ P.m5 ∧ P.n7 ≤ P.w7 ∧ P.a ≤ 700
def GR (n : Nat) (f : Nat → Int64) : Prop := ∃ L, OKL n L ∧ ∀ i, i < 1113 → EJ L i (f i)
def TyW (c : Nat) (g : RG) (t : Nat × Nat) (v : Value) : Prop := match t.1 with
  | 0 => ∃ x : Int32, v = .int x
  | 1 => ∃ n : Nat, n ≤ t.2 ∧ v = .int (nI n)
  | 3 => v = .ref (c + t.2)
  | 5 => ∃ x : Int32, (g.Z = 0 → x ≠ 0) ∧ v = .int x
  | 6 => v = .int (nI g.T)
  | 7 => v = .int (nI g.u)
  | 8 => v = .int (nI g.h)
  | 9 => v = .int (nI g.P.a)
  | _ => False
abbrev rL : List (Nat × Nat) := [(0, 0), (3, 1), (6, 0), (3, 2), (3, 3), (3, 4), (3, 5), (3, 6), (3, 7), (3, 8), (3, 9), (3, 10), (3, 11), (3, 12), (3, 13), (3, 14), (3, 15), (0, 0), (1, 700), (9, 0), (1, 700), (0, 0), (0, 0), (5, 0), (0, 0), (0, 0), (0, 0), (3, 16), (3, 17), (3, 18), (3, 19), (3, 20), (7, 0), (8, 0), (3, 21), (3, 22), (0, 0)]
def TyO (c : Nat) (g : RG) (fs : List Value) : Prop := fs.length = rL.length ∧ ∀ (j : Nat) (t : Nat × Nat), rL[j]? = some t → ∃ v, fs[j]? = some v ∧ TyW c g t v
def lnI (k : Nat) : Nat := match k with
  | 2 => 700
  | 3 => 10
  | 11 => 384
  | 12 => 16
  | 13 => 16
  | _ => 8
def CR (V : VX) (c : Nat) (g : RG) (k : Nat) (e : Option va_E) : Prop := match k with
  | 0 => True
  | 1 => ∃ fs, e = some (ob 8 fs) ∧ TyO c g fs
  | 17 => ∃ f, e = some (aJ V 1113 f) ∧ ∀ i, i < 1113 → EJ g.L i (f i)
  | 18 => ∃ f, e = some (aJ V 1113 f)
  | 19 => ∃ f, e = some (aJ V 1113 f)
  | 20 => ∃ f, e = some (aJ V 1113 f) ∧ (g.h = 1 → GR g.P.kk f)
  | 21 => ∃ f, e = some (aJ V 22260 f) ∧ ∀ j, j < g.u → GR g.P.kk (fun i => f (1113 * j + i))
  | 22 => ∃ f, e = some (aZ V 4 f) ∧ ∀ i, i < 4 → EI g.P 22 i (f i)
  | 23 => ∃ f, e = some (aJ V 6 f)
  | k => ∃ f, e = some (aI V (lnI k) f) ∧ ∀ i, i < lnI k → EI g.P k i (f i)
def HR (V : VX) (c : Nat) (g : RG) (σ : Mem) : Prop := ∀ a, CR V c g (kC c a) (σ a)
/-- typed behind, and the cells of some kinds as they were; 0: all that isn't the reference's -/
def HS (V : VX) (c : Nat) (g : RG) (ks : List Nat) (σ0 σ : Mem) : Prop := HR V c g σ ∧ ∀ a, kC c a ∈ ks → σ a = σ0 a
theorem HS.start {V : VX} {c : Nat} {g : RG} {ks : List Nat} {σ : Mem} (h : HR V c g σ) : HS V c g ks σ σ := ⟨h, fun _ _ => rfl⟩
theorem HS.trans {V : VX} {c : Nat} {g g' : RG} {ks ks' : List Nat} {σ0 σ τ : Mem} (h : HS V c g ks σ0 σ) (h' : HS V c g' ks' σ τ) (hs : ∀ k ∈ ks, k ∈ ks') : HS V c g' ks σ0 τ := ⟨h'.1, fun a ha => (h'.2 a (hs _ ha)).trans (h.2 a ha)⟩
theorem kC_at {c k : Nat} (h : k < 23) : kC c (c + k) = k + 1 := by
  unfold kC
  rw [if_neg (by omega), if_pos (by omega)]
  omega
theorem kC_un {c a k : Nat} (h : kC c a = k + 1) : a = c + k := by
  unfold kC at h
  split at h
  · omega
  · split at h <;> omega
theorem HR.cell {V : VX} {c k : Nat} {g : RG} {σ : Mem} (h : HR V c g σ) (hk : k < 23) : CR V c g (k + 1) (σ (c + k)) := by
  have h1 := h (c + k)
  rw [kC_at hk] at h1
  exact h1
/-- one cell is written, the ghosts may change: the others are typed by the new ones as they were -/
theorem HS.up {V : VX} {c k : Nat} {g g' : RG} {ks : List Nat} {σ0 σ : Mem} {e : va_E} (h : HS V c g ks σ0 σ) (hk : k < 23) (hq : k + 1 ∉ ks) (hc : CR V c g' (k + 1) (some e)) (ho : ∀ j, j ≠ k + 1 → ∀ x, CR V c g j x → CR V c g' j x) : HS V c g' ks σ0 (va_up σ (c + k) (some e)) := by
  refine ⟨fun a => ?_, fun a ha => ?_⟩
  · by_cases ha : a = c + k
    · subst ha; rw [va_up_self, kC_at hk]; exact hc
    · rw [va_up_ne _ _ ha]; exact ho _ (fun q => ha (kC_un q)) _ (h.1 a)
  · have hne : a ≠ c + k := fun q => hq (by rw [q, kC_at hk] at ha; exact ha)
    rw [va_up_ne _ _ hne]; exact h.2 a ha
theorem TyO.set {c : Nat} {g : RG} {fs : List Value} (h : TyO c g fs) {j : Nat} {t : Nat × Nat} {v : Value} (hj : rL[j]? = some t) (hv : TyW c g t v) : TyO c g (fs.set j v) := by
  refine ⟨by rw [List.length_set]; exact h.1, fun i u hu => ?_⟩
  by_cases hij : j = i
  · subst hij
    rw [hj] at hu
    cases hu
    have hl : j < fs.length := by rw [h.1]; exact (List.getElem?_eq_some_iff.mp hj).1
    exact ⟨v, by rw [List.getElem?_set_self hl], hv⟩
  · obtain ⟨w, h1, h2⟩ := h.2 i u hu
    exact ⟨w, by rw [List.getElem?_set_ne hij]; exact h1, h2⟩
/-- elements of s: of a LEASE, of the INDEX, PERIOD, MANY, and the rest -/
theorem EJ_l {L : Nat → LQ} {l r : Nat} {x : Int64} (hl : l < 4) (hr : r < 160) : EJ L (160 * l + r) x ↔ EL (L l) r x := by
  unfold EJ
  rw [if_pos (by omega), show (160 * l + r) / 160 = l by omega, show (160 * l + r) % 160 = r by omega]
theorem EL_w {q : LQ} {r : Nat} {x : Int64} (h : r = 4 ∨ 6 ≤ r) : EL q r x := by
  unfold EL
  split <;> first | trivial | omega
theorem EJ_lw {L : Nat → LQ} {i l r : Nat} {x : Int64} (hi : i = 160 * l + r) (hl : l < 4) (hr : (r = 4 ∨ 6 ≤ r) ∧ r < 160) : EJ L i x := by
  subst hi
  exact (EJ_l hl hr.2).mpr (EL_w hr.1)
theorem EJ_i {L : Nat → LQ} {p : Nat} {x : Int64} (hp : p < 100) : EJ L (644 + p) x ↔ ∃ n : Nat, 1 ≤ n ∧ n ≤ 2000 ∧ x = lN n := by
  unfold EJ
  rw [if_neg (by omega), if_neg (by omega), if_pos (by omega)]
theorem EJ_p {L : Nat → LQ} {x : Int64} : EJ L 744 x ↔ x = lN (L 4).1 := by
  unfold EJ
  rw [if_neg (by omega), if_neg (by omega), if_neg (by omega), if_pos rfl]
theorem EJ_m {L : Nat → LQ} {x : Int64} : EJ L 751 x ↔ ∃ n : Nat, n ≤ 40 ∧ x = lN n := by
  unfold EJ
  rw [if_neg (by omega), if_neg (by omega), if_neg (by omega), if_neg (by omega), if_pos rfl]
theorem EJ_w {L : Nat → LQ} {i : Nat} {x : Int64} (h : (640 ≤ i ∧ i < 644) ∨ (745 ≤ i ∧ i ≠ 751)) : EJ L i x := by
  unfold EJ
  rw [if_neg (by omega)]
  by_cases h1 : i < 644
  · rw [if_pos h1]; trivial
  · rw [if_neg h1, if_neg (by omega), if_neg (by omega), if_neg (by omega)]; trivial
def updL (L : Nat → LQ) (l : Nat) (q : LQ) : Nat → LQ := fun i => if i = l then q else L i
/-- a write to an element of LEASE l that may change its four: all other elements are typed as they were -/
theorem EJ_up {L : Nat → LQ} {f : Nat → Int64} {l r : Nat} {x : Int64} {q : LQ} (hl : l < 4) (hr : r < 160) (h : ∀ i, i < 1113 → EJ L i (f i)) (hx : EL q r x) (hq : ∀ r', r' ≠ r → r' < 160 → ∀ y, EL (L l) r' y → EL q r' y) : ∀ i, i < 1113 → EJ (updL L l q) i (vp_updL f (160 * l + r) x i) := by
  intro i hi
  have h1 := h i hi
  by_cases he : i = 160 * l + r
  · subst he
    rw [EJ_l hl hr]
    unfold updL vp_updL
    rw [if_pos rfl, if_pos rfl]
    exact hx
  · have hv : vp_updL f (160 * l + r) x i = f i := by unfold vp_updL; rw [if_neg he]
    rw [hv]
    unfold EJ at h1 ⊢
    by_cases h6 : i < 640
    · rw [if_pos h6] at h1 ⊢
      unfold updL
      by_cases hl' : i / 160 = l
      · rw [if_pos hl']
        rw [hl'] at h1
        exact hq _ (fun e => he (by omega)) (by omega) _ h1
      · rw [if_neg hl']; exact h1
    · have h4 : updL L l q 4 = L 4 := by unfold updL; rw [if_neg (by omega)]
      rw [if_neg h6] at h1 ⊢; rw [h4]; exact h1
def elI (σ : Mem) (a j : Nat) : Option Int32 := match σ a with
  | some (.inl (_, _, .inl f)) => some (f j)
  | _ => none
theorem elI_of {V : VX} {σ : Mem} {a len j : Nat} {f : Nat → Int32} (h : σ a = some (aI V len f)) : elI σ a j = some (f j) := by unfold elI; rw [h]
theorem elI_eq {σ τ : Mem} {a j : Nat} (h : τ a = σ a) : elI τ a j = elI σ a j := by unfold elI; rw [h]
def elJ (σ : Mem) (a j : Nat) : Option Int64 := match σ a with
  | some (.inl (_, _, .inr (.inl f))) => some (f j)
  | _ => none
theorem elJ_of {V : VX} {σ : Mem} {a len j : Nat} {f : Nat → Int64} (h : σ a = some (aJ V len f)) : elJ σ a j = some (f j) := by unfold elJ; rw [h]
theorem elJ_eq {σ τ : Mem} {a j : Nat} (h : τ a = σ a) : elJ τ a j = elJ σ a j := by unfold elJ; rw [h]
section RROWS
variable {V : VX} {X : MX} {y : MethodName} {cc : ByteArray} {nL N k z pc n : Nat} {ret : Option FieldType} {R : Room} {σ : Mem} {lv : List (Nat × Value)} {st : List Value} {c q : Nat} {g g' : RG} {ks : List Nat} {σ0 : Mem}
theorem r_get (F : Fx V X y cc nL ret R) {index j : Nat} {t : Nat × Nat} (d : DC cc pc 3 n (.getfield index)) (fl : FL y.cls index 8 j) (h : HS V c g ks σ0 σ) (hj : rL[j]? = some t) (kk : ∀ v, TyW c g t v → fld σ c j = some v → Wm V X nL N σ k z n lv (v :: st)) : Wm V X nL N σ k z pc lv (.ref c :: st) := by
  have h1 : CR V c g 1 (σ c) := h.1.cell (k := 0) (by decide)
  obtain ⟨fs, h2, h3⟩ := h1
  obtain ⟨v, h4, h5⟩ := h3.2 j t hj
  exact m_get F d fl h2 h4 (kk v h5 (fld_of h2 h4))
theorem r_put (F : Fx V X y cc nL ret R) {index j : Nat} {ty : FieldType} {v : Value} (d : DC cc pc 3 n (.putfield index)) (fp : FP y.cls index 8 j false ty) (h : HS V c g ks σ0 σ) (hj : j < rL.length) (hv : TyW c g' (rL.getD j (0, 0)) v) (hr : ∀ i, i < rL.length → i ≠ j → ∀ w, TyW c g (rL.getD i (0, 0)) w → TyW c g' (rL.getD i (0, 0)) w) (ho : ∀ i, i ≠ 1 → ∀ x, CR V c g i x → CR V c g' i x) (hn : narrow ty v = v) (hf : fits ty v = true) (hq : 1 ∉ ks) (kk : ∀ σ' : Mem, HS V c g' ks σ0 σ' → (∀ x, x ≠ c → σ' x = σ x) → (∀ i, i ≠ j → fld σ' c i = fld σ c i) → fld σ' c j = some v → Wm V X nL N σ' k z n lv st) : Wm V X nL N σ k z pc lv (v :: .ref c :: st) := by
  have h1 : CR V c g 1 (σ c) := h.1.cell (k := 0) (by decide)
  obtain ⟨fs, h2, h3⟩ := h1
  have hl : j < fs.length := by rw [h3.1]; exact hj
  have hC : TyO c g' (fs.set j v) := by
    refine ⟨by rw [List.length_set]; exact h3.1, fun i u hu => ?_⟩
    have hu' : rL.getD i (0, 0) = u := by rw [List.getD_eq_getElem?_getD, hu]; rfl
    have hi : i < rL.length := (List.getElem?_eq_some_iff.mp hu).1
    by_cases hij : j = i
    · subst hij
      exact ⟨v, by rw [List.getElem?_set_self hl], by rw [← hu']; exact hv⟩
    · obtain ⟨w, h4, h5⟩ := h3.2 i u hu
      refine ⟨w, by rw [List.getElem?_set_ne hij]; exact h4, ?_⟩
      rw [← hu'] at h5 ⊢
      exact hr i hi (fun e => hij e.symm) w h5
  refine m_put F d fp h2 hn hf hl rfl rfl (kk _ (HS.up (k := 0) h (by decide) hq ⟨_, rfl, hC⟩ ho) (fun x hx => va_up_ne _ _ hx) (fun i hi => ?_) (fld_of (va_up_self _ _ _) (List.getElem?_set_self hl)))
  unfold fld
  rw [va_up_self, h2]
  show (fs.set j v)[i]? = fs[i]?
  exact List.getElem?_set_ne (fun e => hi e.symm)
theorem r_iald (F : Fx V X y cc nL ret R) {len j : Nat} {i : Int32} (d : DC cc pc 1 n .iaload) (h : HS V c g ks σ0 σ) (hC : ∀ e, CR V c g (q + 1) e → ∃ f, e = some (aI V len f) ∧ ∀ i, i < len → EI g.P (q + 1) i (f i)) (hq : q < 23) (hj : i.toNatClampNeg = j) (hin : vp_in i len) (kk : ∀ x, EI g.P (q + 1) j x → elI σ (c + q) j = some x → Wm V X nL N σ k z n lv (.int x :: st)) : Wm V X nL N σ k z pc lv (.int i :: .ref (c + q) :: st) := by
  obtain ⟨f, h2, h3⟩ := hC _ (h.1.cell hq)
  have hl : j < len := by rw [← hj]; exact Nat.not_le.mp fun e => hin (Or.inr e)
  exact m_iald F d h2 hj hin (kk _ (h3 j hl) (elI_of h2))
theorem r_iast (F : Fx V X y cc nL ret R) {len j : Nat} {i x : Int32} (d : DC cc pc 1 n .iastore) (h : HS V c g ks σ0 σ) (hC : ∀ e, CR V c g (q + 1) e → ∃ f, e = some (aI V len f) ∧ ∀ i, i < len → EI g.P (q + 1) i (f i)) (hC' : ∀ f, (∀ i, i < len → EI g'.P (q + 1) i (f i)) → CR V c g' (q + 1) (some (aI V len f))) (hq : q < 23) (hks : q + 1 ∉ ks) (hj : i.toNatClampNeg = j) (hin : vp_in i len) (hx : EI g'.P (q + 1) j x) (hr : ∀ i, i ≠ j → ∀ y, EI g.P (q + 1) i y → EI g'.P (q + 1) i y) (ho : ∀ i, i ≠ q + 1 → ∀ x, CR V c g i x → CR V c g' i x) (kk : ∀ σ' : Mem, HS V c g' ks σ0 σ' → (∀ a, a ≠ c + q → σ' a = σ a) → elI σ' (c + q) j = some x → (∀ i, i ≠ j → elI σ' (c + q) i = elI σ (c + q) i) → Wm V X nL N σ' k z n lv st) : Wm V X nL N σ k z pc lv (.int x :: .int i :: .ref (c + q) :: st) := by
  obtain ⟨f, h2, h3⟩ := hC _ (h.1.cell hq)
  refine m_iast F d h2 hj hin rfl rfl (kk _ (HS.up h hq hks (hC' _ (fun i hi => ?_)) ho) (fun a ha => va_up_ne _ _ ha) ?_ (fun i hi => ?_))
  · unfold upd
    by_cases e : i = j
    · rw [if_pos e, e]; exact hx
    · rw [if_neg e]; exact hr i e _ (h3 i hi)
  · rw [elI_of (V := V) (va_up_self _ _ _)]; unfold upd; rw [if_pos rfl]
  · rw [elI_of (V := V) (va_up_self _ _ _), elI_of h2]; unfold upd; rw [if_neg hi]
theorem r_sld (F : Fx V X y cc nL ret R) {j : Nat} {i : Int32} (d : DC cc pc 1 n .laload) (h : HS V c g ks σ0 σ) (hj : i.toNatClampNeg = j) (hin : vp_in i 1113) (kk : ∀ x, EJ g.L j x → elJ σ (c + 16) j = some x → Wm V X nL N σ k z n lv (.long x :: st)) : Wm V X nL N σ k z pc lv (.int i :: .ref (c + 16) :: st) := by
  have h1 : CR V c g 17 (σ (c + 16)) := h.1.cell (k := 16) (by decide)
  obtain ⟨f, h2, h3⟩ := h1
  have hl : j < 1113 := by rw [← hj]; exact Nat.not_le.mp fun e => hin (Or.inr e)
  exact m_lald F d h2 hj hin (kk _ (h3 j hl) (elJ_of h2))
theorem r_sst (F : Fx V X y cc nL ret R) {j : Nat} {i : Int32} {x : Int64} (d : DC cc pc 1 n .lastore) (h : HS V c g ks σ0 σ) (hks : 17 ∉ ks) (hj : i.toNatClampNeg = j) (hin : vp_in i 1113) (hs : ∀ f : Nat → Int64, (∀ i, i < 1113 → EJ g.L i (f i)) → ∀ i, i < 1113 → EJ g'.L i (vp_updL f j x i)) (ho : ∀ i, i ≠ 17 → ∀ x, CR V c g i x → CR V c g' i x) (kk : ∀ σ' : Mem, HS V c g' ks σ0 σ' → (∀ a, a ≠ c + 16 → σ' a = σ a) → Wm V X nL N σ' k z n lv st) : Wm V X nL N σ k z pc lv (.long x :: .int i :: .ref (c + 16) :: st) := by
  have h1 : CR V c g 17 (σ (c + 16)) := h.1.cell (k := 16) (by decide)
  obtain ⟨f, h2, h3⟩ := h1
  exact m_last F d h2 hj hin rfl rfl (kk _ (HS.up (k := 16) h (by decide) hks ⟨_, rfl, hs f h3⟩ ho) (fun a ha => va_up_ne _ _ ha))
theorem r_jld (F : Fx V X y cc nL ret R) {len j : Nat} {i : Int32} (d : DC cc pc 1 n .laload) (h : HS V c g ks σ0 σ) (hC : ∀ e, CR V c g (q + 1) e → ∃ f, e = some (aJ V len f)) (hq : q < 23) (hj : i.toNatClampNeg = j) (hin : vp_in i len) (kk : ∀ x, Wm V X nL N σ k z n lv (.long x :: st)) : Wm V X nL N σ k z pc lv (.int i :: .ref (c + q) :: st) := by
  obtain ⟨f, h2⟩ := hC _ (h.1.cell hq)
  exact m_lald F d h2 hj hin (kk _)
theorem r_jst (F : Fx V X y cc nL ret R) {len j : Nat} {i : Int32} {x : Int64} (d : DC cc pc 1 n .lastore) (h : HS V c g ks σ0 σ) (hC : ∀ e, CR V c g (q + 1) e → ∃ f, e = some (aJ V len f)) (hC' : ∀ f, CR V c g (q + 1) (some (aJ V len f))) (hq : q < 23) (hks : q + 1 ∉ ks) (hj : i.toNatClampNeg = j) (hin : vp_in i len) (kk : ∀ σ' : Mem, HS V c g ks σ0 σ' → (∀ a, a ≠ c + q → σ' a = σ a) → Wm V X nL N σ' k z n lv st) : Wm V X nL N σ k z pc lv (.long x :: .int i :: .ref (c + q) :: st) := by
  obtain ⟨f, h2⟩ := hC _ (h.1.cell hq)
  exact m_last F d h2 hj hin rfl rfl (kk _ (HS.up h hq hks (hC' _) (fun _ _ _ q => q)) (fun a ha => va_up_ne _ _ ha))
end RROWS
/-- what an element that stays typed asks of the write -/
theorem EJ_same {L : Nat → LQ} {f : Nat → Int64} {j : Nat} {x : Int64} (hx : EJ L j x) (h : ∀ i, i < 1113 → EJ L i (f i)) : ∀ i, i < 1113 → EJ L i (vp_updL f j x i) := by
  intro i hi
  unfold vp_updL
  by_cases e : i = j
  · rw [if_pos e, e]; exact hx
  · rw [if_neg e]; exact h i hi
theorem r_getC {V : VX} {X : MX} {y : MethodName} {cc : ByteArray} {nL N k z pc n c : Nat} {ret : Option FieldType} {R : Room} {σ σ0 : Mem} {lv : List (Nat × Value)} {st : List Value} {g : RG} {ks : List Nat} (F : Fx V X y cc nL ret R) {index j : Nat} {v : Value} (d : DC cc pc 3 n (.getfield index)) (fl : FL y.cls index 8 j) (h : HS V c g ks σ0 σ) (hf : fld σ c j = some v) (kk : Wm V X nL N σ k z n lv (v :: st)) : Wm V X nL N σ k z pc lv (.ref c :: st) := by
  have h1 : CR V c g 1 (σ c) := h.1.cell (k := 0) (by decide)
  obtain ⟨fs, h2, h3⟩ := h1
  exact m_get F d fl h2 (fld_ob h2 hf) kk
theorem CR.ctl {V : VX} {c T Z T' Z' u h : Nat} {P : NP} {L : Nat → LQ} : ∀ i, i ≠ 1 → ∀ x, CR V c ⟨T, Z, u, h, P, L⟩ i x → CR V c ⟨T', Z', u, h, P, L⟩ i x := by
  intro i hi x hx
  unfold CR at hx ⊢
  split at hx <;> first | exact hx | exact absurd rfl hi
theorem CR.row {V : VX} {c T Z u h : Nat} {P : NP} {L L' : Nat → LQ} : ∀ i, i ≠ 17 → ∀ x, CR V c ⟨T, Z, u, h, P, L⟩ i x → CR V c ⟨T, Z, u, h, P, L'⟩ i x := by
  intro i hi x hx
  unfold CR at hx ⊢
  split at hx <;> first | exact hx | exact absurd rfl hi
theorem CR.und {V : VX} {c T Z u u' h : Nat} {P : NP} {L : Nat → LQ} (hu : u' ≤ u) : ∀ i, i ≠ 1 → ∀ x, CR V c ⟨T, Z, u, h, P, L⟩ i x → CR V c ⟨T, Z, u', h, P, L⟩ i x := by
  intro i hi x hx
  unfold CR at hx ⊢
  split at hx <;> first | exact hx | exact absurd rfl hi | (obtain ⟨f, e, q⟩ := hx; exact ⟨f, e, fun j hj => q j (Nat.lt_of_lt_of_le hj hu)⟩)
theorem HR.mono {V : VX} {c T Z Z' u h : Nat} {P : NP} {L : Nat → LQ} {σ : Mem} (hZ : Z' = 0 → Z = 0) (hh : HR V c ⟨T, Z, u, h, P, L⟩ σ) : HR V c ⟨T, Z', u, h, P, L⟩ σ := by
  intro a
  by_cases ha : kC c a = 1
  · have h1 := hh a
    rw [ha] at h1 ⊢
    obtain ⟨fs, e, q1, q2⟩ := h1
    refine ⟨fs, e, q1, fun j t ht => ?_⟩
    obtain ⟨v, h2, h3⟩ := q2 j t ht
    refine ⟨v, h2, ?_⟩
    obtain ⟨tc, tw⟩ := t
    unfold TyW at h3 ⊢
    split at h3 <;> first | exact h3 | (obtain ⟨x, h4, h5⟩ := h3; exact ⟨x, fun e => h4 (hZ e), h5⟩)
  · exact CR.ctl _ ha _ (hh a)
theorem OKL.upd {n l : Nat} {L L' : Nat → LQ} (h : OKL n L) (hl4 : l < 4) (ho : ∀ i, i ≠ l → L' i = L i) (hl : (L' l).1 ≤ 2 ∧ (L' l).2.1 ≤ 72 ∧ (L' l).2.2.1 ≤ 2000 ∧ (L' l).2.2.2 ≤ 72 ∧ ((L' l).1 = 1 → (L' l).2.2.2 < (L' l).2.1 ∧ 1 ≤ (L' l).2.2.1) ∧ ((L' l).1 = 0 → (L' l).2.2.2 = 0) ∧ (l < n → 1 ≤ (L' l).2.1)) : OKL n L' := by
  refine ⟨by rw [ho 4 (by omega)]; exact h.1, fun i hi => ?_⟩
  by_cases e : i = l
  · subst e; exact hl
  · rw [ho i e]; exact h.2 i hi
theorem OKL.updP {n : Nat} {L L' : Nat → LQ} (h : OKL n L) (ho : ∀ i, i ≠ 4 → L' i = L i) (hp : (L' 4).1 ≤ 99) : OKL n L' := ⟨hp, fun i hi => by rw [ho i (by omega)]; exact h.2 i hi⟩
theorem EJ_pup {L : Nat → LQ} {f : Nat → Int64} {p : Nat} (h : ∀ i, i < 1113 → EJ L i (f i)) : ∀ i, i < 1113 → EJ (updL L 4 (p, 0, 0, 0)) i (vp_updL f 744 (lN p) i) := by
  intro i hi
  have h1 := h i hi
  by_cases he : i = 744
  · subst he
    rw [EJ_p]
    unfold updL vp_updL
    rw [if_pos rfl, if_pos rfl]
  · have hv : vp_updL f 744 (lN p) i = f i := by unfold vp_updL; rw [if_neg he]
    rw [hv]
    unfold EJ at h1 ⊢
    by_cases h6 : i < 640
    · rw [if_pos h6] at h1 ⊢
      have h4 : updL L 4 (p, 0, 0, 0) (i / 160) = L (i / 160) := by unfold updL; rw [if_neg (by omega)]
      rw [h4]; exact h1
    · rw [if_neg h6] at h1 ⊢
      rw [if_neg he] at h1 ⊢
      exact h1
def OKB (L : Nat → LQ) : Prop := (L 4).1 ≤ 99 ∧ ∀ l, l < 4 → (L l).1 ≤ 2 ∧ (L l).2.1 ≤ 72 ∧ (L l).2.2.1 ≤ 2000 ∧ (L l).2.2.2 ≤ 72
theorem OKL.b {n : Nat} {L : Nat → LQ} (h : OKL n L) : OKB L := ⟨h.1, fun l hl => ⟨(h.2 l hl).1, (h.2 l hl).2.1, (h.2 l hl).2.2.1, (h.2 l hl).2.2.2.1⟩⟩
theorem OKB.upd {l : Nat} {L L' : Nat → LQ} (h : OKB L) (hl4 : l < 4) (ho : ∀ i, i ≠ l → L' i = L i) (hl : (L' l).1 ≤ 2 ∧ (L' l).2.1 ≤ 72 ∧ (L' l).2.2.1 ≤ 2000 ∧ (L' l).2.2.2 ≤ 72) : OKB L' := by
  refine ⟨by rw [ho 4 (by omega)]; exact h.1, fun i hi => ?_⟩
  by_cases e : i = l
  · subst e; exact hl
  · rw [ho i e]; exact h.2 i hi
theorem OKB.updP {L L' : Nat → LQ} (h : OKB L) (ho : ∀ i, i ≠ 4 → L' i = L i) (hp : (L' 4).1 ≤ 99) : OKB L' := ⟨hp, fun i hi => by rw [ho i (by omega)]; exact h.2 i hi⟩
theorem r_callV {V : VX} {X : MX} {y : MethodName} {cc : ByteArray} {nL N k z pc n c : Nat} {ret : Option FieldType} {R : Room} {σ σ0 : Mem} {lv : List (Nat × Value)} {st : List Value} {g : RG} {ks : List Nat} (F : Fx V X y cc nL ret R) {index dd maxL cn : Nat} {Post : Option Value → Mem → Prop} {y2 : MethodName} {c2 : ByteArray} {r2 : Option FieldType} {As rest : List Value} (d : DC cc pc 3 n (.invokevirtual index)) (hM : Ct (x_l X) V y2 c2 maxL r2 dd 0 0 N σ (.ref c :: As) Post) (cb : CB y2 c2 maxL r2 cn) (hlink : Cond.methodLink y.cls index y2 ∈ tb) (hin : Cond.instanceMethod y2 ∈ tb) (hse : Cond.selects y2.cls y2 y2 ∈ tb) (h : HS V c g ks σ0 σ) (hci : (classes[8]?).map (·.1) = some y2.cls) (hn : As.length = cn) (hst : st = As.reverse ++ .ref c :: rest) (hw : (rest.map fun v => v.category).sum ≤ 8) (hR : dd + 1 ≤ R.frames ∧ 8 + (maxL + 11) + 41 * dd ≤ R.locals) (hf : k ≤ R.cells ∧ z ≤ R.slots) (kk : ∀ r τ, Post r τ → Wm V X nL N τ k z n lv (r.toList ++ rest)) : Wm V X nL N σ k z pc lv st := by
  have h1 : CR V c g 1 (σ c) := h.1.cell (k := 0) (by decide)
  obtain ⟨fs, h2, h3⟩ := h1
  exact m_callV F d hM cb hlink hin hse h2 hci hn hst hw hR hf (k' := k) (z' := z) (N' := N) rfl rfl rfl kk
theorem ctl_Z {c T Z Z' u h : Nat} {P : NP} {L : Nat → LQ} : ∀ i, i < rL.length → i ≠ 23 → ∀ w, TyW c ⟨T, Z, u, h, P, L⟩ (rL.getD i (0, 0)) w → TyW c ⟨T, Z', u, h, P, L⟩ (rL.getD i (0, 0)) w := by
  intro i hi hne w hw
  have key : ∀ i, i < 37 → i ≠ 23 → (rL.getD i (0, 0)).1 ≠ 5 := by decide
  have hk := key i hi hne
  unfold TyW at hw ⊢
  split at hw <;> simp_all
theorem ctl_T {c T T' Z u h : Nat} {P : NP} {L : Nat → LQ} : ∀ i, i < rL.length → i ≠ 2 → ∀ w, TyW c ⟨T, Z, u, h, P, L⟩ (rL.getD i (0, 0)) w → TyW c ⟨T', Z, u, h, P, L⟩ (rL.getD i (0, 0)) w := by
  intro i hi hne w hw
  have key : ∀ i, i < 37 → i ≠ 2 → (rL.getD i (0, 0)).1 ≠ 6 := by decide
  have hk := key i hi hne
  unfold TyW at hw ⊢
  split at hw <;> simp_all
theorem nI_inj {a b : Nat} (ha : a < 2147483648) (hb : b < 2147483648) (h : nI a = nI b) : a = b := by
  have h1 := congrArg Int32.toInt h
  rw [nI_ti ha, nI_ti hb] at h1
  omega
theorem lN_ne0 {a : Nat} (ha : a < 2 ^ 31) (h : a ≠ 0) : lN a ≠ 0 := fun e => h ((lN_eq ha (b := 0) (by decide)).mp e)
