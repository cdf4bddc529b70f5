/-! copies of rows by content -/
def cpy (f g : Nat → Int64) (i k n : Nat) : Nat → Int64 := fun j => if k ≤ j ∧ j < k + n then f (i + (j - k)) else g j
theorem cpy_0 {f g : Nat → Int64} {i k : Nat} : cpy f g i k 0 = g := by
  funext j
  unfold cpy
  rw [if_neg (by omega)]
theorem cpy_up {f g : Nat → Int64} {i k n : Nat} : vp_updL (cpy f g i k n) (k + n) (f (i + n)) = cpy f g i k (n + 1) := by
  funext j
  unfold vp_updL cpy
  by_cases h : j = k + n
  · subst h
    rw [if_pos rfl, if_pos (by omega), show k + n - k = n by omega]
  · rw [if_neg h]
    by_cases h2 : k ≤ j ∧ j < k + n
    · rw [if_pos h2, if_pos (by omega)]
    · rw [if_neg h2, if_neg (by omega)]
theorem cpy_at {f g : Nat → Int64} {i k n j : Nat} (h : j < n) : cpy f g i k n (k + j) = f (i + j) := by
  unfold cpy
  rw [if_pos (by omega), show k + j - k = j by omega]
theorem cpy_at0 {f g : Nat → Int64} {i n j : Nat} (h : j < n) : cpy f g i 0 n j = f (i + j) := by
  have h1 := cpy_at (f := f) (g := g) (i := i) (k := 0) h
  rw [Nat.zero_add] at h1
  exact h1
theorem cpy_off {f g : Nat → Int64} {i k n j : Nat} (h : j < k) : cpy f g i k n j = g j := by
  unfold cpy
  rw [if_neg (by omega)]
/-- a row holds, from an index on, a copy of s that is typed by L -/
def GB (V : VX) (c q len o : Nat) (L : Nat → LQ) (σ : Mem) : Prop := ∃ f, σ (c + q) = some (aJ V len f) ∧ ∀ i, i < 1113 → EJ L i (f (o + i))
theorem GB.of {V : VX} {c q len o : Nat} {L : Nat → LQ} {σ τ : Mem} (h : GB V c q len o L σ) (e : τ (c + q) = σ (c + q)) : GB V c q len o L τ := by
  obtain ⟨f, a, b⟩ := h
  exact ⟨f, e.trans a, b⟩
def upto (c q : Nat) (e : va_E) (σ τ : Mem) : Prop := τ (c + q) = some e ∧ ∀ x, x ≠ c + q → τ x = σ x
theorem HS.cp {V : VX} {c k : Nat} {g g' : RG} {ks : List Nat} {σ0 σ τ : Mem} {e : va_E} (h : HS V c g ks σ0 σ) (hτ : upto c k e σ τ) (hk : k < 23) (hq : k + 1 ∉ ks) (hc : CR V c g' (k + 1) (some e)) (ho : ∀ j, j ≠ k + 1 → ∀ x, CR V c g j x → CR V c g' j x) : HS V c g' ks σ0 τ := by
  refine ⟨fun a => ?_, fun a ha => ?_⟩
  · by_cases ha : a = c + k
    · subst ha; rw [hτ.1, kC_at hk]; exact hc
    · rw [hτ.2 a ha]; exact ho _ (fun q => ha (kC_un q)) _ (h.1 a)
  · have hne : a ≠ c + k := fun q => hq (by rw [q, kC_at hk] at ha; exact ha)
    rw [hτ.2 a hne]; exact h.2 a ha
/-- back into s -/
theorem HS.cpS {V : VX} {c T Z u h o : Nat} {P : NP} {L L2 : Nat → LQ} {ks : List Nat} {σ0 σ τ : Mem} {f g : Nat → Int64} (hh : HS V c ⟨T, Z, u, h, P, L⟩ ks σ0 σ) (hks : 17 ∉ ks) (hf : ∀ i, i < 1113 → EJ L2 i (f (o + i))) (hτ : upto c 16 (aJ V 1113 (cpy f g o 0 1113)) σ τ) : HS V c ⟨T, Z, u, h, P, L2⟩ ks σ0 τ :=
  HS.cp (k := 16) hh hτ (by decide) hks ⟨_, rfl, fun i hi => by rw [cpy_at0 hi]; exact hf i hi⟩ CR.row
theorem HS.cpK {V : VX} {c T Z u h : Nat} {P : NP} {L : Nat → LQ} {ks : List Nat} {σ0 σ τ : Mem} {f g : Nat → Int64} (hh : HS V c ⟨T, Z, u, h, P, L⟩ ks σ0 σ) (hks : 21 ∉ ks) (he : σ (c + 20) = some (aJ V 22260 g)) (hτ : upto c 20 (aJ V 22260 (cpy f g 0 (1113 * u) 1113)) σ τ) : HS V c ⟨T, Z, u, h, P, L⟩ ks σ0 τ := by
  refine HS.cp (k := 20) hh hτ (by decide) hks ⟨_, rfl, fun j hj => ?_⟩ (fun _ _ _ q => q)
  obtain ⟨g2, e2, h2⟩ : ∃ f, σ (c + 20) = some (aJ V 22260 f) ∧ ∀ j, j < u → GR P.kk (fun i => f (1113 * j + i)) := hh.1.cell (k := 20) (by decide)
  have hg : g2 = g := by
    rw [he] at e2
    have h3 := congrArg (fun e : Option va_E => match e with | some (.inl (_, _, .inr (.inl f))) => f | _ => fun _ => 0) e2
    exact h3.symm
  subst hg
  obtain ⟨L3, h3, h4⟩ := h2 j hj
  refine ⟨L3, h3, fun i hi => ?_⟩
  have h5 := h4 i hi
  show EJ L3 i (cpy f g2 0 (1113 * u) 1113 (1113 * j + i))
  rw [cpy_off (show 1113 * j + i < 1113 * u by have h6 : 1113 * (j + 1) ≤ 1113 * u := Nat.mul_le_mul_left _ hj; omega)]
  exact h5
theorem CR.unoth {V : VX} {c T Z u u' h : Nat} {P : NP} {L : Nat → LQ} : ∀ i, i ≠ 1 → i ≠ 21 → ∀ x, CR V c ⟨T, Z, u, h, P, L⟩ i x → CR V c ⟨T, Z, u', h, P, L⟩ i x := by
  intro i hi hj x hx
  unfold CR at hx ⊢
  split at hx <;> first | exact hx | exact absurd rfl hi | exact absurd rfl hj
theorem CR.himg {V : VX} {c T Z u h h' : Nat} {P : NP} {L : Nat → LQ} : ∀ i, i ≠ 1 → i ≠ 20 → ∀ x, CR V c ⟨T, Z, u, h, P, L⟩ i x → CR V c ⟨T, Z, u, h', P, L⟩ i x := by
  intro i hi hj x hx
  unfold CR at hx ⊢
  split at hx <;> first | exact hx | exact absurd rfl hi | exact absurd rfl hj
theorem CR.h0 {V : VX} {c T Z u h : Nat} {P : NP} {L : Nat → LQ} : ∀ i, i ≠ 1 → ∀ x, CR V c ⟨T, Z, u, h, P, L⟩ i x → CR V c ⟨T, Z, u, 0, P, L⟩ i x := by
  intro i hi x hx
  by_cases hj : i = 20
  · subst hj
    obtain ⟨f, e, q⟩ := hx
    exact ⟨f, e, fun e => absurd e (by show ¬ (0 : Nat) = 1; decide)⟩
  · exact CR.himg i hi hj x hx
theorem ctl_u {c T Z u u' h : Nat} {P : NP} {L : Nat → LQ} : ∀ i, i < rL.length → i ≠ 32 → ∀ w, TyW c ⟨T, Z, u, h, P, L⟩ (rL.getD i (0, 0)) w → TyW c ⟨T, Z, u', h, P, L⟩ (rL.getD i (0, 0)) w := by
  intro i hi hne w hw
  have key : ∀ i, i < 37 → i ≠ 32 → (rL.getD i (0, 0)).1 ≠ 7 := by decide
  have hk := key i hi hne
  unfold TyW at hw ⊢
  split at hw <;> simp_all
theorem ctl_h {c T Z u h h' : Nat} {P : NP} {L : Nat → LQ} : ∀ i, i < rL.length → i ≠ 33 → ∀ w, TyW c ⟨T, Z, u, h, P, L⟩ (rL.getD i (0, 0)) w → TyW c ⟨T, Z, u, h', P, L⟩ (rL.getD i (0, 0)) w := by
  intro i hi hne w hw
  have key : ∀ i, i < 37 → i ≠ 33 → (rL.getD i (0, 0)).1 ≠ 8 := by decide
  have hk := key i hi hne
  unfold TyW at hw ⊢
  split at hw <;> simp_all
/-- a field is written where the other cells are typed by the new ghosts as they lie -/
theorem r_putM {V : VX} {X : MX} {y : MethodName} {cc : ByteArray} {nL N k z pc n c : Nat} {ret : Option FieldType} {R : Room} {σ σ0 : Mem} {lv : List (Nat × Value)} {st : List Value} {g g' : RG} {ks : List Nat} (F : Fx V X y cc nL ret R) {index j : Nat} {ty : FieldType} {v : Value} {fs : List Value} (d : DC cc pc 3 n (.putfield index)) (fp : FP y.cls index 8 j false ty) (h2 : σ c = some (ob 8 fs)) (h3 : TyO c g fs) (hkeep : ∀ a, kC c a ∈ ks → σ a = σ0 a) (hj : j < rL.length) (hv : TyW c g' (rL.getD j (0, 0)) v) (hr : ∀ i, i < rL.length → i ≠ j → ∀ w, TyW c g (rL.getD i (0, 0)) w → TyW c g' (rL.getD i (0, 0)) w) (ho : ∀ a, a ≠ c → CR V c g' (kC c a) (σ a)) (hn : narrow ty v = v) (hf : fits ty v = true) (hq : 1 ∉ ks) (kk : ∀ σ' : Mem, HS V c g' ks σ0 σ' → (∀ x, x ≠ c → σ' x = σ x) → (∀ i, i ≠ j → fld σ' c i = fld σ c i) → fld σ' c j = some v → Wm V X nL N σ' k z n lv st) : Wm V X nL N σ k z pc lv (v :: .ref c :: st) := by
  have hl : j < fs.length := by rw [h3.1]; exact hj
  have hC : TyO c g' (fs.set j v) := by
    refine ⟨by rw [List.length_set]; exact h3.1, fun i u hu => ?_⟩
    have hu' : rL.getD i (0, 0) = u := by rw [List.getD_eq_getElem?_getD, hu]; rfl
    have hi : i < rL.length := (List.getElem?_eq_some_iff.mp hu).1
    by_cases hij : j = i
    · subst hij
      exact ⟨v, by rw [List.getElem?_set_self hl], by rw [← hu']; exact hv⟩
    · obtain ⟨w, h4, h5⟩ := h3.2 i u hu
      refine ⟨w, by rw [List.getElem?_set_ne hij]; exact h4, ?_⟩
      rw [← hu'] at h5 ⊢
      exact hr i hi (fun e => hij e.symm) w h5
  refine m_put F d fp h2 hn hf hl rfl rfl (kk _ ⟨fun a => ?_, fun a ha => ?_⟩ (fun x hx => va_up_ne _ _ hx) (fun i hi => ?_) (fld_of (va_up_self _ _ _) (List.getElem?_set_self hl)))
  · by_cases ha : a = c
    · subst ha
      rw [va_up_self, show kC a a = 1 from kC_at (c := a) (k := 0) (by decide)]
      exact ⟨_, rfl, hC⟩
    · rw [va_up_ne _ _ ha]; exact ho a ha
  · have hne : a ≠ c := fun q => hq (by rw [q, show kC c c = 1 from kC_at (k := 0) (by decide)] at ha; exact ha)
    rw [va_up_ne _ _ hne]; exact hkeep a ha
  · unfold fld
    rw [va_up_self, h2]
    show (fs.set j v)[i]? = fs[i]?
    exact List.getElem?_set_ne (fun e => hi e.symm)
def shf (f : Nat → Int64) (k : Nat) : Nat → Int64 := fun j => if j < k then f (1113 + j) else f j
theorem shf_0 {f : Nat → Int64} : shf f 0 = f := by
  funext j
  unfold shf
  rw [if_neg (by omega)]
theorem shf_up {f : Nat → Int64} {k : Nat} : vp_updL (shf f k) k (shf f k (1113 + k)) = shf f (k + 1) := by
  funext j
  have h0 : shf f k (1113 + k) = f (1113 + k) := by unfold shf; rw [if_neg (by omega)]
  rw [h0]
  unfold vp_updL shf
  by_cases h : j = k
  · subst h
    rw [if_pos rfl, if_pos (by omega)]
  · rw [if_neg h]
    by_cases h2 : j < k
    · rw [if_pos h2, if_pos (by omega)]
    · rw [if_neg h2, if_neg (by omega)]
theorem va_upto {σ τ : Mem} {c q : Nat} {e e' : va_E} (h : upto c q e σ τ) : upto c q e' σ (va_up τ (c + q) (some e')) := ⟨va_up_self _ _ _, fun x hx => (va_up_ne _ _ hx).trans (h.2 x hx)⟩
theorem dv_lt {a b : Int64} (h : b ≠ 0) : (a - a / b * b).toInt.natAbs < b.toInt.natAbs := by
  have hb : b.toInt ≠ 0 := fun e => h (Int64.toInt_inj.mp (by rw [e]; rfl))
  have h1 : (a - a / b * b).toInt = (a.toInt - a.toInt.tdiv b.toInt * b.toInt).bmod (2 ^ 64) := by
    rw [Int64.toInt_sub, Int64.toInt_mul, Int64.toInt_div, Int.bmod_mul_bmod, Int.sub_bmod_bmod]
  have h2 : a.toInt - a.toInt.tdiv b.toInt * b.toInt = a.toInt.tmod b.toInt := by
    have h3 := Int.tmod_add_tdiv_mul a.toInt b.toInt
    omega
  have h3 : (a.toInt.tmod b.toInt).natAbs < b.toInt.natAbs := by
    rw [Int.natAbs_tmod]
    exact Nat.mod_lt _ (by omega)
  have h4 := Int64.le_toInt b
  have h5 := Int64.toInt_lt b
  rw [h1, h2, Int.bmod_eq_of_le (by omega) (by omega)]
  exact h3
theorem lN_of {x : Int64} (h1 : ¬ x < 500) (h2 : ¬ 2000 < x) : ∃ n : Nat, 1 ≤ n ∧ n ≤ 2000 ∧ x = lN n := by
  have a1 : (500 : Int64).toInt ≤ x.toInt := Int.not_lt.mp fun e => h1 (Int64.lt_iff_toInt_lt.mpr e)
  have a2 : x.toInt ≤ (2000 : Int64).toInt := Int.not_lt.mp fun e => h2 (Int64.lt_iff_toInt_lt.mpr e)
  have b1 : (500 : Int64).toInt = 500 := by decide
  have b2 : (2000 : Int64).toInt = 2000 := by decide
  refine ⟨x.toInt.toNat, by omega, by omega, Int64.toInt_inj.mp ?_⟩
  unfold lN
  rw [Int64.toInt_ofNat_of_lt (by omega)]
  omega
theorem shl5 {m : Nat} (h : m ≤ 4) : ∃ p : Nat, p ≤ 16 ∧ (1 : Int32) <<< (nI m &&& 31) = nI p := by
  have h2 : ∀ m, m < 5 → (1 : Int32) <<< (nI m &&& 31) = nI (2 ^ m) ∧ 2 ^ m ≤ 16 := by decide
  exact ⟨2 ^ m, (h2 m (by omega)).2, (h2 m (by omega)).1⟩
theorem r_zald {V : VX} {X : MX} {y : MethodName} {cc : ByteArray} {nL N k z pc n c : Nat} {ret : Option FieldType} {R : Room} {σ σ0 : Mem} {lv : List (Nat × Value)} {st : List Value} {g : RG} {ks : List Nat} (F : Fx V X y cc nL ret R) {j : Nat} {i : Int32} (d : DC cc pc 1 n .baload) (h : HS V c g ks σ0 σ) (hj : i.toNatClampNeg = j) (hin : vp_in i 4) (kk : ∀ m, m ≤ 1 → elI σ (c + 21) j = some (nI m) → Wm V X nL N σ k z n lv (.int (nI m) :: st)) : Wm V X nL N σ k z pc lv (.int i :: .ref (c + 21) :: st) := by
  obtain ⟨f, h2, h3⟩ : ∃ f, σ (c + 21) = some (aZ V 4 f) ∧ ∀ i, i < 4 → EI g.P 22 i (f i) := h.1.cell (k := 21) (by decide)
  have hl : j < 4 := by rw [← hj]; exact Nat.not_le.mp fun e => hin (Or.inr e)
  obtain ⟨m, hm, e⟩ := h3 j hl
  refine m_zald F d h2 hj hin ?_
  have h4 : elI σ (c + 21) j = some (f j) := by unfold elI; rw [h2]
  rw [e] at h4 ⊢
  exact kk m hm h4
theorem r_zast {V : VX} {X : MX} {y : MethodName} {cc : ByteArray} {nL N k z pc n c m : Nat} {ret : Option FieldType} {R : Room} {σ σ0 : Mem} {lv : List (Nat × Value)} {st : List Value} {g : RG} {ks : List Nat} (F : Fx V X y cc nL ret R) {j : Nat} {i : Int32} (d : DC cc pc 1 n .bastore) (h : HS V c g ks σ0 σ) (hj : i.toNatClampNeg = j) (hin : vp_in i 4) (hm : m ≤ 1) (hks : 22 ∉ ks) (kk : ∀ σ' : Mem, HS V c g ks σ0 σ' → (∀ a, a ≠ c + 21 → σ' a = σ a) → elI σ' (c + 21) j = some (nI m) → Wm V X nL N σ' k z n lv st) : Wm V X nL N σ k z pc lv (.int (nI m) :: .int i :: .ref (c + 21) :: st) := by
  obtain ⟨f, h2, h3⟩ : ∃ f, σ (c + 21) = some (aZ V 4 f) ∧ ∀ i, i < 4 → EI g.P 22 i (f i) := h.1.cell (k := 21) (by decide)
  refine m_zast F d h2 hj hin (nz1 hm) rfl rfl (kk _ (HS.up (k := 21) h (by decide) hks ⟨_, rfl, fun i hi => ?_⟩ (fun _ _ _ q => q)) (fun a ha => va_up_ne _ _ ha) ?_)
  · unfold upd
    by_cases e : i = j
    · rw [if_pos e]; exact ⟨m, hm, rfl⟩
    · rw [if_neg e]; exact h3 i hi
  · unfold elI
    rw [va_up_self]
    show some (upd f j (nI m) j) = _
    unfold upd
    rw [if_pos rfl]
theorem i2l_gt {x : Int32} {g : Nat} (hg : g < 2 ^ 31) (h : ¬ x.toInt64 ≤ lN g) : ∃ m : Nat, g < m ∧ m < 2147483648 ∧ x = nI m := by
  have h1 : ¬ x.toInt64.toInt ≤ (lN g).toInt := fun e => h (Int64.le_iff_toInt_le.mpr e)
  have h2 : (lN g).toInt = (g : Int) := by unfold lN; exact Int64.toInt_ofNat_of_lt (by omega)
  have h3 := Int32.toInt_lt x
  rw [Int32.toInt_toInt64, h2] at h1
  refine ⟨x.toInt.toNat, by omega, by omega, Int32.toInt_inj.mp ?_⟩
  unfold nI
  rw [Int32.toInt_ofNat_of_lt (by omega)]
  omega
set_option maxRecDepth 20000 in
theorem lq_copies {V : VX} {X : MX} {N : Nat} {σ : Mem} {a1 a2 len1 len2 i k : Nat} {f g : Nat → Int64} (F : Fx V X yX10_copies cX10_copies 5 none (rmd 0 0 0)) (hQ : Rt V X 0 0 N (fun r τ => (τ a2 = some (aJ V len2 (cpy f g i k 1113)) ∧ ∀ x, x ≠ a2 → τ x = σ x) ∧ r = none)) (h1 : σ a1 = some (aJ V len1 f)) (h2 : σ a2 = some (aJ V len2 g)) (hne : a1 ≠ a2) (hi : i + 1113 ≤ len1) (hk : k + 1113 ≤ len2) (hl : len1 ≤ 22260 ∧ len2 ≤ 22260) : ∀ (fuel n : Nat) (τ : Mem), (τ a2 = some (aJ V len2 (cpy f g i k n)) ∧ ∀ x, x ≠ a2 → τ x = σ x) → n ≤ 1113 → 1113 - n < fuel → Wm V X 5 N τ 0 0 3 [(4, .int (nI n)), (0, .ref a1), (1, .int (nI i)), (2, .ref a2), (3, .int (nI k))] [] := by
  intro fuel
  induction fuel with
  | zero => intros; rename_i hm; exact absurd hm (Nat.not_lt_zero _)
  | succ fuel ih =>
    intro n τ hτ hn hm
    refine m_iload F rfl e_X10_copies_3 ?_
    refine m_sipush F (v := 1113) (by decide) e_X10_copies_5 ?_
    refine m_icmp_ge F e_X10_copies_8 (fun q8 => ?_) (fun q8 => ?_)
    · have c8 : n ≥ 1113 := (nI_leI (a := 1113) (b := n) (by omega) (by omega)).mp q8
      exact m_vret F hQ e_X10_copies_29 (⟨⟨by rw [show 1113 = n by omega]; exact hτ.1, hτ.2⟩, rfl⟩)
    · have c8 : n < 1113 := by have hh := mt (nI_leI (a := 1113) (b := n) (by omega) (by omega)).mpr q8; omega
      refine m_aload_n F rfl e_X10_copies_11 ?_
      refine m_iload_n F rfl e_X10_copies_12 ?_
      refine m_iload F rfl e_X10_copies_13 ?_
      refine m_iadd F e_X10_copies_15 ?_
      refine Wm.topE (w := nI (k + n)) (nI_add k n) ?_
      refine m_aload_n F rfl e_X10_copies_16 ?_
      refine m_iload_n F rfl e_X10_copies_17 ?_
      refine m_iload F rfl e_X10_copies_18 ?_
      refine m_iadd F e_X10_copies_20 ?_
      refine Wm.topE (w := nI (i + n)) (nI_add i n) ?_
      refine m_lald F e_X10_copies_21 ((hτ.2 a1 hne).trans h1) (j := i + n) (nI_clamp (by omega)) (vp_in_nI (by omega) (by omega)) ?_
      refine m_last F e_X10_copies_22 hτ.1 (j := k + n) (nI_clamp (by omega)) (vp_in_nI (by omega) (by omega)) cpy_up rfl ?_
      refine m_iinc F (v := nI (n + 1)) (lv' := [(4, .int (nI (n + 1))), (0, .ref a1), (1, .int (nI i)), (2, .ref a2), (3, .int (nI k))]) e_X10_copies_23 rfl (nI_add n 1) (by decide) rfl ?_
      refine m_goto F e_X10_copies_26 ?_
      exact ih (n + 1) _ ⟨va_up_self _ _ _, fun x hx => (va_up_ne _ _ hx).trans (hτ.2 x hx)⟩ (by omega) (by omega)
set_option maxRecDepth 20000 in
theorem q_copies (l : Launch) (V : VX) (N : Nat) (σ : Mem) (a1 a2 len1 len2 i k : Nat) (f g : Nat → Int64) (h1 : σ a1 = some (aJ V len1 f)) (h2 : σ a2 = some (aJ V len2 g)) (hne : a1 ≠ a2) (hi : i + 1113 ≤ len1) (hk : k + 1113 ≤ len2) (hl : len1 ≤ 22260 ∧ len2 ≤ 22260) : Ct l V yX10_copies cX10_copies 5 none 0 0 0 N σ [.ref a1, .int (nI i), .ref a2, .int (nI k)] (fun r τ => (τ a2 = some (aJ V len2 (cpy f g i k 1113)) ∧ ∀ x, x ≠ a2 → τ x = σ x) ∧ r = none) := by
  refine Ct.of (by decide) (Nat.le_of_ble_eq_true rfl) [(0, .ref a1), (1, .int (nI i)), (2, .ref a2), (3, .int (nI k))] rfl (fun X hX F hQ => ?_)
  refine m_iconst F (v := 0) (by decide) e_X10_copies_0 ?_
  refine m_istore F (lv' := [(4, .int 0), (0, .ref a1), (1, .int (nI i)), (2, .ref a2), (3, .int (nI k))]) e_X10_copies_1 (by decide) rfl ?_
  exact lq_copies F hQ h1 h2 hne hi hk hl 1114 0 _ ⟨by rw [cpy_0]; exact h2, fun _ _ => rfl⟩ (by omega) (by omega)
set_option maxRecDepth 20000 in
theorem rem_50 {V : VX} {X : MX} {N : Nat} {σ : Mem} {c T Z h : Nat} {P : NP} {L : Nat → LQ} {u1 : Nat} {τ : Mem} (F : Fx V X yX10_remembers cX10_remembers 2 none (rmd 1 0 0)) (hQ : Rt V X 0 0 N (fun r τ => ∃ u9, u9 ≤ 20 ∧ HS V c (⟨T, Z, u9, h, P, L⟩ : RG) [0, 2, 3, 4, 5, 6, 7, 8, 9, 10, 11, 12, 13, 14, 15, 16, 17, 18, 19, 20, 22, 23] σ τ ∧ r = none)) (hok : OKL P.n0 L) (hP : OKP P) (hkk : P.kk = P.n0)  (hu : u1 ≤ 19) (h1 : HS V c ⟨T, Z, u1, h, P, L⟩ [0, 2, 3, 4, 5, 6, 7, 8, 9, 10, 11, 12, 13, 14, 15, 16, 17, 18, 19, 20, 22, 23] σ τ) : Wm V X 2 N τ 0 0 50 [(0, .ref c)] [] := by
  refine m_aload_n F rfl e_X10_remembers_50 ?_
  refine r_get F e_X10_remembers_51 fl_X10_59 h1 rfl (fun v hv f5895 => ?_)
  obtain rfl : v = .ref (c + 16) := hv
  refine m_iconst F (v := 0) (by decide) e_X10_remembers_54 ?_
  refine m_aload_n F rfl e_X10_remembers_55 ?_
  refine r_get F e_X10_remembers_56 fl_X10_72 h1 rfl (fun v hv f5896 => ?_)
  obtain rfl : v = .ref (c + 20) := hv
  refine m_sipush F (v := 1113) (by decide) e_X10_remembers_59 ?_
  refine m_aload_n F rfl e_X10_remembers_62 ?_
  refine r_get F e_X10_remembers_63 fl_X10_214 h1 rfl (fun v hv f5897 => ?_)
  obtain rfl : v = .int (nI (u1)) := hv
  refine m_imul F e_X10_remembers_66 ?_
  refine Wm.topE (w := nI (1113 * u1)) (pk_mul 1113 u1) ?_
  obtain ⟨f5898, e5899, te5899⟩ : ∃ f, τ (c + 16) = some (aJ V 1113 f) ∧ ∀ i, i < 1113 → EJ L i (f i) := h1.1.cell (k := 16) (by decide)
  obtain ⟨g5900, e5901, te5901⟩ : ∃ f, τ (c + 20) = some (aJ V 22260 f) ∧ _ := h1.1.cell (k := 20) (by decide)
  refine m_callS F e_X10_remembers_67 (q_copies (x_l X) V _ _ (c + 16) (c + 20) 1113 22260 0 (1113 * u1) f5898 g5900 e5899 e5901 (by omega) (by omega) (by omega) (by omega)) cb_X10_copies ml_X10_230 sm_X10_copies rfl (rest := []) rfl (Nat.le_of_ble_eq_true rfl) ⟨Nat.le_of_ble_eq_true rfl, Nat.le_of_ble_eq_true rfl⟩ ⟨Nat.le_of_ble_eq_true rfl, Nat.le_of_ble_eq_true rfl⟩ (k' := 0) (z' := 0) (N' := N) rfl rfl rfl (fun r σ5902 hp => ?_)
  obtain ⟨p5903, rfl⟩ := hp
  have h5904 := HS.cpK h1 (by decide) e5901 p5903
  have ga5905 : GB V c 20 22260 (1113 * u1) L σ5902 := ⟨_, p5903.1, fun i hi => by rw [cpy_at hi, Nat.zero_add]; exact te5899 i hi⟩
  refine m_aload_n F rfl e_X10_remembers_70 ?_
  refine m_dup F rfl e_X10_remembers_71 ?_
  refine r_getC F e_X10_remembers_72 fl_X10_214 h5904 ((fld_eq (p5903.2 _ (by omega))).trans f5897) ?_
  refine m_iconst F (v := 1) (by decide) e_X10_remembers_75 ?_
  refine m_iadd F e_X10_remembers_76 ?_
  refine Wm.topE (w := nI (u1 + 1)) (nI_add u1 1) ?_
  obtain ⟨fs, e1, ty⟩ : ∃ fs, σ5902 c = some (ob 8 fs) ∧ TyO c (⟨T, Z, u1, h, P, L⟩ : RG) fs := h5904.1.cell (k := 0) (by decide)
  refine r_putM F (g := (⟨T, Z, u1, h, P, L⟩ : RG)) (g' := ⟨T, Z, u1 + 1, h, P, L⟩) e_X10_remembers_77 fp_X10_214 e1 ty h5904.2 (by decide) rfl ctl_u (fun a ha => ?_) rfl rfl (by decide) (fun σ5906 h5907 _ _ _ => ?_)
  · by_cases h9 : kC c a = 21
    · have h8 := kC_un (k := 20) h9
      subst h8
      rw [h9]
      obtain ⟨f3, e3, t3⟩ : ∃ f, σ5902 (c + 20) = some (aJ V 22260 f) ∧ ∀ j, j < u1 → GR P.kk (fun i => f (1113 * j + i)) := h5904.1.cell (k := 20) (by decide)
      refine ⟨f3, e3, fun j hj => ?_⟩
      by_cases hj1 : j < u1
      · exact t3 j hj1
      · have hj2 : j = u1 := by have hj3 : j < u1 + 1 := hj; omega
        subst hj2
        obtain ⟨f4, e4, t4⟩ := ga5905
        have h7 : f4 = f3 := by
          rw [e3] at e4
          exact (congrArg (fun e : Option va_E => match e with | some (.inl (_, _, .inr (.inl f))) => f | _ => fun _ => 0) e4).symm
        subst h7
        exact ⟨L, by rw [hkk]; exact hok, t4⟩
    · exact CR.unoth _ (fun e => ha (by have h8 := kC_un (k := 0) e; omega)) h9 _ (h5904.1 a)
  exact m_vret F hQ e_X10_remembers_80 (⟨u1 + 1, by omega, h5907, rfl⟩)
set_option maxRecDepth 20000 in
theorem lq_rem {V : VX} {X : MX} {N : Nat} {σ : Mem} {c T Z u h : Nat} {P : NP} {L : Nat → LQ} {f : Nat → Int64} {fs : List Value} (F : Fx V X yX10_remembers cX10_remembers 2 none (rmd 1 0 0)) (hQ : Rt V X 0 0 N (fun r τ => ∃ u9, u9 ≤ 20 ∧ HS V c (⟨T, Z, u9, h, P, L⟩ : RG) [0, 2, 3, 4, 5, 6, 7, 8, 9, 10, 11, 12, 13, 14, 15, 16, 17, 18, 19, 20, 22, 23] σ τ ∧ r = none)) (hok : OKL P.n0 L) (hP : OKP P) (hkk : P.kk = P.n0)  (hu : u = 20) (h0 : HR V c ⟨T, Z, u, h, P, L⟩ σ) (e1 : σ c = some (ob 8 fs)) (ty : TyO c ⟨T, Z, u, h, P, L⟩ fs) (e31 : fs[31]? = some (.ref (c + 20))) (e32 : fs[32]? = some (.int (nI u))) (e3 : ∀ j, j < u → GR P.kk (fun i => f (1113 * j + i))) : ∀ (fuel k : Nat) (τ : Mem), upto c 20 (aJ V 22260 (shf f k)) σ τ → k ≤ 21147 → 21147 - k < fuel → Wm V X 2 N τ 0 0 11 [(1, .int (nI k)), (0, .ref c)] [] := by
  intro fuel
  induction fuel with
  | zero => intros; rename_i hm; exact absurd hm (Nat.not_lt_zero _)
  | succ fuel ih =>
    intro k τ hτ hk hm
    refine m_iload_n F rfl e_X10_remembers_11 ?_
    refine m_sipush F (v := 21147) (by decide) e_X10_remembers_12 ?_
    refine m_icmp_ge F e_X10_remembers_15 (fun q15 => ?_) (fun q15 => ?_)
    · have c15 : k ≥ 21147 := (nI_leI (a := 21147) (b := k) (by omega) (by omega)).mp q15
      refine m_aload_n F rfl e_X10_remembers_40 ?_
      refine m_dup F rfl e_X10_remembers_41 ?_
      refine m_get F e_X10_remembers_42 fl_X10_214 ((hτ.2 c (by omega)).trans e1) e32 ?_
      refine m_iconst F (v := 1) (by decide) e_X10_remembers_45 ?_
      refine m_isub F e_X10_remembers_46 ?_
      refine Wm.topE (w := nI (u - 1)) (pk_sub (a := u) (b := 1) (by omega)) ?_
      refine r_putM F (g := ⟨T, Z, u, h, P, L⟩) (g' := ⟨T, Z, u - 1, h, P, L⟩) (σ0 := σ) (ks := [0, 2, 3, 4, 5, 6, 7, 8, 9, 10, 11, 12, 13, 14, 15, 16, 17, 18, 19, 20, 22, 23]) e_X10_remembers_47 fp_X10_214 ((hτ.2 c (by omega)).trans e1) ty (fun a ha => hτ.2 a (fun e => absurd ha (by rw [e, kC_at (k := 20) (by decide)]; decide))) (by decide) rfl ctl_u (fun a ha => ?_) rfl rfl (by decide) (fun σ5908 h5909 _ _ _ => ?_)
      · by_cases h9 : kC c a = 21
        · have h8 := kC_un (k := 20) h9
          subst h8
          rw [h9]
          refine ⟨_, hτ.1, fun j hj => ?_⟩
          have hj2 : j < u - 1 := hj
          obtain ⟨L3, h3, h4⟩ := e3 (j + 1) (by omega)
          refine ⟨L3, h3, fun i hi => ?_⟩
          have h5 := h4 i hi
          show EJ L3 i (shf f k (1113 * j + i))
          rw [show shf f k (1113 * j + i) = f (1113 * (j + 1) + i) by unfold shf; rw [if_pos (by omega)]; congr 1; omega]
          exact h5
        · rw [hτ.2 a (fun e => h9 (by rw [e, kC_at (k := 20) (by decide)]))]
          exact CR.unoth _ (fun e => ha (by have h8 := kC_un (k := 0) e; omega)) h9 _ (h0 a)
      refine Wm.lvsub (lv' := [(0, .ref c)]) ?_ [1] rfl
      exact rem_50 F hQ hok hP hkk (by omega) h5909
    · have c15 : k < 21147 := by have hh := mt (nI_leI (a := 21147) (b := k) (by omega) (by omega)).mpr q15; omega
      refine m_aload_n F rfl e_X10_remembers_18 ?_
      refine m_get F e_X10_remembers_19 fl_X10_72 ((hτ.2 c (by omega)).trans e1) e31 ?_
      refine m_iload_n F rfl e_X10_remembers_22 ?_
      refine m_aload_n F rfl e_X10_remembers_23 ?_
      refine m_get F e_X10_remembers_24 fl_X10_72 ((hτ.2 c (by omega)).trans e1) e31 ?_
      refine m_sipush F (v := 1113) (by decide) e_X10_remembers_27 ?_
      refine m_iload_n F rfl e_X10_remembers_30 ?_
      refine m_iadd F e_X10_remembers_31 ?_
      refine Wm.topE (w := nI (1113 + k)) (nI_add 1113 k) ?_
      refine m_lald F e_X10_remembers_32 hτ.1 (j := 1113 + k) (nI_clamp (by omega)) (vp_in_nI (by omega) (by decide)) ?_
      refine m_last F e_X10_remembers_33 hτ.1 (j := k) (nI_clamp (by omega)) (vp_in_nI (by omega) (by decide)) shf_up rfl ?_
      refine m_iinc F (v := nI (k + 1)) (lv' := [(1, .int (nI (k + 1))), (0, .ref c)]) e_X10_remembers_34 rfl (nI_add k 1) (by decide) rfl ?_
      refine m_goto F e_X10_remembers_37 ?_
      exact ih (k + 1) _ (va_upto hτ) (by omega) (by omega)
set_option maxRecDepth 20000 in
theorem q_X10_remembers (l : Launch) (V : VX) (c T Z u h : Nat) (P : NP) (L : Nat → LQ) (N : Nat) (σ : Mem) (h0 : HR V c ⟨T, Z, u, h, P, L⟩ σ) (hok : OKL P.n0 L) (hP : OKP P) (hp0 : u ≤ 20) (hp1 : P.kk = P.n0) : Ct l V yX10_remembers cX10_remembers 2 none 1 0 0 N σ [.ref c] (fun r τ => ∃ u9, u9 ≤ 20 ∧ HS V c (⟨T, Z, u9, h, P, L⟩ : RG) [0, 2, 3, 4, 5, 6, 7, 8, 9, 10, 11, 12, 13, 14, 15, 16, 17, 18, 19, 20, 22, 23] σ τ ∧ r = none) := by
  refine Ct.of (by decide) (Nat.le_of_ble_eq_true rfl) [(0, .ref c)] rfl (fun X hX F hQ => ?_)
  have h1 : HS V c ⟨T, Z, u, h, P, L⟩ [0, 2, 3, 4, 5, 6, 7, 8, 9, 10, 11, 12, 13, 14, 15, 16, 17, 18, 19, 20, 22, 23] σ σ := HS.start h0
  refine m_aload_n F rfl e_X10_remembers_0 ?_
  refine r_get F e_X10_remembers_1 fl_X10_214 h1 rfl (fun v hv f5910 => ?_)
  obtain rfl : v = .int (nI (u)) := hv
  refine m_bipush F (v := 20) (by decide) e_X10_remembers_4 ?_
  refine m_icmp_ne F e_X10_remembers_6 (fun q6 => ?_) (fun q6 => ?_)
  · have c6 : u ≠ 20 := by have hh := mt (nI_eq (a := u) (b := 20) (by omega) (by omega)).mpr q6; omega
    exact rem_50 F hQ hok hP hp1 (by omega) h1
  · have c6 : u = 20 := (nI_eq (a := u) (b := 20) (by omega) (by omega)).mp q6
    refine m_iconst F (v := 0) (by decide) e_X10_remembers_9 ?_
    refine m_istore_n F (lv' := [(1, .int 0), (0, .ref c)]) e_X10_remembers_10 (by decide) rfl ?_
    obtain ⟨fs, e1, ty⟩ : ∃ fs, σ c = some (ob 8 fs) ∧ TyO c ⟨T, Z, u, h, P, L⟩ fs := h0.cell (k := 0) (by decide)
    obtain ⟨f, e2, e3⟩ : ∃ f, σ (c + 20) = some (aJ V 22260 f) ∧ ∀ j, j < u → GR P.kk (fun i => f (1113 * j + i)) := h0.cell (k := 20) (by decide)
    obtain ⟨_, e31, rfl⟩ := ty.2 31 (3, 20) rfl
    obtain ⟨_, e32, rfl⟩ := ty.2 32 (7, 0) rfl
    exact lq_rem F hQ hok hP hp1 (by omega) h0 e1 ty e31 e32 e3 21148 0 _ ⟨by rw [shf_0]; exact e2, fun _ _ => rfl⟩ (by omega) (by omega)
set_option maxRecDepth 20000 in
theorem lq_X10_ahead_15 {V : VX} {X : MX} {N : Nat} {σ : Mem} {c T Z u h : Nat} {P : NP} {L : Nat → LQ}  {n901 : Nat} (F : Fx V X yX10_ahead cX10_ahead 3 none (rmd 4 0 0)) (hQ : Rt V X 0 0 N (fun r τ => ∃ L9, OKL P.n0 L9 ∧ GB V c 17 1113 0 L τ ∧ HS V c (⟨T, Z, u, h, P, L9⟩ : RG) [0, 1, 2, 3, 4, 5, 6, 7, 8, 9, 10, 11, 12, 13, 14, 15, 16, 19, 20, 21, 22] σ τ ∧ r = none)) (hok : OKL P.n0 L) (hP : OKP P) (hn901 : n901 ≤ 72)  : ∀ (fuel : Nat) (i : Nat) (L1 : Nat → LQ) (τ : Mem), HS V c (⟨T, Z, u, h, P, L1⟩ : RG) [0, 1, 2, 3, 4, 5, 6, 7, 8, 9, 10, 11, 12, 13, 14, 15, 16, 19, 20, 21, 22] σ τ → OKL P.n0 L1 → i ≤ n901 ∧ GB V c 17 1113 0 L τ → n901 - i < fuel → Wm V X 3 N τ 0 0 15 [(0, .ref c), (1, .int (nI n901)), (2, .int (nI i))] [] := by
  intro fuel
  induction fuel with
  | zero => intros; rename_i hm; exact absurd hm (Nat.not_lt_zero _)
  | succ fuel ih =>
    intro i L1 τ h1 hok1 hi hm
    have hPP := hP
    unfold OKP at hPP
    have ga0 := hi.2
    refine m_iload_n F rfl e_X10_ahead_15 ?_
    refine m_iload_n F rfl e_X10_ahead_16 ?_
    refine m_icmp_ge F e_X10_ahead_17 (fun q17 => ?_) (fun q17 => ?_)
    · have c17 : i ≥ n901 := (nI_leI (a := n901) (b := i) (by omega) (by omega)).mp q17
      exact m_vret F hQ e_X10_ahead_45 (⟨L1, hok1, (by first | omega | rfl | assumption), h1, rfl⟩)
    · have c17 : i < n901 := by have hh := mt (nI_leI (a := n901) (b := i) (by omega) (by omega)).mpr q17; omega
      refine m_aload_n F rfl e_X10_ahead_20 ?_
      refine r_get F e_X10_ahead_21 fl_X10_59 h1 rfl (fun v hv f5911 => ?_)
      obtain rfl : v = .ref (c + 16) := hv
      refine m_sipush F (v := 744) (by decide) e_X10_ahead_24 ?_
      refine r_sld F (j := 744) e_X10_ahead_27 h1 (by decide) (by unfold vp_in; decide) (fun x5912 h5913 f5914 => ?_)
      have hl5915 := hok1.1
      obtain rfl : x5912 = lN (L1 4).1 := EJ_p.mp h5913
      refine m_ldc2 F kc_X10_284 e_X10_ahead_28 ?_
      refine m_lcmp F e_X10_ahead_31 ?_
      refine m_if_ge F e_X10_ahead_32 (fun q32 => ?_) (fun q32 => ?_)
      · have c32 : ((L1 4).1) ≥ 99 := (lN_le (a := 99) (b := ((L1 4).1)) (by omega) (by omega)).mp ((lg_cmp_ge _ _).mp q32)
        exact m_vret F hQ e_X10_ahead_45 (⟨L1, hok1, (by first | omega | rfl | assumption), h1, rfl⟩)
      · have c32 : ((L1 4).1) < 99 := by have hh := mt (fun h9 => (lg_cmp_ge (lN ((L1 4).1)) (lN 99)).mpr ((lN_le (a := 99) (b := ((L1 4).1)) (by omega) (by omega)).mpr h9)) q32; omega
        refine m_aload_n F rfl e_X10_ahead_35 ?_
        refine r_callV F e_X10_ahead_36 (q_X10_periodGoes (x_l X) V c T Z u h P L1 _ _  h1.1 (hok1) hP (by first | omega | assumption | decide)) cb_X10_periodGoes ml_X10_289 im_X10_periodGoes se_X10_periodGoes h1 rfl rfl (rest := []) rfl (Nat.le_of_ble_eq_true rfl) ⟨Nat.le_of_ble_eq_true rfl, Nat.le_of_ble_eq_true rfl⟩ ⟨Nat.le_of_ble_eq_true rfl, Nat.le_of_ble_eq_true rfl⟩ (fun r σ5916 hp => ?_)
        obtain ⟨L5919, okL5919, r5920, h5917, rfl⟩ := hp
        have h5918 := HS.trans h1 h5917 (by decide)
        have ga5921 := ga0.of (h5917.2 (c + 17) (by rw [kC_at (k := 17) (by decide)]; decide))
        refine m_iinc F (v := nI (i + 1)) (lv' := [(2, .int (nI (i + 1))), (0, .ref c), (1, .int (nI n901))]) e_X10_ahead_39 rfl (nI_add i 1) (by decide) rfl ?_
        refine m_goto F e_X10_ahead_42 ?_
        refine Wm.lvsub (lv' := [(0, .ref c), (1, .int (nI n901)), (2, .int (nI (i + 1)))]) ?_ [1, 2, 0] rfl
        exact ih (i + 1) L5919 _ h5918 okL5919 ⟨by omega, by assumption⟩ (by omega)
set_option maxRecDepth 20000 in
theorem q_X10_ahead (l : Launch) (V : VX) (c T Z u h : Nat) (P : NP) (L : Nat → LQ) (N : Nat) (σ : Mem) (n901 : Nat) (h0 : HR V c ⟨T, Z, u, h, P, L⟩ σ) (hok : OKL P.n0 L) (hP : OKP P) (hn901 : n901 ≤ 72) : Ct l V yX10_ahead cX10_ahead 3 none 4 0 0 N σ [.ref c, .int (nI n901)] (fun r τ => ∃ L9, OKL P.n0 L9 ∧ GB V c 17 1113 0 L τ ∧ HS V c (⟨T, Z, u, h, P, L9⟩ : RG) [0, 1, 2, 3, 4, 5, 6, 7, 8, 9, 10, 11, 12, 13, 14, 15, 16, 19, 20, 21, 22] σ τ ∧ r = none) := by
  refine Ct.of (by decide) (Nat.le_of_ble_eq_true rfl) [(0, .ref c), (1, .int (nI n901))] rfl (fun X hX F hQ => ?_)
  have hPP := hP
  unfold OKP at hPP
  have h1 : HS V c ⟨T, Z, u, h, P, L⟩ [0, 1, 2, 3, 4, 5, 6, 7, 8, 9, 10, 11, 12, 13, 14, 15, 16, 19, 20, 21, 22] σ σ := HS.start h0
  refine m_aload_n F rfl e_X10_ahead_0 ?_
  refine r_get F e_X10_ahead_1 fl_X10_59 h1 rfl (fun v hv f5922 => ?_)
  obtain rfl : v = .ref (c + 16) := hv
  refine m_iconst F (v := 0) (by decide) e_X10_ahead_4 ?_
  refine m_aload_n F rfl e_X10_ahead_5 ?_
  refine r_get F e_X10_ahead_6 fl_X10_63 h1 rfl (fun v hv f5923 => ?_)
  obtain rfl : v = .ref (c + 17) := hv
  refine m_iconst F (v := 0) (by decide) e_X10_ahead_9 ?_
  obtain ⟨f5924, e5925, te5925⟩ : ∃ f, σ (c + 16) = some (aJ V 1113 f) ∧ ∀ i, i < 1113 → EJ L i (f i) := h1.1.cell (k := 16) (by decide)
  obtain ⟨g5926, e5927⟩ : ∃ f, σ (c + 17) = some (aJ V 1113 f) := h1.1.cell (k := 17) (by decide)
  refine m_callS F e_X10_ahead_10 (q_copies (x_l X) V _ _ (c + 16) (c + 17) 1113 1113 0 0 f5924 g5926 e5925 e5927 (by omega) (by omega) (by omega) (by omega)) cb_X10_copies ml_X10_230 sm_X10_copies rfl (rest := []) rfl (Nat.le_of_ble_eq_true rfl) ⟨Nat.le_of_ble_eq_true rfl, Nat.le_of_ble_eq_true rfl⟩ ⟨Nat.le_of_ble_eq_true rfl, Nat.le_of_ble_eq_true rfl⟩ (k' := 0) (z' := 0) (N' := N) rfl rfl rfl (fun r σ5928 hp => ?_)
  obtain ⟨p5929, rfl⟩ := hp
  have h5930 := HS.cp (k := 17) (g' := (⟨T, Z, u, h, P, L⟩ : RG)) h1 p5929 (by decide) (by decide) ⟨_, rfl⟩ (fun _ _ _ q => q)
  have ga5931 : GB V c 17 1113 0 L σ5928 := ⟨_, p5929.1, fun i hi => by rw [show 0 + i = i from Nat.zero_add i, cpy_at0 hi, Nat.zero_add]; exact te5925 i hi⟩
  refine m_iconst F (v := 0) (by decide) e_X10_ahead_13 ?_
  refine m_istore_n F (lv' := [(2, .int 0), (0, .ref c), (1, .int (nI n901))]) e_X10_ahead_14 (by decide) rfl ?_
  refine Wm.lvsub (lv' := [(0, .ref c), (1, .int (nI n901)), (2, .int 0)]) ?_ [1, 2, 0] rfl
  exact lq_X10_ahead_15 F hQ hok hP hn901 (n901 - 0 + 1) 0 L _ h5930 hok ⟨by omega, by assumption⟩ (Nat.lt_succ_self _)
set_option maxRecDepth 20000 in
theorem q_X10_back1 (l : Launch) (V : VX) (c T Z u h : Nat) (P : NP) (L : Nat → LQ) (N : Nat) (σ : Mem) (L2 : Nat → LQ) (h0 : HR V c ⟨T, Z, u, h, P, L⟩ σ) (hob : OKB L) (hP : OKP P) (hp0 : GB V c 17 1113 0 L2 σ) : Ct l V yX10_back1 cX10_back1 1 none 1 0 0 N σ [.ref c] (fun r τ => HS V c (⟨T, Z, u, h, P, L2⟩ : RG) [0, 1, 2, 3, 4, 5, 6, 7, 8, 9, 10, 11, 12, 13, 14, 15, 16, 18, 19, 20, 21, 22, 23] σ τ ∧ r = none) := by
  refine Ct.of (by decide) (Nat.le_of_ble_eq_true rfl) [(0, .ref c)] rfl (fun X hX F hQ => ?_)
  have hPP := hP
  unfold OKP at hPP
  have h1 : HS V c ⟨T, Z, u, h, P, L⟩ [0, 1, 2, 3, 4, 5, 6, 7, 8, 9, 10, 11, 12, 13, 14, 15, 16, 18, 19, 20, 21, 22, 23] σ σ := HS.start h0
  refine m_aload_n F rfl e_X10_back1_0 ?_
  refine r_get F e_X10_back1_1 fl_X10_63 h1 rfl (fun v hv f5932 => ?_)
  obtain rfl : v = .ref (c + 17) := hv
  refine m_iconst F (v := 0) (by decide) e_X10_back1_4 ?_
  refine m_aload_n F rfl e_X10_back1_5 ?_
  refine r_get F e_X10_back1_6 fl_X10_59 h1 rfl (fun v hv f5933 => ?_)
  obtain rfl : v = .ref (c + 16) := hv
  refine m_iconst F (v := 0) (by decide) e_X10_back1_9 ?_
  have xe5935 := hp0
  obtain ⟨f5934, e5935, te5935⟩ := xe5935
  obtain ⟨g5936, e5937, te5937⟩ : ∃ f, σ (c + 16) = some (aJ V 1113 f) ∧ _ := h1.1.cell (k := 16) (by decide)
  refine m_callS F e_X10_back1_10 (q_copies (x_l X) V _ _ (c + 17) (c + 16) 1113 1113 0 0 f5934 g5936 e5935 e5937 (by omega) (by omega) (by omega) (by omega)) cb_X10_copies ml_X10_230 sm_X10_copies rfl (rest := []) rfl (Nat.le_of_ble_eq_true rfl) ⟨Nat.le_of_ble_eq_true rfl, Nat.le_of_ble_eq_true rfl⟩ ⟨Nat.le_of_ble_eq_true rfl, Nat.le_of_ble_eq_true rfl⟩ (k' := 0) (z' := 0) (N' := N) rfl rfl rfl (fun r σ5938 hp => ?_)
  obtain ⟨p5939, rfl⟩ := hp
  have h5940 := HS.cpS (L2 := L2) (o := 0) h1 (by decide) te5935 p5939
  have ga5941 := hp0.of (p5939.2 _ (by omega))
  exact m_vret F hQ e_X10_back1_13 (⟨h5940, rfl⟩)
set_option maxRecDepth 20000 in
theorem lq_X10_go_41 {V : VX} {X : MX} {N : Nat} {σ : Mem} {c T Z u h : Nat} {P : NP} {L : Nat → LQ}   (F : Fx V X yX10_go cX10_go 3 (some .int) (rmd 4 0 0)) (hQ : Rt V X 0 0 N (fun r τ => ∃ u9, u9 ≤ 20 ∧ ∃ L9, OKL P.n0 L9 ∧ HS V c (⟨T, Z, u9, h, P, L9⟩ : RG) [0, 2, 3, 4, 5, 6, 7, 8, 9, 10, 11, 12, 13, 14, 15, 16, 18, 19, 20, 22] σ τ ∧ ∃ x : Int32, r = some (.int x))) (hok : OKL P.n0 L) (hP : OKP P) (hp0 : u ≤ 20) (hp1 : P.kk = P.n0)  : ∀ (fuel : Nat) (a : Nat) (i : Nat) (u1 : Nat) (L1 : Nat → LQ) (τ : Mem), HS V c (⟨T, Z, u1, h, P, L1⟩ : RG) [0, 2, 3, 4, 5, 6, 7, 8, 9, 10, 11, 12, 13, 14, 15, 16, 18, 19, 20, 22] σ τ → OKL P.n0 L1 → u1 ≤ 20 ∧ a ≤ 12 ∧ i ≤ a ∧ (L1 4).1 + a ≤ 99 + i → a - i < fuel → Wm V X 3 N τ 0 0 41 [(0, .ref c), (1, .int (nI a)), (2, .int (nI i))] [] := by
  intro fuel
  induction fuel with
  | zero => intros; rename_i hm; exact absurd hm (Nat.not_lt_zero _)
  | succ fuel ih =>
    intro a i u1 L1 τ h1 hok1 hi hm
    have hPP := hP
    unfold OKP at hPP
    refine m_iload_n F rfl e_X10_go_41 ?_
    refine m_iload_n F rfl e_X10_go_42 ?_
    refine m_icmp_ge F e_X10_go_43 (fun q43 => ?_) (fun q43 => ?_)
    · have c43 : i ≥ a := (nI_leI (a := a) (b := i) (by omega) (by omega)).mp q43
      refine m_aload_n F rfl e_X10_go_60 ?_
      refine r_get F e_X10_go_61 fl_X10_59 h1 rfl (fun v hv f5942 => ?_)
      obtain rfl : v = .ref (c + 16) := hv
      refine m_sipush F (v := 744) (by decide) e_X10_go_64 ?_
      refine r_sld F (j := 744) e_X10_go_67 h1 (by decide) (by unfold vp_in; decide) (fun x5943 h5944 f5945 => ?_)
      have hl5946 := hok1.1
      obtain rfl : x5943 = lN (L1 4).1 := EJ_p.mp h5944
      refine m_l2i F e_X10_go_68 ?_
      refine Wm.topE (w := nI ((L1 4).1)) (lN_i ((L1 4).1)) ?_
      exact m_iret F hQ e_X10_go_69 (⟨u1, by omega, L1, hok1, h1, _, rfl⟩)
    · have c43 : i < a := by have hh := mt (nI_leI (a := a) (b := i) (by omega) (by omega)).mpr q43; omega
      refine m_aload_n F rfl e_X10_go_46 ?_
      refine r_callV F e_X10_go_47 (q_X10_remembers (x_l X) V c T Z u1 h P L1 _ _  h1.1 (hok1) hP (by first | omega | assumption | decide) (by first | omega | assumption | decide)) cb_X10_remembers ml_X10_286 im_X10_remembers se_X10_remembers h1 rfl rfl (rest := []) rfl (Nat.le_of_ble_eq_true rfl) ⟨Nat.le_of_ble_eq_true rfl, Nat.le_of_ble_eq_true rfl⟩ ⟨Nat.le_of_ble_eq_true rfl, Nat.le_of_ble_eq_true rfl⟩ (fun r σ5947 hp => ?_)
      obtain ⟨u5950, hu5950, h5948, rfl⟩ := hp
      have h5949 := HS.trans h1 h5948 (by decide)
      refine m_aload_n F rfl e_X10_go_50 ?_
      refine r_callV F e_X10_go_51 (q_X10_periodGoes (x_l X) V c T Z u5950 h P L1 _ _  h5949.1 (hok1) hP (by first | omega | assumption | decide)) cb_X10_periodGoes ml_X10_289 im_X10_periodGoes se_X10_periodGoes h5949 rfl rfl (rest := []) rfl (Nat.le_of_ble_eq_true rfl) ⟨Nat.le_of_ble_eq_true rfl, Nat.le_of_ble_eq_true rfl⟩ ⟨Nat.le_of_ble_eq_true rfl, Nat.le_of_ble_eq_true rfl⟩ (fun r σ5951 hp => ?_)
      obtain ⟨L5954, okL5954, r5955, h5952, rfl⟩ := hp
      have h5953 := HS.trans h5949 h5952 (by decide)
      refine m_iinc F (v := nI (i + 1)) (lv' := [(2, .int (nI (i + 1))), (0, .ref c), (1, .int (nI a))]) e_X10_go_54 rfl (nI_add i 1) (by decide) rfl ?_
      refine m_goto F e_X10_go_57 ?_
      refine Wm.lvsub (lv' := [(0, .ref c), (1, .int (nI a)), (2, .int (nI (i + 1)))]) ?_ [1, 2, 0] rfl
      exact ih a (i + 1) u5950 L5954 _ h5953 okL5954 (by omega) (by omega)
set_option maxRecDepth 20000 in
theorem q_X10_go (l : Launch) (V : VX) (c T Z u h : Nat) (P : NP) (L : Nat → LQ) (N : Nat) (σ : Mem) (x901 : Int32) (h0 : HR V c ⟨T, Z, u, h, P, L⟩ σ) (hok : OKL P.n0 L) (hP : OKP P) (hp0 : u ≤ 20) (hp1 : P.kk = P.n0) : Ct l V yX10_go cX10_go 3 (some .int) 4 0 0 N σ [.ref c, .int x901] (fun r τ => ∃ u9, u9 ≤ 20 ∧ ∃ L9, OKL P.n0 L9 ∧ HS V c (⟨T, Z, u9, h, P, L9⟩ : RG) [0, 2, 3, 4, 5, 6, 7, 8, 9, 10, 11, 12, 13, 14, 15, 16, 18, 19, 20, 22] σ τ ∧ ∃ x : Int32, r = some (.int x)) := by
  refine Ct.of (by decide) (Nat.le_of_ble_eq_true rfl) [(0, .ref c), (1, .int x901)] rfl (fun X hX F hQ => ?_)
  have hPP := hP
  unfold OKP at hPP
  have h1 : HS V c ⟨T, Z, u, h, P, L⟩ [0, 2, 3, 4, 5, 6, 7, 8, 9, 10, 11, 12, 13, 14, 15, 16, 18, 19, 20, 22] σ σ := HS.start h0
  refine m_aload_n F rfl e_X10_go_0 ?_
  refine m_iconst F (v := 0) (by decide) e_X10_go_1 ?_
  refine r_put F (g' := (⟨T, Z, u, h, P, L⟩ : RG)) e_X10_go_2 fp_X10_91 h1 (by decide) ⟨_, rfl⟩ (fun _ _ _ _ q => q) (fun _ _ _ q => q) rfl rfl (by decide) (fun σ5956 h5957 g5958 g5959 f5960 => ?_)
  refine m_iload_n F rfl e_X10_go_5 ?_
  refine m_iconst F (v := 1) (by decide) e_X10_go_6 ?_
  refine m_icmp_lt F e_X10_go_7 (fun q7 => ?_) (fun q7 => ?_)
  · refine m_iconst F (v := (-1)) (by decide) e_X10_go_16 ?_
    exact m_iret F hQ e_X10_go_17 (⟨u, by omega, L, hok, h5957, _, rfl⟩)
  · obtain ⟨n5961, hn5961, rfl⟩ := nI_nn (x := x901) (fun e => q7 (Int32.lt_of_lt_of_le e (by decide)))
    have c7 : n5961 ≥ 1 := by have hh := mt (nI_ltI (a := n5961) (b := 1) (by omega) (by omega)).mpr q7; omega
    refine m_iload_n F rfl e_X10_go_10 ?_
    refine m_bipush F (v := 12) (by decide) e_X10_go_11 ?_
    refine m_icmp_le F e_X10_go_13 (fun q13 => ?_) (fun q13 => ?_)
    · have c13 : n5961 ≤ 12 := (nI_leI (a := n5961) (b := 12) (by omega) (by omega)).mp q13
      refine m_aload_n F rfl e_X10_go_18 ?_
      refine r_get F e_X10_go_19 fl_X10_59 h5957 rfl (fun v hv f5962 => ?_)
      obtain rfl : v = .ref (c + 16) := hv
      refine m_sipush F (v := 744) (by decide) e_X10_go_22 ?_
      refine r_sld F (j := 744) e_X10_go_25 h5957 (by decide) (by unfold vp_in; decide) (fun x5963 h5964 f5965 => ?_)
      have hl5966 := hok.1
      obtain rfl : x5963 = lN (L 4).1 := EJ_p.mp h5964
      refine m_iload_n F rfl e_X10_go_26 ?_
      refine m_i2l F e_X10_go_27 ?_
      refine Wm.toplE (w := lN n5961) (nI_l (by omega)) ?_
      refine m_ladd F e_X10_go_28 ?_
      refine Wm.toplE (w := lN (((L 4).1) + n5961)) (lN_add ((L 4).1) n5961) ?_
      refine m_ldc2 F kc_X10_284 e_X10_go_29 ?_
      refine m_lcmp F e_X10_go_32 ?_
      refine m_if_le F e_X10_go_33 (fun q33 => ?_) (fun q33 => ?_)
      · have c33 : (((L 4).1) + n5961) ≤ 99 := (lN_le (a := (((L 4).1) + n5961)) (b := 99) (by omega) (by omega)).mp ((lg_cmp_le _ _).mp q33)
        refine m_iconst F (v := 0) (by decide) e_X10_go_39 ?_
        refine m_istore_n F (lv' := [(2, .int 0), (0, .ref c), (1, .int (nI n5961))]) e_X10_go_40 (by decide) rfl ?_
        refine Wm.lvsub (lv' := [(0, .ref c), (1, .int (nI n5961)), (2, .int 0)]) ?_ [1, 2, 0] rfl
        exact lq_X10_go_41 F hQ hok hP hp0 hp1 (n5961 - 0 + 1) n5961 0 u L _ h5957 hok (by omega) (Nat.lt_succ_self _)
      · have c33 : (((L 4).1) + n5961) > 99 := by have hh := mt (fun h9 => (lg_cmp_le (lN (((L 4).1) + n5961)) (lN 99)).mpr ((lN_le (a := (((L 4).1) + n5961)) (b := 99) (by omega) (by omega)).mpr h9)) q33; omega
        refine m_bipush F (v := (-2)) (by decide) e_X10_go_36 ?_
        exact m_iret F hQ e_X10_go_38 (⟨u, by omega, L, hok, h5957, _, rfl⟩)
    · have c13 : n5961 > 12 := by have hh := mt (nI_leI (a := n5961) (b := 12) (by omega) (by omega)).mpr q13; omega
      refine m_iconst F (v := (-1)) (by decide) e_X10_go_16 ?_
      exact m_iret F hQ e_X10_go_17 (⟨u, by omega, L, hok, h5957, _, rfl⟩)
set_option maxRecDepth 20000 in
theorem q_X10_areAhead2 (l : Launch) (V : VX) (N : Nat) (σ : Mem) (x901 : Int32)  : Ct l V yX10_areAhead cX10_areAhead 1 (some .boolean) 0 0 0 N σ [.int x901] (fun r τ => τ = σ ∧ (r = some (.int 0) ∨ ∃ j : Nat, j ≤ 72 ∧ x901 = nI j ∧ r = some (.int 1))) := by
  refine Ct.of (by decide) (Nat.le_of_ble_eq_true rfl) [(0, .int x901)] rfl (fun X hX F hQ => ?_)
  refine m_iload_n F rfl e_X10_areAhead_0 ?_
  refine m_if_lt F e_X10_areAhead_1 (fun q1 => ?_) (fun q1 => ?_)
  · refine m_iconst F (v := 0) (by decide) e_X10_areAhead_14 ?_
    exact m_zret F hQ e_X10_areAhead_15 (by decide) (⟨rfl, Or.inl rfl⟩)
  · obtain ⟨n5967, hn5967, rfl⟩ := nI_nn (x := x901) (fun e => q1 (Int32.lt_of_lt_of_le e (by decide)))
    have c1 : n5967 ≥ 0 := by have hh := mt (nI_ltI (a := n5967) (b := 0) (by omega) (by omega)).mpr q1; omega
    refine m_iload_n F rfl e_X10_areAhead_4 ?_
    refine m_bipush F (v := 72) (by decide) e_X10_areAhead_5 ?_
    refine m_icmp_gt F e_X10_areAhead_7 (fun q7 => ?_) (fun q7 => ?_)
    · have c7 : n5967 > 72 := (nI_ltI (a := 72) (b := n5967) (by omega) (by omega)).mp q7
      refine m_iconst F (v := 0) (by decide) e_X10_areAhead_14 ?_
      exact m_zret F hQ e_X10_areAhead_15 (by decide) (⟨rfl, Or.inl rfl⟩)
    · have c7 : n5967 ≤ 72 := by have hh := mt (nI_ltI (a := 72) (b := n5967) (by omega) (by omega)).mpr q7; omega
      refine m_iconst F (v := 1) (by decide) e_X10_areAhead_10 ?_
      refine m_goto F e_X10_areAhead_11 ?_
      exact m_zret F hQ e_X10_areAhead_15 (by decide) (⟨rfl, Or.inr ⟨n5967, by omega, rfl, rfl⟩⟩)
set_option maxRecDepth 20000 in
theorem q_X10_plan (l : Launch) (V : VX) (c T Z u h : Nat) (P : NP) (L : Nat → LQ) (N : Nat) (σ : Mem) (x901 : Int32) (x902 : Int32) (x903 : Int32) (h0 : HR V c ⟨T, Z, u, h, P, L⟩ σ) (hok : OKL P.n0 L) (hP : OKP P)  : Ct l V yX10_plan cX10_plan 10 (some .long) 5 0 0 N σ [.ref c, .int x901, .int x902, .int x903] (fun r τ => HS V c (⟨T, Z, u, h, P, L⟩ : RG) [0, 2, 3, 4, 5, 6, 7, 8, 9, 10, 11, 12, 13, 14, 15, 16, 19, 20, 21, 22] σ τ ∧ ∃ x : Int64, r = some (.long x)) := by
  refine Ct.of (by decide) (Nat.le_of_ble_eq_true rfl) [(0, .ref c), (1, .int x901), (2, .int x902), (3, .int x903)] rfl (fun X hX F hQ => ?_)
  have hPP := hP
  unfold OKP at hPP
  have h1 : HS V c ⟨T, Z, u, h, P, L⟩ [0, 2, 3, 4, 5, 6, 7, 8, 9, 10, 11, 12, 13, 14, 15, 16, 19, 20, 21, 22] σ σ := HS.start h0
  refine m_aload_n F rfl e_X10_plan_0 ?_
  refine m_iconst F (v := 0) (by decide) e_X10_plan_1 ?_
  refine r_put F (g' := (⟨T, Z, u, h, P, L⟩ : RG)) e_X10_plan_2 fp_X10_91 h1 (by decide) ⟨_, rfl⟩ (fun _ _ _ _ q => q) (fun _ _ _ q => q) rfl rfl (by decide) (fun σ5968 h5969 g5970 g5971 f5972 => ?_)
  refine m_aload_n F rfl e_X10_plan_5 ?_
  refine m_iload_n F rfl e_X10_plan_6 ?_
  refine r_callV F e_X10_plan_7 (q_X10_isLease (x_l X) V c T Z u h P L _ _ x901 h5969.1 (hok.b) hP ) cb_X10_isLease ml_X10_292 im_X10_isLease se_X10_isLease h5969 rfl rfl (rest := []) rfl (Nat.le_of_ble_eq_true rfl) ⟨Nat.le_of_ble_eq_true rfl, Nat.le_of_ble_eq_true rfl⟩ ⟨Nat.le_of_ble_eq_true rfl, Nat.le_of_ble_eq_true rfl⟩ (fun r σ5973 hp => ?_)
  obtain ⟨h5974, c5976⟩ := hp
  have h5975 := HS.trans h5969 h5974 (by decide)
  rcases c5976 with rfl | ⟨n5977, h5978, e5979, rfl⟩
  · refine m_if_eq F e_X10_plan_10 (fun _ => ?_) (fun q => absurd (by decide) q)
    refine m_ldc2 F kc_X10_245 e_X10_plan_29 ?_
    exact m_lret F hQ e_X10_plan_32 (⟨h5975, _, rfl⟩)
  · subst e5979
    refine m_if_eq F e_X10_plan_10 (fun q => absurd q (by decide)) (fun _ => ?_)
    refine m_iload_n F rfl e_X10_plan_13 ?_
    refine m_callS F e_X10_plan_14 (q_X10_areAhead2 (x_l X) V _ _ x902 ) cb_X10_areAhead ml_X10_326 sm_X10_areAhead rfl (rest := []) rfl (Nat.le_of_ble_eq_true rfl) ⟨Nat.le_of_ble_eq_true rfl, Nat.le_of_ble_eq_true rfl⟩ ⟨Nat.le_of_ble_eq_true rfl, Nat.le_of_ble_eq_true rfl⟩ (k' := 0) (z' := 0) (N' := N) rfl rfl rfl (fun r σ5980 hp => ?_)
    obtain ⟨rfl, c5983⟩ := hp
    rcases c5983 with rfl | ⟨n5984, h5985, e5986, rfl⟩
    · refine m_if_eq F e_X10_plan_17 (fun _ => ?_) (fun q => absurd (by decide) q)
      refine m_ldc2 F kc_X10_245 e_X10_plan_29 ?_
      exact m_lret F hQ e_X10_plan_32 (⟨h5975, _, rfl⟩)
    · subst e5986
      refine m_if_eq F e_X10_plan_17 (fun q => absurd q (by decide)) (fun _ => ?_)
      refine m_iload_n F rfl e_X10_plan_20 ?_
      refine m_if_lt F e_X10_plan_21 (fun q21 => ?_) (fun q21 => ?_)
      · refine m_ldc2 F kc_X10_245 e_X10_plan_29 ?_
        exact m_lret F hQ e_X10_plan_32 (⟨h5975, _, rfl⟩)
      · obtain ⟨n5987, hn5987, rfl⟩ := nI_nn (x := x903) (fun e => q21 (Int32.lt_of_lt_of_le e (by decide)))
        have c21 : n5987 ≥ 0 := by have hh := mt (nI_ltI (a := n5987) (b := 0) (by omega) (by omega)).mpr q21; omega
        refine m_iload_n F rfl e_X10_plan_24 ?_
        refine m_iconst F (v := 3) (by decide) e_X10_plan_25 ?_
        refine m_icmp_le F e_X10_plan_26 (fun q26 => ?_) (fun q26 => ?_)
        · have c26 : n5987 ≤ 3 := (nI_leI (a := n5987) (b := 3) (by omega) (by omega)).mp q26
          refine m_sipush F (v := 160) (by decide) e_X10_plan_33 ?_
          refine m_iload_n F rfl e_X10_plan_36 ?_
          refine m_imul F e_X10_plan_37 ?_
          refine Wm.topE (w := nI (160 * n5977)) (pk_mul 160 n5977) ?_
          refine m_istore F (lv' := [(4, .int (nI (160 * n5977))), (0, .ref c), (1, .int (nI n5977)), (2, .int (nI n5984)), (3, .int (nI n5987))]) e_X10_plan_38 (by decide) rfl ?_
          refine m_iload F rfl e_X10_plan_40 ?_
          refine m_iload_n F rfl e_X10_plan_42 ?_
          refine m_if_ne F e_X10_plan_43 (fun q43 => ?_) (fun q43 => ?_)
          · have c43 : n5987 ≠ 0 := by have hh := mt (nI_eq (a := n5987) (b := 0) (by omega) (by omega)).mpr q43; omega
            refine m_iload_n F rfl e_X10_plan_51 ?_
            refine m_iconst F (v := 1) (by decide) e_X10_plan_52 ?_
            refine m_icmp_ne F e_X10_plan_53 (fun q53 => ?_) (fun q53 => ?_)
            · have c53 : n5987 ≠ 1 := by have hh := mt (nI_eq (a := n5987) (b := 1) (by omega) (by omega)).mpr q53; omega
              refine m_iload_n F rfl e_X10_plan_61 ?_
              refine m_iconst F (v := 2) (by decide) e_X10_plan_62 ?_
              refine m_icmp_ne F e_X10_plan_63 (fun q63 => ?_) (fun q63 => ?_)
              · have c63 : n5987 ≠ 2 := by have hh := mt (nI_eq (a := n5987) (b := 2) (by omega) (by omega)).mpr q63; omega
                refine m_bipush F (v := 9) (by decide) e_X10_plan_71 ?_
                refine m_iadd F e_X10_plan_73 ?_
                refine Wm.topE (w := nI (160 * n5977 + 9)) (nI_add (160 * n5977) 9) ?_
                refine m_istore F (lv' := [(5, .int (nI (160 * n5977 + 9))), (4, .int (nI (160 * n5977))), (0, .ref c), (1, .int (nI n5977)), (2, .int (nI n5984)), (3, .int (nI n5987))]) e_X10_plan_74 (by decide) rfl ?_
                refine m_iload_n F rfl e_X10_plan_76 ?_
                refine m_iconst F (v := 2) (by decide) e_X10_plan_77 ?_
                refine m_icmp_ge F e_X10_plan_78 (fun q78 => ?_) (fun q78 => ?_)
                · have c78 : n5987 ≥ 2 := (nI_leI (a := 2) (b := n5987) (by omega) (by omega)).mp q78
                  refine m_aload_n F rfl e_X10_plan_85 ?_
                  refine r_get F e_X10_plan_86 fl_X10_59 h5975 rfl (fun v hv f5988 => ?_)
                  obtain rfl : v = .ref (c + 16) := hv
                  refine m_iload F rfl e_X10_plan_89 ?_
                  refine r_sld F (j := 160 * n5977 + 9) e_X10_plan_91 h5975 (nI_clamp (by omega)) (vp_in_nI (by omega) (by decide)) (fun x5989 h5990 f5991 => ?_)
                  refine m_lstore F (lv' := [(6, .long x5989), (5, .int (nI (160 * n5977 + 9))), (4, .int (nI (160 * n5977))), (0, .ref c), (1, .int (nI n5977)), (2, .int (nI n5984)), (3, .int (nI n5987))]) e_X10_plan_92 (by decide) rfl ?_
                  refine m_aload_n F rfl e_X10_plan_94 ?_
                  refine m_iload_n F rfl e_X10_plan_95 ?_
                  refine r_callV F e_X10_plan_96 (q_X10_ahead (x_l X) V c T Z u h P L _ _ n5984 h5975.1 (hok) hP (by omega)) cb_X10_ahead ml_X10_329 im_X10_ahead se_X10_ahead h5975 rfl rfl (rest := []) rfl (Nat.le_of_ble_eq_true rfl) ⟨Nat.le_of_ble_eq_true rfl, Nat.le_of_ble_eq_true rfl⟩ ⟨Nat.le_of_ble_eq_true rfl, Nat.le_of_ble_eq_true rfl⟩ (fun r σ5992 hp => ?_)
                  obtain ⟨L5995, okL5995, r5996, h5993, rfl⟩ := hp
                  have h5994 := HS.trans h5975 h5993 (by decide)
                  refine m_aload_n F rfl e_X10_plan_99 ?_
                  refine r_getC F e_X10_plan_100 fl_X10_59 h5994 ((fld_eq (h5993.2 c (by rw [show kC c c = 1 from kC_at (k := 0) (by decide)]; decide))).trans f5988) ?_
                  refine m_iload F rfl e_X10_plan_103 ?_
                  refine r_sld F (j := 160 * n5977 + 9) e_X10_plan_105 h5994 (nI_clamp (by omega)) (vp_in_nI (by omega) (by decide)) (fun x5997 h5998 f5999 => ?_)
                  refine m_lload F rfl e_X10_plan_106 ?_
                  refine m_lsub F e_X10_plan_108 ?_
                  refine Wm.topl (fun x6000 _ => ?_)
                  refine m_lstore F (lv' := [(8, .long x6000), (6, .long x5989), (5, .int (nI (160 * n5977 + 9))), (4, .int (nI (160 * n5977))), (0, .ref c), (1, .int (nI n5977)), (2, .int (nI n5984)), (3, .int (nI n5987))]) e_X10_plan_109 (by decide) rfl ?_
                  refine m_aload_n F rfl e_X10_plan_111 ?_
                  refine r_callV F e_X10_plan_112 (q_X10_back1 (x_l X) V c T Z u h P L5995 _ _ L h5994.1 (okL5995.b) hP r5996) cb_X10_back1 ml_X10_332 im_X10_back1 se_X10_back1 h5994 rfl rfl (rest := []) rfl (Nat.le_of_ble_eq_true rfl) ⟨Nat.le_of_ble_eq_true rfl, Nat.le_of_ble_eq_true rfl⟩ ⟨Nat.le_of_ble_eq_true rfl, Nat.le_of_ble_eq_true rfl⟩ (fun r σ6001 hp => ?_)
                  obtain ⟨h6002, rfl⟩ := hp
                  have h6003 := HS.trans h5994 h6002 (by decide)
                  have ga6004 := r5996.of (h6002.2 (c + 17) (by rw [kC_at (k := 17) (by decide)]; decide))
                  refine m_lload F rfl e_X10_plan_115 ?_
                  exact m_lret F hQ e_X10_plan_117 (⟨h6003, _, rfl⟩)
                · have c78 : n5987 < 2 := by have hh := mt (nI_leI (a := 2) (b := n5987) (by omega) (by omega)).mpr q78; omega
                  refine m_lconst F (v := 0) (by decide) e_X10_plan_81 ?_
                  refine m_goto F e_X10_plan_82 ?_
                  refine m_lstore F (lv' := [(6, .long 0), (5, .int (nI (160 * n5977 + 9))), (4, .int (nI (160 * n5977))), (0, .ref c), (1, .int (nI n5977)), (2, .int (nI n5984)), (3, .int (nI n5987))]) e_X10_plan_92 (by decide) rfl ?_
                  refine m_aload_n F rfl e_X10_plan_94 ?_
                  refine m_iload_n F rfl e_X10_plan_95 ?_
                  refine r_callV F e_X10_plan_96 (q_X10_ahead (x_l X) V c T Z u h P L _ _ n5984 h5975.1 (hok) hP (by omega)) cb_X10_ahead ml_X10_329 im_X10_ahead se_X10_ahead h5975 rfl rfl (rest := []) rfl (Nat.le_of_ble_eq_true rfl) ⟨Nat.le_of_ble_eq_true rfl, Nat.le_of_ble_eq_true rfl⟩ ⟨Nat.le_of_ble_eq_true rfl, Nat.le_of_ble_eq_true rfl⟩ (fun r σ6005 hp => ?_)
                  obtain ⟨L6008, okL6008, r6009, h6006, rfl⟩ := hp
                  have h6007 := HS.trans h5975 h6006 (by decide)
                  refine m_aload_n F rfl e_X10_plan_99 ?_
                  refine r_get F e_X10_plan_100 fl_X10_59 h6007 rfl (fun v hv f6010 => ?_)
                  obtain rfl : v = .ref (c + 16) := hv
                  refine m_iload F rfl e_X10_plan_103 ?_
                  refine r_sld F (j := 160 * n5977 + 9) e_X10_plan_105 h6007 (nI_clamp (by omega)) (vp_in_nI (by omega) (by decide)) (fun x6011 h6012 f6013 => ?_)
                  refine m_lload F rfl e_X10_plan_106 ?_
                  refine m_lsub F e_X10_plan_108 ?_
                  refine Wm.topl (fun x6014 _ => ?_)
                  refine m_lstore F (lv' := [(8, .long x6014), (6, .long 0), (5, .int (nI (160 * n5977 + 9))), (4, .int (nI (160 * n5977))), (0, .ref c), (1, .int (nI n5977)), (2, .int (nI n5984)), (3, .int (nI n5987))]) e_X10_plan_109 (by decide) rfl ?_
                  refine m_aload_n F rfl e_X10_plan_111 ?_
                  refine r_callV F e_X10_plan_112 (q_X10_back1 (x_l X) V c T Z u h P L6008 _ _ L h6007.1 (okL6008.b) hP r6009) cb_X10_back1 ml_X10_332 im_X10_back1 se_X10_back1 h6007 rfl rfl (rest := []) rfl (Nat.le_of_ble_eq_true rfl) ⟨Nat.le_of_ble_eq_true rfl, Nat.le_of_ble_eq_true rfl⟩ ⟨Nat.le_of_ble_eq_true rfl, Nat.le_of_ble_eq_true rfl⟩ (fun r σ6015 hp => ?_)
                  obtain ⟨h6016, rfl⟩ := hp
                  have h6017 := HS.trans h6007 h6016 (by decide)
                  have ga6018 := r6009.of (h6016.2 (c + 17) (by rw [kC_at (k := 17) (by decide)]; decide))
                  refine m_lload F rfl e_X10_plan_115 ?_
                  exact m_lret F hQ e_X10_plan_117 (⟨h6017, _, rfl⟩)
              · have c63 : n5987 = 2 := (nI_eq (a := n5987) (b := 2) (by omega) (by omega)).mp q63
                refine m_bipush F (v := 10) (by decide) e_X10_plan_66 ?_
                refine m_goto F e_X10_plan_68 ?_
                refine m_iadd F e_X10_plan_73 ?_
                refine Wm.topE (w := nI (160 * n5977 + 10)) (nI_add (160 * n5977) 10) ?_
                refine m_istore F (lv' := [(5, .int (nI (160 * n5977 + 10))), (4, .int (nI (160 * n5977))), (0, .ref c), (1, .int (nI n5977)), (2, .int (nI n5984)), (3, .int (nI n5987))]) e_X10_plan_74 (by decide) rfl ?_
                refine m_iload_n F rfl e_X10_plan_76 ?_
                refine m_iconst F (v := 2) (by decide) e_X10_plan_77 ?_
                refine m_icmp_ge F e_X10_plan_78 (fun q78 => ?_) (fun q78 => ?_)
                · have c78 : n5987 ≥ 2 := (nI_leI (a := 2) (b := n5987) (by omega) (by omega)).mp q78
                  refine m_aload_n F rfl e_X10_plan_85 ?_
                  refine r_get F e_X10_plan_86 fl_X10_59 h5975 rfl (fun v hv f6019 => ?_)
                  obtain rfl : v = .ref (c + 16) := hv
                  refine m_iload F rfl e_X10_plan_89 ?_
                  refine r_sld F (j := 160 * n5977 + 10) e_X10_plan_91 h5975 (nI_clamp (by omega)) (vp_in_nI (by omega) (by decide)) (fun x6020 h6021 f6022 => ?_)
                  refine m_lstore F (lv' := [(6, .long x6020), (5, .int (nI (160 * n5977 + 10))), (4, .int (nI (160 * n5977))), (0, .ref c), (1, .int (nI n5977)), (2, .int (nI n5984)), (3, .int (nI n5987))]) e_X10_plan_92 (by decide) rfl ?_
                  refine m_aload_n F rfl e_X10_plan_94 ?_
                  refine m_iload_n F rfl e_X10_plan_95 ?_
                  refine r_callV F e_X10_plan_96 (q_X10_ahead (x_l X) V c T Z u h P L _ _ n5984 h5975.1 (hok) hP (by omega)) cb_X10_ahead ml_X10_329 im_X10_ahead se_X10_ahead h5975 rfl rfl (rest := []) rfl (Nat.le_of_ble_eq_true rfl) ⟨Nat.le_of_ble_eq_true rfl, Nat.le_of_ble_eq_true rfl⟩ ⟨Nat.le_of_ble_eq_true rfl, Nat.le_of_ble_eq_true rfl⟩ (fun r σ6023 hp => ?_)
                  obtain ⟨L6026, okL6026, r6027, h6024, rfl⟩ := hp
                  have h6025 := HS.trans h5975 h6024 (by decide)
                  refine m_aload_n F rfl e_X10_plan_99 ?_
                  refine r_getC F e_X10_plan_100 fl_X10_59 h6025 ((fld_eq (h6024.2 c (by rw [show kC c c = 1 from kC_at (k := 0) (by decide)]; decide))).trans f6019) ?_
                  refine m_iload F rfl e_X10_plan_103 ?_
                  refine r_sld F (j := 160 * n5977 + 10) e_X10_plan_105 h6025 (nI_clamp (by omega)) (vp_in_nI (by omega) (by decide)) (fun x6028 h6029 f6030 => ?_)
                  refine m_lload F rfl e_X10_plan_106 ?_
                  refine m_lsub F e_X10_plan_108 ?_
                  refine Wm.topl (fun x6031 _ => ?_)
                  refine m_lstore F (lv' := [(8, .long x6031), (6, .long x6020), (5, .int (nI (160 * n5977 + 10))), (4, .int (nI (160 * n5977))), (0, .ref c), (1, .int (nI n5977)), (2, .int (nI n5984)), (3, .int (nI n5987))]) e_X10_plan_109 (by decide) rfl ?_
                  refine m_aload_n F rfl e_X10_plan_111 ?_
                  refine r_callV F e_X10_plan_112 (q_X10_back1 (x_l X) V c T Z u h P L6026 _ _ L h6025.1 (okL6026.b) hP r6027) cb_X10_back1 ml_X10_332 im_X10_back1 se_X10_back1 h6025 rfl rfl (rest := []) rfl (Nat.le_of_ble_eq_true rfl) ⟨Nat.le_of_ble_eq_true rfl, Nat.le_of_ble_eq_true rfl⟩ ⟨Nat.le_of_ble_eq_true rfl, Nat.le_of_ble_eq_true rfl⟩ (fun r σ6032 hp => ?_)
                  obtain ⟨h6033, rfl⟩ := hp
                  have h6034 := HS.trans h6025 h6033 (by decide)
                  have ga6035 := r6027.of (h6033.2 (c + 17) (by rw [kC_at (k := 17) (by decide)]; decide))
                  refine m_lload F rfl e_X10_plan_115 ?_
                  exact m_lret F hQ e_X10_plan_117 (⟨h6034, _, rfl⟩)
                · have c78 : n5987 < 2 := by have hh := mt (nI_leI (a := 2) (b := n5987) (by omega) (by omega)).mpr q78; omega
                  refine m_lconst F (v := 0) (by decide) e_X10_plan_81 ?_
                  refine m_goto F e_X10_plan_82 ?_
                  refine m_lstore F (lv' := [(6, .long 0), (5, .int (nI (160 * n5977 + 10))), (4, .int (nI (160 * n5977))), (0, .ref c), (1, .int (nI n5977)), (2, .int (nI n5984)), (3, .int (nI n5987))]) e_X10_plan_92 (by decide) rfl ?_
                  refine m_aload_n F rfl e_X10_plan_94 ?_
                  refine m_iload_n F rfl e_X10_plan_95 ?_
                  refine r_callV F e_X10_plan_96 (q_X10_ahead (x_l X) V c T Z u h P L _ _ n5984 h5975.1 (hok) hP (by omega)) cb_X10_ahead ml_X10_329 im_X10_ahead se_X10_ahead h5975 rfl rfl (rest := []) rfl (Nat.le_of_ble_eq_true rfl) ⟨Nat.le_of_ble_eq_true rfl, Nat.le_of_ble_eq_true rfl⟩ ⟨Nat.le_of_ble_eq_true rfl, Nat.le_of_ble_eq_true rfl⟩ (fun r σ6036 hp => ?_)
                  obtain ⟨L6039, okL6039, r6040, h6037, rfl⟩ := hp
                  have h6038 := HS.trans h5975 h6037 (by decide)
                  refine m_aload_n F rfl e_X10_plan_99 ?_
                  refine r_get F e_X10_plan_100 fl_X10_59 h6038 rfl (fun v hv f6041 => ?_)
                  obtain rfl : v = .ref (c + 16) := hv
                  refine m_iload F rfl e_X10_plan_103 ?_
                  refine r_sld F (j := 160 * n5977 + 10) e_X10_plan_105 h6038 (nI_clamp (by omega)) (vp_in_nI (by omega) (by decide)) (fun x6042 h6043 f6044 => ?_)
                  refine m_lload F rfl e_X10_plan_106 ?_
                  refine m_lsub F e_X10_plan_108 ?_
                  refine Wm.topl (fun x6045 _ => ?_)
                  refine m_lstore F (lv' := [(8, .long x6045), (6, .long 0), (5, .int (nI (160 * n5977 + 10))), (4, .int (nI (160 * n5977))), (0, .ref c), (1, .int (nI n5977)), (2, .int (nI n5984)), (3, .int (nI n5987))]) e_X10_plan_109 (by decide) rfl ?_
                  refine m_aload_n F rfl e_X10_plan_111 ?_
                  refine r_callV F e_X10_plan_112 (q_X10_back1 (x_l X) V c T Z u h P L6039 _ _ L h6038.1 (okL6039.b) hP r6040) cb_X10_back1 ml_X10_332 im_X10_back1 se_X10_back1 h6038 rfl rfl (rest := []) rfl (Nat.le_of_ble_eq_true rfl) ⟨Nat.le_of_ble_eq_true rfl, Nat.le_of_ble_eq_true rfl⟩ ⟨Nat.le_of_ble_eq_true rfl, Nat.le_of_ble_eq_true rfl⟩ (fun r σ6046 hp => ?_)
                  obtain ⟨h6047, rfl⟩ := hp
                  have h6048 := HS.trans h6038 h6047 (by decide)
                  have ga6049 := r6040.of (h6047.2 (c + 17) (by rw [kC_at (k := 17) (by decide)]; decide))
                  refine m_lload F rfl e_X10_plan_115 ?_
                  exact m_lret F hQ e_X10_plan_117 (⟨h6048, _, rfl⟩)
            · have c53 : n5987 = 1 := (nI_eq (a := n5987) (b := 1) (by omega) (by omega)).mp q53
              refine m_bipush F (v := 7) (by decide) e_X10_plan_56 ?_
              refine m_goto F e_X10_plan_58 ?_
              refine m_iadd F e_X10_plan_73 ?_
              refine Wm.topE (w := nI (160 * n5977 + 7)) (nI_add (160 * n5977) 7) ?_
              refine m_istore F (lv' := [(5, .int (nI (160 * n5977 + 7))), (4, .int (nI (160 * n5977))), (0, .ref c), (1, .int (nI n5977)), (2, .int (nI n5984)), (3, .int (nI n5987))]) e_X10_plan_74 (by decide) rfl ?_
              refine m_iload_n F rfl e_X10_plan_76 ?_
              refine m_iconst F (v := 2) (by decide) e_X10_plan_77 ?_
              refine m_icmp_ge F e_X10_plan_78 (fun q78 => ?_) (fun q78 => ?_)
              · have c78 : n5987 ≥ 2 := (nI_leI (a := 2) (b := n5987) (by omega) (by omega)).mp q78
                refine m_aload_n F rfl e_X10_plan_85 ?_
                refine r_get F e_X10_plan_86 fl_X10_59 h5975 rfl (fun v hv f6050 => ?_)
                obtain rfl : v = .ref (c + 16) := hv
                refine m_iload F rfl e_X10_plan_89 ?_
                refine r_sld F (j := 160 * n5977 + 7) e_X10_plan_91 h5975 (nI_clamp (by omega)) (vp_in_nI (by omega) (by decide)) (fun x6051 h6052 f6053 => ?_)
                refine m_lstore F (lv' := [(6, .long x6051), (5, .int (nI (160 * n5977 + 7))), (4, .int (nI (160 * n5977))), (0, .ref c), (1, .int (nI n5977)), (2, .int (nI n5984)), (3, .int (nI n5987))]) e_X10_plan_92 (by decide) rfl ?_
                refine m_aload_n F rfl e_X10_plan_94 ?_
                refine m_iload_n F rfl e_X10_plan_95 ?_
                refine r_callV F e_X10_plan_96 (q_X10_ahead (x_l X) V c T Z u h P L _ _ n5984 h5975.1 (hok) hP (by omega)) cb_X10_ahead ml_X10_329 im_X10_ahead se_X10_ahead h5975 rfl rfl (rest := []) rfl (Nat.le_of_ble_eq_true rfl) ⟨Nat.le_of_ble_eq_true rfl, Nat.le_of_ble_eq_true rfl⟩ ⟨Nat.le_of_ble_eq_true rfl, Nat.le_of_ble_eq_true rfl⟩ (fun r σ6054 hp => ?_)
                obtain ⟨L6057, okL6057, r6058, h6055, rfl⟩ := hp
                have h6056 := HS.trans h5975 h6055 (by decide)
                refine m_aload_n F rfl e_X10_plan_99 ?_
                refine r_getC F e_X10_plan_100 fl_X10_59 h6056 ((fld_eq (h6055.2 c (by rw [show kC c c = 1 from kC_at (k := 0) (by decide)]; decide))).trans f6050) ?_
                refine m_iload F rfl e_X10_plan_103 ?_
                refine r_sld F (j := 160 * n5977 + 7) e_X10_plan_105 h6056 (nI_clamp (by omega)) (vp_in_nI (by omega) (by decide)) (fun x6059 h6060 f6061 => ?_)
                refine m_lload F rfl e_X10_plan_106 ?_
                refine m_lsub F e_X10_plan_108 ?_
                refine Wm.topl (fun x6062 _ => ?_)
                refine m_lstore F (lv' := [(8, .long x6062), (6, .long x6051), (5, .int (nI (160 * n5977 + 7))), (4, .int (nI (160 * n5977))), (0, .ref c), (1, .int (nI n5977)), (2, .int (nI n5984)), (3, .int (nI n5987))]) e_X10_plan_109 (by decide) rfl ?_
                refine m_aload_n F rfl e_X10_plan_111 ?_
                refine r_callV F e_X10_plan_112 (q_X10_back1 (x_l X) V c T Z u h P L6057 _ _ L h6056.1 (okL6057.b) hP r6058) cb_X10_back1 ml_X10_332 im_X10_back1 se_X10_back1 h6056 rfl rfl (rest := []) rfl (Nat.le_of_ble_eq_true rfl) ⟨Nat.le_of_ble_eq_true rfl, Nat.le_of_ble_eq_true rfl⟩ ⟨Nat.le_of_ble_eq_true rfl, Nat.le_of_ble_eq_true rfl⟩ (fun r σ6063 hp => ?_)
                obtain ⟨h6064, rfl⟩ := hp
                have h6065 := HS.trans h6056 h6064 (by decide)
                have ga6066 := r6058.of (h6064.2 (c + 17) (by rw [kC_at (k := 17) (by decide)]; decide))
                refine m_lload F rfl e_X10_plan_115 ?_
                exact m_lret F hQ e_X10_plan_117 (⟨h6065, _, rfl⟩)
              · have c78 : n5987 < 2 := by have hh := mt (nI_leI (a := 2) (b := n5987) (by omega) (by omega)).mpr q78; omega
                refine m_lconst F (v := 0) (by decide) e_X10_plan_81 ?_
                refine m_goto F e_X10_plan_82 ?_
                refine m_lstore F (lv' := [(6, .long 0), (5, .int (nI (160 * n5977 + 7))), (4, .int (nI (160 * n5977))), (0, .ref c), (1, .int (nI n5977)), (2, .int (nI n5984)), (3, .int (nI n5987))]) e_X10_plan_92 (by decide) rfl ?_
                refine m_aload_n F rfl e_X10_plan_94 ?_
                refine m_iload_n F rfl e_X10_plan_95 ?_
                refine r_callV F e_X10_plan_96 (q_X10_ahead (x_l X) V c T Z u h P L _ _ n5984 h5975.1 (hok) hP (by omega)) cb_X10_ahead ml_X10_329 im_X10_ahead se_X10_ahead h5975 rfl rfl (rest := []) rfl (Nat.le_of_ble_eq_true rfl) ⟨Nat.le_of_ble_eq_true rfl, Nat.le_of_ble_eq_true rfl⟩ ⟨Nat.le_of_ble_eq_true rfl, Nat.le_of_ble_eq_true rfl⟩ (fun r σ6067 hp => ?_)
                obtain ⟨L6070, okL6070, r6071, h6068, rfl⟩ := hp
                have h6069 := HS.trans h5975 h6068 (by decide)
                refine m_aload_n F rfl e_X10_plan_99 ?_
                refine r_get F e_X10_plan_100 fl_X10_59 h6069 rfl (fun v hv f6072 => ?_)
                obtain rfl : v = .ref (c + 16) := hv
                refine m_iload F rfl e_X10_plan_103 ?_
                refine r_sld F (j := 160 * n5977 + 7) e_X10_plan_105 h6069 (nI_clamp (by omega)) (vp_in_nI (by omega) (by decide)) (fun x6073 h6074 f6075 => ?_)
                refine m_lload F rfl e_X10_plan_106 ?_
                refine m_lsub F e_X10_plan_108 ?_
                refine Wm.topl (fun x6076 _ => ?_)
                refine m_lstore F (lv' := [(8, .long x6076), (6, .long 0), (5, .int (nI (160 * n5977 + 7))), (4, .int (nI (160 * n5977))), (0, .ref c), (1, .int (nI n5977)), (2, .int (nI n5984)), (3, .int (nI n5987))]) e_X10_plan_109 (by decide) rfl ?_
                refine m_aload_n F rfl e_X10_plan_111 ?_
                refine r_callV F e_X10_plan_112 (q_X10_back1 (x_l X) V c T Z u h P L6070 _ _ L h6069.1 (okL6070.b) hP r6071) cb_X10_back1 ml_X10_332 im_X10_back1 se_X10_back1 h6069 rfl rfl (rest := []) rfl (Nat.le_of_ble_eq_true rfl) ⟨Nat.le_of_ble_eq_true rfl, Nat.le_of_ble_eq_true rfl⟩ ⟨Nat.le_of_ble_eq_true rfl, Nat.le_of_ble_eq_true rfl⟩ (fun r σ6077 hp => ?_)
                obtain ⟨h6078, rfl⟩ := hp
                have h6079 := HS.trans h6069 h6078 (by decide)
                have ga6080 := r6071.of (h6078.2 (c + 17) (by rw [kC_at (k := 17) (by decide)]; decide))
                refine m_lload F rfl e_X10_plan_115 ?_
                exact m_lret F hQ e_X10_plan_117 (⟨h6079, _, rfl⟩)
          · have c43 : n5987 = 0 := (nI_eq (a := n5987) (b := 0) (by omega) (by omega)).mp q43
            refine m_bipush F (v := 6) (by decide) e_X10_plan_46 ?_
            refine m_goto F e_X10_plan_48 ?_
            refine m_iadd F e_X10_plan_73 ?_
            refine Wm.topE (w := nI (160 * n5977 + 6)) (nI_add (160 * n5977) 6) ?_
            refine m_istore F (lv' := [(5, .int (nI (160 * n5977 + 6))), (4, .int (nI (160 * n5977))), (0, .ref c), (1, .int (nI n5977)), (2, .int (nI n5984)), (3, .int (nI n5987))]) e_X10_plan_74 (by decide) rfl ?_
            refine m_iload_n F rfl e_X10_plan_76 ?_
            refine m_iconst F (v := 2) (by decide) e_X10_plan_77 ?_
            refine m_icmp_ge F e_X10_plan_78 (fun q78 => ?_) (fun q78 => ?_)
            · have c78 : n5987 ≥ 2 := (nI_leI (a := 2) (b := n5987) (by omega) (by omega)).mp q78
              refine m_aload_n F rfl e_X10_plan_85 ?_
              refine r_get F e_X10_plan_86 fl_X10_59 h5975 rfl (fun v hv f6081 => ?_)
              obtain rfl : v = .ref (c + 16) := hv
              refine m_iload F rfl e_X10_plan_89 ?_
              refine r_sld F (j := 160 * n5977 + 6) e_X10_plan_91 h5975 (nI_clamp (by omega)) (vp_in_nI (by omega) (by decide)) (fun x6082 h6083 f6084 => ?_)
              refine m_lstore F (lv' := [(6, .long x6082), (5, .int (nI (160 * n5977 + 6))), (4, .int (nI (160 * n5977))), (0, .ref c), (1, .int (nI n5977)), (2, .int (nI n5984)), (3, .int (nI n5987))]) e_X10_plan_92 (by decide) rfl ?_
              refine m_aload_n F rfl e_X10_plan_94 ?_
              refine m_iload_n F rfl e_X10_plan_95 ?_
              refine r_callV F e_X10_plan_96 (q_X10_ahead (x_l X) V c T Z u h P L _ _ n5984 h5975.1 (hok) hP (by omega)) cb_X10_ahead ml_X10_329 im_X10_ahead se_X10_ahead h5975 rfl rfl (rest := []) rfl (Nat.le_of_ble_eq_true rfl) ⟨Nat.le_of_ble_eq_true rfl, Nat.le_of_ble_eq_true rfl⟩ ⟨Nat.le_of_ble_eq_true rfl, Nat.le_of_ble_eq_true rfl⟩ (fun r σ6085 hp => ?_)
              obtain ⟨L6088, okL6088, r6089, h6086, rfl⟩ := hp
              have h6087 := HS.trans h5975 h6086 (by decide)
              refine m_aload_n F rfl e_X10_plan_99 ?_
              refine r_getC F e_X10_plan_100 fl_X10_59 h6087 ((fld_eq (h6086.2 c (by rw [show kC c c = 1 from kC_at (k := 0) (by decide)]; decide))).trans f6081) ?_
              refine m_iload F rfl e_X10_plan_103 ?_
              refine r_sld F (j := 160 * n5977 + 6) e_X10_plan_105 h6087 (nI_clamp (by omega)) (vp_in_nI (by omega) (by decide)) (fun x6090 h6091 f6092 => ?_)
              refine m_lload F rfl e_X10_plan_106 ?_
              refine m_lsub F e_X10_plan_108 ?_
              refine Wm.topl (fun x6093 _ => ?_)
              refine m_lstore F (lv' := [(8, .long x6093), (6, .long x6082), (5, .int (nI (160 * n5977 + 6))), (4, .int (nI (160 * n5977))), (0, .ref c), (1, .int (nI n5977)), (2, .int (nI n5984)), (3, .int (nI n5987))]) e_X10_plan_109 (by decide) rfl ?_
              refine m_aload_n F rfl e_X10_plan_111 ?_
              refine r_callV F e_X10_plan_112 (q_X10_back1 (x_l X) V c T Z u h P L6088 _ _ L h6087.1 (okL6088.b) hP r6089) cb_X10_back1 ml_X10_332 im_X10_back1 se_X10_back1 h6087 rfl rfl (rest := []) rfl (Nat.le_of_ble_eq_true rfl) ⟨Nat.le_of_ble_eq_true rfl, Nat.le_of_ble_eq_true rfl⟩ ⟨Nat.le_of_ble_eq_true rfl, Nat.le_of_ble_eq_true rfl⟩ (fun r σ6094 hp => ?_)
              obtain ⟨h6095, rfl⟩ := hp
              have h6096 := HS.trans h6087 h6095 (by decide)
              have ga6097 := r6089.of (h6095.2 (c + 17) (by rw [kC_at (k := 17) (by decide)]; decide))
              refine m_lload F rfl e_X10_plan_115 ?_
              exact m_lret F hQ e_X10_plan_117 (⟨h6096, _, rfl⟩)
            · have c78 : n5987 < 2 := by have hh := mt (nI_leI (a := 2) (b := n5987) (by omega) (by omega)).mpr q78; omega
              refine m_lconst F (v := 0) (by decide) e_X10_plan_81 ?_
              refine m_goto F e_X10_plan_82 ?_
              refine m_lstore F (lv' := [(6, .long 0), (5, .int (nI (160 * n5977 + 6))), (4, .int (nI (160 * n5977))), (0, .ref c), (1, .int (nI n5977)), (2, .int (nI n5984)), (3, .int (nI n5987))]) e_X10_plan_92 (by decide) rfl ?_
              refine m_aload_n F rfl e_X10_plan_94 ?_
              refine m_iload_n F rfl e_X10_plan_95 ?_
              refine r_callV F e_X10_plan_96 (q_X10_ahead (x_l X) V c T Z u h P L _ _ n5984 h5975.1 (hok) hP (by omega)) cb_X10_ahead ml_X10_329 im_X10_ahead se_X10_ahead h5975 rfl rfl (rest := []) rfl (Nat.le_of_ble_eq_true rfl) ⟨Nat.le_of_ble_eq_true rfl, Nat.le_of_ble_eq_true rfl⟩ ⟨Nat.le_of_ble_eq_true rfl, Nat.le_of_ble_eq_true rfl⟩ (fun r σ6098 hp => ?_)
              obtain ⟨L6101, okL6101, r6102, h6099, rfl⟩ := hp
              have h6100 := HS.trans h5975 h6099 (by decide)
              refine m_aload_n F rfl e_X10_plan_99 ?_
              refine r_get F e_X10_plan_100 fl_X10_59 h6100 rfl (fun v hv f6103 => ?_)
              obtain rfl : v = .ref (c + 16) := hv
              refine m_iload F rfl e_X10_plan_103 ?_
              refine r_sld F (j := 160 * n5977 + 6) e_X10_plan_105 h6100 (nI_clamp (by omega)) (vp_in_nI (by omega) (by decide)) (fun x6104 h6105 f6106 => ?_)
              refine m_lload F rfl e_X10_plan_106 ?_
              refine m_lsub F e_X10_plan_108 ?_
              refine Wm.topl (fun x6107 _ => ?_)
              refine m_lstore F (lv' := [(8, .long x6107), (6, .long 0), (5, .int (nI (160 * n5977 + 6))), (4, .int (nI (160 * n5977))), (0, .ref c), (1, .int (nI n5977)), (2, .int (nI n5984)), (3, .int (nI n5987))]) e_X10_plan_109 (by decide) rfl ?_
              refine m_aload_n F rfl e_X10_plan_111 ?_
              refine r_callV F e_X10_plan_112 (q_X10_back1 (x_l X) V c T Z u h P L6101 _ _ L h6100.1 (okL6101.b) hP r6102) cb_X10_back1 ml_X10_332 im_X10_back1 se_X10_back1 h6100 rfl rfl (rest := []) rfl (Nat.le_of_ble_eq_true rfl) ⟨Nat.le_of_ble_eq_true rfl, Nat.le_of_ble_eq_true rfl⟩ ⟨Nat.le_of_ble_eq_true rfl, Nat.le_of_ble_eq_true rfl⟩ (fun r σ6108 hp => ?_)
              obtain ⟨h6109, rfl⟩ := hp
              have h6110 := HS.trans h6100 h6109 (by decide)
              have ga6111 := r6102.of (h6109.2 (c + 17) (by rw [kC_at (k := 17) (by decide)]; decide))
              refine m_lload F rfl e_X10_plan_115 ?_
              exact m_lret F hQ e_X10_plan_117 (⟨h6110, _, rfl⟩)
        · have c26 : n5987 > 3 := by have hh := mt (nI_leI (a := n5987) (b := 3) (by omega) (by omega)).mpr q26; omega
          refine m_ldc2 F kc_X10_245 e_X10_plan_29 ?_
          exact m_lret F hQ e_X10_plan_32 (⟨h5975, _, rfl⟩)
set_option maxRecDepth 20000 in
theorem q_X10_all (l : Launch) (V : VX) (c T Z u h : Nat) (P : NP) (L : Nat → LQ) (N : Nat) (σ : Mem) (x901 : Int32) (h0 : HR V c ⟨T, Z, u, h, P, L⟩ σ) (hok : OKL P.n0 L) (hP : OKP P)  : Ct l V yX10_all cX10_all 4 (some .long) 5 0 0 N σ [.ref c, .int x901] (fun r τ => HS V c (⟨T, Z, u, h, P, L⟩ : RG) [0, 2, 3, 4, 5, 6, 7, 8, 9, 10, 11, 12, 13, 14, 15, 16, 19, 20, 21, 22] σ τ ∧ ∃ x : Int64, r = some (.long x)) := by
  refine Ct.of (by decide) (Nat.le_of_ble_eq_true rfl) [(0, .ref c), (1, .int x901)] rfl (fun X hX F hQ => ?_)
  have hPP := hP
  unfold OKP at hPP
  have h1 : HS V c ⟨T, Z, u, h, P, L⟩ [0, 2, 3, 4, 5, 6, 7, 8, 9, 10, 11, 12, 13, 14, 15, 16, 19, 20, 21, 22] σ σ := HS.start h0
  refine m_aload_n F rfl e_X10_all_0 ?_
  refine m_iconst F (v := 0) (by decide) e_X10_all_1 ?_
  refine r_put F (g' := (⟨T, Z, u, h, P, L⟩ : RG)) e_X10_all_2 fp_X10_91 h1 (by decide) ⟨_, rfl⟩ (fun _ _ _ _ q => q) (fun _ _ _ q => q) rfl rfl (by decide) (fun σ6112 h6113 g6114 g6115 f6116 => ?_)
  refine m_iload_n F rfl e_X10_all_5 ?_
  refine m_callS F e_X10_all_6 (q_X10_areAhead2 (x_l X) V _ _ x901 ) cb_X10_areAhead ml_X10_326 sm_X10_areAhead rfl (rest := []) rfl (Nat.le_of_ble_eq_true rfl) ⟨Nat.le_of_ble_eq_true rfl, Nat.le_of_ble_eq_true rfl⟩ ⟨Nat.le_of_ble_eq_true rfl, Nat.le_of_ble_eq_true rfl⟩ (k' := 0) (z' := 0) (N' := N) rfl rfl rfl (fun r σ6117 hp => ?_)
  obtain ⟨rfl, c6120⟩ := hp
  rcases c6120 with rfl | ⟨n6121, h6122, e6123, rfl⟩
  · refine m_if_ne F e_X10_all_9 (fun q => absurd (by decide) q) (fun _ => ?_)
    refine m_ldc2 F kc_X10_245 e_X10_all_12 ?_
    exact m_lret F hQ e_X10_all_15 (⟨h6113, _, rfl⟩)
  · subst e6123
    refine m_if_ne F e_X10_all_9 (fun _ => ?_) (fun q => absurd q (by decide))
    refine m_aload_n F rfl e_X10_all_16 ?_
    refine m_iload_n F rfl e_X10_all_17 ?_
    refine r_callV F e_X10_all_18 (q_X10_ahead (x_l X) V c T Z u h P L _ _ n6121 h6113.1 (hok) hP (by omega)) cb_X10_ahead ml_X10_329 im_X10_ahead se_X10_ahead h6113 rfl rfl (rest := []) rfl (Nat.le_of_ble_eq_true rfl) ⟨Nat.le_of_ble_eq_true rfl, Nat.le_of_ble_eq_true rfl⟩ ⟨Nat.le_of_ble_eq_true rfl, Nat.le_of_ble_eq_true rfl⟩ (fun r σ6124 hp => ?_)
    obtain ⟨L6127, okL6127, r6128, h6125, rfl⟩ := hp
    have h6126 := HS.trans h6113 h6125 (by decide)
    refine m_aload_n F rfl e_X10_all_21 ?_
    refine r_callV F e_X10_all_22 (q_X10_owedAll (x_l X) V c T Z u h P L6127 _ _  h6126.1 (okL6127.b) hP ) cb_X10_owedAll ml_X10_335 im_X10_owedAll se_X10_owedAll h6126 rfl rfl (rest := []) rfl (Nat.le_of_ble_eq_true rfl) ⟨Nat.le_of_ble_eq_true rfl, Nat.le_of_ble_eq_true rfl⟩ ⟨Nat.le_of_ble_eq_true rfl, Nat.le_of_ble_eq_true rfl⟩ (fun r σ6129 hp => ?_)
    obtain ⟨h6130, x6132, rfl⟩ := hp
    have h6131 := HS.trans h6126 h6130 (by decide)
    have ga6133 := r6128.of (h6130.2 (c + 17) (by rw [kC_at (k := 17) (by decide)]; decide))
    refine m_lstore_n F (lv' := [(2, .long x6132), (0, .ref c), (1, .int (nI n6121))]) e_X10_all_25 (by decide) rfl ?_
    refine m_aload_n F rfl e_X10_all_26 ?_
    refine r_callV F e_X10_all_27 (q_X10_back1 (x_l X) V c T Z u h P L6127 _ _ L h6131.1 (okL6127.b) hP ga6133) cb_X10_back1 ml_X10_332 im_X10_back1 se_X10_back1 h6131 rfl rfl (rest := []) rfl (Nat.le_of_ble_eq_true rfl) ⟨Nat.le_of_ble_eq_true rfl, Nat.le_of_ble_eq_true rfl⟩ ⟨Nat.le_of_ble_eq_true rfl, Nat.le_of_ble_eq_true rfl⟩ (fun r σ6134 hp => ?_)
    obtain ⟨h6135, rfl⟩ := hp
    have h6136 := HS.trans h6131 h6135 (by decide)
    have ga6137 := ga6133.of (h6135.2 (c + 17) (by rw [kC_at (k := 17) (by decide)]; decide))
    refine m_lload_n F rfl e_X10_all_30 ?_
    exact m_lret F hQ e_X10_all_31 (⟨h6136, _, rfl⟩)
set_option maxRecDepth 20000 in
theorem q_X10_soon (l : Launch) (V : VX) (c T Z u h : Nat) (P : NP) (L : Nat → LQ) (N : Nat) (σ : Mem) (x901 : Int32) (x902 : Int32) (h0 : HR V c ⟨T, Z, u, h, P, L⟩ σ) (hok : OKL P.n0 L) (hP : OKP P)  : Ct l V yX10_soon cX10_soon 7 (some .long) 5 0 0 N σ [.ref c, .int x901, .int x902] (fun r τ => HS V c (⟨T, Z, u, h, P, L⟩ : RG) [0, 2, 3, 4, 5, 6, 7, 8, 9, 10, 11, 12, 13, 14, 15, 16, 19, 20, 21, 22] σ τ ∧ ∃ x : Int64, r = some (.long x)) := by
  refine Ct.of (by decide) (Nat.le_of_ble_eq_true rfl) [(0, .ref c), (1, .int x901), (2, .int x902)] rfl (fun X hX F hQ => ?_)
  have hPP := hP
  unfold OKP at hPP
  have h1 : HS V c ⟨T, Z, u, h, P, L⟩ [0, 2, 3, 4, 5, 6, 7, 8, 9, 10, 11, 12, 13, 14, 15, 16, 19, 20, 21, 22] σ σ := HS.start h0
  refine m_aload_n F rfl e_X10_soon_0 ?_
  refine m_iconst F (v := 0) (by decide) e_X10_soon_1 ?_
  refine r_put F (g' := (⟨T, Z, u, h, P, L⟩ : RG)) e_X10_soon_2 fp_X10_91 h1 (by decide) ⟨_, rfl⟩ (fun _ _ _ _ q => q) (fun _ _ _ q => q) rfl rfl (by decide) (fun σ6138 h6139 g6140 g6141 f6142 => ?_)
  refine m_aload_n F rfl e_X10_soon_5 ?_
  refine m_iload_n F rfl e_X10_soon_6 ?_
  refine r_callV F e_X10_soon_7 (q_X10_isLease (x_l X) V c T Z u h P L _ _ x901 h6139.1 (hok.b) hP ) cb_X10_isLease ml_X10_292 im_X10_isLease se_X10_isLease h6139 rfl rfl (rest := []) rfl (Nat.le_of_ble_eq_true rfl) ⟨Nat.le_of_ble_eq_true rfl, Nat.le_of_ble_eq_true rfl⟩ ⟨Nat.le_of_ble_eq_true rfl, Nat.le_of_ble_eq_true rfl⟩ (fun r σ6143 hp => ?_)
  obtain ⟨h6144, c6146⟩ := hp
  have h6145 := HS.trans h6139 h6144 (by decide)
  rcases c6146 with rfl | ⟨n6147, h6148, e6149, rfl⟩
  · refine m_if_eq F e_X10_soon_10 (fun _ => ?_) (fun q => absurd (by decide) q)
    refine m_ldc2 F kc_X10_245 e_X10_soon_22 ?_
    exact m_lret F hQ e_X10_soon_25 (⟨h6145, _, rfl⟩)
  · subst e6149
    refine m_if_eq F e_X10_soon_10 (fun q => absurd q (by decide)) (fun _ => ?_)
    refine m_iload_n F rfl e_X10_soon_13 ?_
    refine m_if_lt F e_X10_soon_14 (fun q14 => ?_) (fun q14 => ?_)
    · refine m_ldc2 F kc_X10_245 e_X10_soon_22 ?_
      exact m_lret F hQ e_X10_soon_25 (⟨h6145, _, rfl⟩)
    · obtain ⟨n6150, hn6150, rfl⟩ := nI_nn (x := x902) (fun e => q14 (Int32.lt_of_lt_of_le e (by decide)))
      have c14 : n6150 ≥ 0 := by have hh := mt (nI_ltI (a := n6150) (b := 0) (by omega) (by omega)).mpr q14; omega
      refine m_iload_n F rfl e_X10_soon_17 ?_
      refine m_iconst F (v := 1) (by decide) e_X10_soon_18 ?_
      refine m_icmp_le F e_X10_soon_19 (fun q19 => ?_) (fun q19 => ?_)
      · have c19 : n6150 ≤ 1 := (nI_leI (a := n6150) (b := 1) (by omega) (by omega)).mp q19
        refine m_aload_n F rfl e_X10_soon_26 ?_
        refine r_get F e_X10_soon_27 fl_X10_59 h6145 rfl (fun v hv f6151 => ?_)
        obtain rfl : v = .ref (c + 16) := hv
        refine m_sipush F (v := 160) (by decide) e_X10_soon_30 ?_
        refine m_iload_n F rfl e_X10_soon_33 ?_
        refine m_imul F e_X10_soon_34 ?_
        refine Wm.topE (w := nI (160 * n6147)) (pk_mul 160 n6147) ?_
        refine m_bipush F (v := 6) (by decide) e_X10_soon_35 ?_
        refine m_iadd F e_X10_soon_37 ?_
        refine Wm.topE (w := nI (160 * n6147 + 6)) (nI_add (160 * n6147) 6) ?_
        refine r_sld F (j := 160 * n6147 + 6) e_X10_soon_38 h6145 (nI_clamp (by omega)) (vp_in_nI (by omega) (by decide)) (fun x6152 h6153 f6154 => ?_)
        refine m_lstore_n F (lv' := [(3, .long x6152), (0, .ref c), (1, .int (nI n6147)), (2, .int (nI n6150))]) e_X10_soon_39 (by decide) rfl ?_
        refine m_aload_n F rfl e_X10_soon_40 ?_
        refine m_bipush F (v := 12) (by decide) e_X10_soon_41 ?_
        refine r_callV F e_X10_soon_43 (q_X10_ahead (x_l X) V c T Z u h P L _ _ 12 h6145.1 (hok) hP (by omega)) cb_X10_ahead ml_X10_329 im_X10_ahead se_X10_ahead h6145 rfl rfl (rest := []) rfl (Nat.le_of_ble_eq_true rfl) ⟨Nat.le_of_ble_eq_true rfl, Nat.le_of_ble_eq_true rfl⟩ ⟨Nat.le_of_ble_eq_true rfl, Nat.le_of_ble_eq_true rfl⟩ (fun r σ6155 hp => ?_)
        obtain ⟨L6158, okL6158, r6159, h6156, rfl⟩ := hp
        have h6157 := HS.trans h6145 h6156 (by decide)
        refine m_aload_n F rfl e_X10_soon_46 ?_
        refine r_getC F e_X10_soon_47 fl_X10_59 h6157 ((fld_eq (h6156.2 c (by rw [show kC c c = 1 from kC_at (k := 0) (by decide)]; decide))).trans f6151) ?_
        refine m_sipush F (v := 160) (by decide) e_X10_soon_50 ?_
        refine m_iload_n F rfl e_X10_soon_53 ?_
        refine m_imul F e_X10_soon_54 ?_
        refine Wm.topE (w := nI (160 * n6147)) (pk_mul 160 n6147) ?_
        refine m_bipush F (v := 6) (by decide) e_X10_soon_55 ?_
        refine m_iadd F e_X10_soon_57 ?_
        refine Wm.topE (w := nI (160 * n6147 + 6)) (nI_add (160 * n6147) 6) ?_
        refine r_sld F (j := 160 * n6147 + 6) e_X10_soon_58 h6157 (nI_clamp (by omega)) (vp_in_nI (by omega) (by decide)) (fun x6160 h6161 f6162 => ?_)
        refine m_lstore F (lv' := [(5, .long x6160), (3, .long x6152), (0, .ref c), (1, .int (nI n6147)), (2, .int (nI n6150))]) e_X10_soon_59 (by decide) rfl ?_
        refine m_aload_n F rfl e_X10_soon_61 ?_
        refine r_callV F e_X10_soon_62 (q_X10_back1 (x_l X) V c T Z u h P L6158 _ _ L h6157.1 (okL6158.b) hP r6159) cb_X10_back1 ml_X10_332 im_X10_back1 se_X10_back1 h6157 rfl rfl (rest := []) rfl (Nat.le_of_ble_eq_true rfl) ⟨Nat.le_of_ble_eq_true rfl, Nat.le_of_ble_eq_true rfl⟩ ⟨Nat.le_of_ble_eq_true rfl, Nat.le_of_ble_eq_true rfl⟩ (fun r σ6163 hp => ?_)
        obtain ⟨h6164, rfl⟩ := hp
        have h6165 := HS.trans h6157 h6164 (by decide)
        have ga6166 := r6159.of (h6164.2 (c + 17) (by rw [kC_at (k := 17) (by decide)]; decide))
        refine m_iload_n F rfl e_X10_soon_65 ?_
        refine m_if_ne F e_X10_soon_66 (fun q66 => ?_) (fun q66 => ?_)
        · have c66 : n6150 ≠ 0 := by have hh := mt (nI_eq (a := n6150) (b := 0) (by omega) (by omega)).mpr q66; omega
          refine m_lload F rfl e_X10_soon_76 ?_
          exact m_lret F hQ e_X10_soon_78 (⟨h6165, _, rfl⟩)
        · have c66 : n6150 = 0 := (nI_eq (a := n6150) (b := 0) (by omega) (by omega)).mp q66
          refine m_lload_n F rfl e_X10_soon_69 ?_
          refine m_lload F rfl e_X10_soon_70 ?_
          refine m_lsub F e_X10_soon_72 ?_
          refine Wm.topl (fun x6167 _ => ?_)
          refine m_goto F e_X10_soon_73 ?_
          exact m_lret F hQ e_X10_soon_78 (⟨h6165, _, rfl⟩)
      · have c19 : n6150 > 1 := by have hh := mt (nI_leI (a := n6150) (b := 1) (by omega) (by omega)).mpr q19; omega
        refine m_ldc2 F kc_X10_245 e_X10_soon_22 ?_
        exact m_lret F hQ e_X10_soon_25 (⟨h6145, _, rfl⟩)
set_option maxRecDepth 20000 in
theorem q_X10_cash (l : Launch) (V : VX) (c T Z u h : Nat) (P : NP) (L : Nat → LQ) (N : Nat) (σ : Mem) (x901 : Int32) (x902 : Int32) (h0 : HR V c ⟨T, Z, u, h, P, L⟩ σ) (hok : OKL P.n0 L) (hP : OKP P)  : Ct l V yX10_cash cX10_cash 7 (some .long) 5 0 0 N σ [.ref c, .int x901, .int x902] (fun r τ => HS V c (⟨T, Z, u, h, P, L⟩ : RG) [0, 2, 3, 4, 5, 6, 7, 8, 9, 10, 11, 12, 13, 14, 15, 16, 19, 20, 21, 22] σ τ ∧ ∃ x : Int64, r = some (.long x)) := by
  refine Ct.of (by decide) (Nat.le_of_ble_eq_true rfl) [(0, .ref c), (1, .int x901), (2, .int x902)] rfl (fun X hX F hQ => ?_)
  have hPP := hP
  unfold OKP at hPP
  have h1 : HS V c ⟨T, Z, u, h, P, L⟩ [0, 2, 3, 4, 5, 6, 7, 8, 9, 10, 11, 12, 13, 14, 15, 16, 19, 20, 21, 22] σ σ := HS.start h0
  refine m_aload_n F rfl e_X10_cash_0 ?_
  refine m_iconst F (v := 0) (by decide) e_X10_cash_1 ?_
  refine r_put F (g' := (⟨T, Z, u, h, P, L⟩ : RG)) e_X10_cash_2 fp_X10_91 h1 (by decide) ⟨_, rfl⟩ (fun _ _ _ _ q => q) (fun _ _ _ q => q) rfl rfl (by decide) (fun σ6168 h6169 g6170 g6171 f6172 => ?_)
  refine m_iload_n F rfl e_X10_cash_5 ?_
  refine m_if_lt F e_X10_cash_6 (fun q6 => ?_) (fun q6 => ?_)
  · refine m_ldc2 F kc_X10_245 e_X10_cash_20 ?_
    exact m_lret F hQ e_X10_cash_23 (⟨h6169, _, rfl⟩)
  · obtain ⟨n6173, hn6173, rfl⟩ := nI_nn (x := x901) (fun e => q6 (Int32.lt_of_lt_of_le e (by decide)))
    have c6 : n6173 ≥ 0 := by have hh := mt (nI_ltI (a := n6173) (b := 0) (by omega) (by omega)).mpr q6; omega
    refine m_iload_n F rfl e_X10_cash_9 ?_
    refine m_bipush F (v := 71) (by decide) e_X10_cash_10 ?_
    refine m_icmp_gt F e_X10_cash_12 (fun q12 => ?_) (fun q12 => ?_)
    · obtain ⟨n6174, hn6174, rfl⟩ := nI_nn (x := x902) (fun e => Int32.lt_irrefl (Int32.lt_trans e (Int32.lt_of_le_of_lt (by decide) q12)))
      have c12 : n6174 > 71 := (nI_ltI (a := 71) (b := n6174) (by omega) (by omega)).mp q12
      refine m_ldc2 F kc_X10_245 e_X10_cash_20 ?_
      exact m_lret F hQ e_X10_cash_23 (⟨h6169, _, rfl⟩)
    · refine m_iload_n F rfl e_X10_cash_15 ?_
      refine m_iload_n F rfl e_X10_cash_16 ?_
      refine m_icmp_le F e_X10_cash_17 (fun q17 => ?_) (fun q17 => ?_)
      · obtain ⟨n6175, hn6175, rfl⟩ := nI_nn (x := x902) (fun e => Int32.lt_irrefl (Int32.lt_of_lt_of_le e (Int32.le_trans (nI_0le (by omega)) q17)))
        have c12 : n6175 ≤ 71 := by have hh := mt (nI_ltI (a := 71) (b := n6175) (by omega) (by omega)).mpr q12; omega
        have c17 : n6173 ≤ n6175 := (nI_leI (a := n6173) (b := n6175) (by omega) (by omega)).mp q17
        refine m_aload_n F rfl e_X10_cash_24 ?_
        refine m_iload_n F rfl e_X10_cash_25 ?_
        refine r_callV F e_X10_cash_26 (q_X10_ahead (x_l X) V c T Z u h P L _ _ n6173 h6169.1 (hok) hP (by omega)) cb_X10_ahead ml_X10_329 im_X10_ahead se_X10_ahead h6169 rfl rfl (rest := []) rfl (Nat.le_of_ble_eq_true rfl) ⟨Nat.le_of_ble_eq_true rfl, Nat.le_of_ble_eq_true rfl⟩ ⟨Nat.le_of_ble_eq_true rfl, Nat.le_of_ble_eq_true rfl⟩ (fun r σ6176 hp => ?_)
        obtain ⟨L6179, okL6179, r6180, h6177, rfl⟩ := hp
        have h6178 := HS.trans h6169 h6177 (by decide)
        refine m_aload_n F rfl e_X10_cash_29 ?_
        refine r_callV F e_X10_cash_30 (q_X10_paidAll (x_l X) V c T Z u h P L6179 _ _  h6178.1 (okL6179.b) hP ) cb_X10_paidAll ml_X10_343 im_X10_paidAll se_X10_paidAll h6178 rfl rfl (rest := []) rfl (Nat.le_of_ble_eq_true rfl) ⟨Nat.le_of_ble_eq_true rfl, Nat.le_of_ble_eq_true rfl⟩ ⟨Nat.le_of_ble_eq_true rfl, Nat.le_of_ble_eq_true rfl⟩ (fun r σ6181 hp => ?_)
        obtain ⟨h6182, x6184, rfl⟩ := hp
        have h6183 := HS.trans h6178 h6182 (by decide)
        have ga6185 := r6180.of (h6182.2 (c + 17) (by rw [kC_at (k := 17) (by decide)]; decide))
        refine m_lstore_n F (lv' := [(3, .long x6184), (0, .ref c), (1, .int (nI n6173)), (2, .int (nI n6175))]) e_X10_cash_33 (by decide) rfl ?_
        refine m_aload_n F rfl e_X10_cash_34 ?_
        refine r_callV F e_X10_cash_35 (q_X10_back1 (x_l X) V c T Z u h P L6179 _ _ L h6183.1 (okL6179.b) hP ga6185) cb_X10_back1 ml_X10_332 im_X10_back1 se_X10_back1 h6183 rfl rfl (rest := []) rfl (Nat.le_of_ble_eq_true rfl) ⟨Nat.le_of_ble_eq_true rfl, Nat.le_of_ble_eq_true rfl⟩ ⟨Nat.le_of_ble_eq_true rfl, Nat.le_of_ble_eq_true rfl⟩ (fun r σ6186 hp => ?_)
        obtain ⟨h6187, rfl⟩ := hp
        have h6188 := HS.trans h6183 h6187 (by decide)
        have ga6189 := ga6185.of (h6187.2 (c + 17) (by rw [kC_at (k := 17) (by decide)]; decide))
        refine m_aload_n F rfl e_X10_cash_38 ?_
        refine m_iload_n F rfl e_X10_cash_39 ?_
        refine m_iconst F (v := 1) (by decide) e_X10_cash_40 ?_
        refine m_iadd F e_X10_cash_41 ?_
        refine Wm.topE (w := nI (n6175 + 1)) (nI_add n6175 1) ?_
        refine r_callV F e_X10_cash_42 (q_X10_ahead (x_l X) V c T Z u h P L _ _ (n6175 + 1) h6188.1 (hok) hP (by omega)) cb_X10_ahead ml_X10_329 im_X10_ahead se_X10_ahead h6188 rfl rfl (rest := []) rfl (Nat.le_of_ble_eq_true rfl) ⟨Nat.le_of_ble_eq_true rfl, Nat.le_of_ble_eq_true rfl⟩ ⟨Nat.le_of_ble_eq_true rfl, Nat.le_of_ble_eq_true rfl⟩ (fun r σ6190 hp => ?_)
        obtain ⟨L6193, okL6193, r6194, h6191, rfl⟩ := hp
        have h6192 := HS.trans h6188 h6191 (by decide)
        refine m_aload_n F rfl e_X10_cash_45 ?_
        refine r_callV F e_X10_cash_46 (q_X10_paidAll (x_l X) V c T Z u h P L6193 _ _  h6192.1 (okL6193.b) hP ) cb_X10_paidAll ml_X10_343 im_X10_paidAll se_X10_paidAll h6192 rfl rfl (rest := []) rfl (Nat.le_of_ble_eq_true rfl) ⟨Nat.le_of_ble_eq_true rfl, Nat.le_of_ble_eq_true rfl⟩ ⟨Nat.le_of_ble_eq_true rfl, Nat.le_of_ble_eq_true rfl⟩ (fun r σ6195 hp => ?_)
        obtain ⟨h6196, x6198, rfl⟩ := hp
        have h6197 := HS.trans h6192 h6196 (by decide)
        have ga6199 := r6194.of (h6196.2 (c + 17) (by rw [kC_at (k := 17) (by decide)]; decide))
        refine m_lstore F (lv' := [(5, .long x6198), (3, .long x6184), (0, .ref c), (1, .int (nI n6173)), (2, .int (nI n6175))]) e_X10_cash_49 (by decide) rfl ?_
        refine m_aload_n F rfl e_X10_cash_51 ?_
        refine r_callV F e_X10_cash_52 (q_X10_back1 (x_l X) V c T Z u h P L6193 _ _ L h6197.1 (okL6193.b) hP ga6199) cb_X10_back1 ml_X10_332 im_X10_back1 se_X10_back1 h6197 rfl rfl (rest := []) rfl (Nat.le_of_ble_eq_true rfl) ⟨Nat.le_of_ble_eq_true rfl, Nat.le_of_ble_eq_true rfl⟩ ⟨Nat.le_of_ble_eq_true rfl, Nat.le_of_ble_eq_true rfl⟩ (fun r σ6200 hp => ?_)
        obtain ⟨h6201, rfl⟩ := hp
        have h6202 := HS.trans h6197 h6201 (by decide)
        have ga6203 := ga6199.of (h6201.2 (c + 17) (by rw [kC_at (k := 17) (by decide)]; decide))
        refine m_lload F rfl e_X10_cash_55 ?_
        refine m_lload_n F rfl e_X10_cash_57 ?_
        refine m_lsub F e_X10_cash_58 ?_
        refine Wm.topl (fun x6204 _ => ?_)
        exact m_lret F hQ e_X10_cash_59 (⟨h6202, _, rfl⟩)
      · refine m_ldc2 F kc_X10_245 e_X10_cash_20 ?_
        exact m_lret F hQ e_X10_cash_23 (⟨h6169, _, rfl⟩)
set_option maxRecDepth 20000 in
theorem lq_X10_half_62 {V : VX} {X : MX} {N : Nat} {σ : Mem} {c T Z u h : Nat} {P : NP} {L : Nat → LQ}   (F : Fx V X yX10_half cX10_half 6 (some .int) (rmd 4 0 0)) (hQ : Rt V X 0 0 N (fun r τ => HS V c (⟨T, Z, u, h, P, L⟩ : RG) [0, 2, 3, 4, 5, 6, 7, 8, 9, 10, 11, 12, 13, 14, 15, 16, 19, 20, 21, 22] σ τ ∧ ∃ x : Int32, r = some (.int x))) (hok : OKL P.n0 L) (hP : OKP P)   : ∀ (fuel : Nat) (a : Nat) (w1 : Int64) (i : Nat) (L1 : Nat → LQ) (τ : Mem), HS V c (⟨T, Z, u, h, P, L1⟩ : RG) [0, 2, 3, 4, 5, 6, 7, 8, 9, 10, 11, 12, 13, 14, 15, 16, 19, 20, 21, 22] σ τ → OKL P.n0 L1 → i ≤ 72 ∧ a ≤ 3 ∧ GB V c 17 1113 0 L τ → 72 - i < fuel → Wm V X 6 N τ 0 0 62 [(0, .ref c), (1, .int (nI a)), (2, .long w1), (4, .int (nI i))] [] := by
  intro fuel
  induction fuel with
  | zero => intros; rename_i hm; exact absurd hm (Nat.not_lt_zero _)
  | succ fuel ih =>
    intro a w1 i L1 τ h1 hok1 hi hm
    have hPP := hP
    unfold OKP at hPP
    have ga0 := hi.2.2
    refine m_ldc2 F kc_X10_234 e_X10_half_62 ?_
    refine m_aload_n F rfl e_X10_half_65 ?_
    refine r_get F e_X10_half_66 fl_X10_59 h1 rfl (fun v hv f6205 => ?_)
    obtain rfl : v = .ref (c + 16) := hv
    refine m_sipush F (v := 160) (by decide) e_X10_half_69 ?_
    refine m_iload_n F rfl e_X10_half_72 ?_
    refine m_imul F e_X10_half_73 ?_
    refine Wm.topE (w := nI (160 * a)) (pk_mul 160 a) ?_
    refine m_bipush F (v := 6) (by decide) e_X10_half_74 ?_
    refine m_iadd F e_X10_half_76 ?_
    refine Wm.topE (w := nI (160 * a + 6)) (nI_add (160 * a) 6) ?_
    refine r_sld F (j := 160 * a + 6) e_X10_half_77 h1 (nI_clamp (by omega)) (vp_in_nI (by omega) (by decide)) (fun x6206 h6207 f6208 => ?_)
    refine m_lmul F e_X10_half_78 ?_
    refine Wm.topl (fun x6209 _ => ?_)
    refine m_lload_n F rfl e_X10_half_79 ?_
    refine m_lcmp F e_X10_half_80 ?_
    refine Wm.top (fun x6210 _ => ?_)
    refine m_if_le F e_X10_half_81 (fun q81 => ?_) (fun q81 => ?_)
    · refine m_ldc2 F kc_X10_234 e_X10_half_116 ?_
      refine m_aload_n F rfl e_X10_half_119 ?_
      refine r_getC F e_X10_half_120 fl_X10_59 h1 (f6205) ?_
      refine m_sipush F (v := 160) (by decide) e_X10_half_123 ?_
      refine m_iload_n F rfl e_X10_half_126 ?_
      refine m_imul F e_X10_half_127 ?_
      refine Wm.topE (w := nI (160 * a)) (pk_mul 160 a) ?_
      refine m_bipush F (v := 6) (by decide) e_X10_half_128 ?_
      refine m_iadd F e_X10_half_130 ?_
      refine Wm.topE (w := nI (160 * a + 6)) (nI_add (160 * a) 6) ?_
      refine r_sld F (j := 160 * a + 6) e_X10_half_131 h1 (nI_clamp (by omega)) (vp_in_nI (by omega) (by decide)) (fun x6211 h6212 f6213 => ?_)
      refine m_lmul F e_X10_half_132 ?_
      refine Wm.topl (fun x6214 _ => ?_)
      refine m_lload_n F rfl e_X10_half_133 ?_
      refine m_lcmp F e_X10_half_134 ?_
      refine Wm.top (fun x6215 _ => ?_)
      refine m_if_gt F e_X10_half_135 (fun q135 => ?_) (fun q135 => ?_)
      · obtain ⟨n6216, hn6216, rfl⟩ := nI_nn (x := x6215) (fun e => Int32.lt_irrefl (Int32.lt_trans e (Int32.lt_of_le_of_lt (by decide) q135)))
        have c135 : n6216 > 0 := (nI_ltI (a := 0) (b := n6216) (by omega) (by omega)).mp q135
        refine m_iconst F (v := 0) (by decide) e_X10_half_142 ?_
        refine m_istore F (lv' := [(5, .int 0), (0, .ref c), (1, .int (nI a)), (2, .long w1), (4, .int (nI i))]) e_X10_half_143 (by decide) rfl ?_
        refine m_aload_n F rfl e_X10_half_145 ?_
        refine r_callV F e_X10_half_146 (q_X10_back1 (x_l X) V c T Z u h P L1 _ _ L h1.1 (hok1.b) hP ga0) cb_X10_back1 ml_X10_332 im_X10_back1 se_X10_back1 h1 rfl rfl (rest := []) rfl (Nat.le_of_ble_eq_true rfl) ⟨Nat.le_of_ble_eq_true rfl, Nat.le_of_ble_eq_true rfl⟩ ⟨Nat.le_of_ble_eq_true rfl, Nat.le_of_ble_eq_true rfl⟩ (fun r σ6217 hp => ?_)
        obtain ⟨h6218, rfl⟩ := hp
        have h6219 := HS.trans h1 h6218 (by decide)
        have ga6220 := ga0.of (h6218.2 (c + 17) (by rw [kC_at (k := 17) (by decide)]; decide))
        refine m_iload F rfl e_X10_half_149 ?_
        refine m_if_eq F e_X10_half_151 (fun _ => ?_) (fun q => absurd (by decide) q)
        refine m_bipush F (v := (-2)) (by decide) e_X10_half_159 ?_
        exact m_iret F hQ e_X10_half_161 (⟨h6219, _, rfl⟩)
      · refine m_iconst F (v := 1) (by decide) e_X10_half_138 ?_
        refine m_goto F e_X10_half_139 ?_
        refine m_istore F (lv' := [(5, .int 1), (0, .ref c), (1, .int (nI a)), (2, .long w1), (4, .int (nI i))]) e_X10_half_143 (by decide) rfl ?_
        refine m_aload_n F rfl e_X10_half_145 ?_
        refine r_callV F e_X10_half_146 (q_X10_back1 (x_l X) V c T Z u h P L1 _ _ L h1.1 (hok1.b) hP ga0) cb_X10_back1 ml_X10_332 im_X10_back1 se_X10_back1 h1 rfl rfl (rest := []) rfl (Nat.le_of_ble_eq_true rfl) ⟨Nat.le_of_ble_eq_true rfl, Nat.le_of_ble_eq_true rfl⟩ ⟨Nat.le_of_ble_eq_true rfl, Nat.le_of_ble_eq_true rfl⟩ (fun r σ6221 hp => ?_)
        obtain ⟨h6222, rfl⟩ := hp
        have h6223 := HS.trans h1 h6222 (by decide)
        have ga6224 := ga0.of (h6222.2 (c + 17) (by rw [kC_at (k := 17) (by decide)]; decide))
        refine m_iload F rfl e_X10_half_149 ?_
        refine m_if_eq F e_X10_half_151 (fun q => absurd q (by decide)) (fun _ => ?_)
        refine m_iload F rfl e_X10_half_154 ?_
        refine m_goto F e_X10_half_156 ?_
        exact m_iret F hQ e_X10_half_161 (⟨h6223, _, rfl⟩)
    · obtain ⟨n6225, hn6225, rfl⟩ := nI_nn (x := x6210) (fun e => q81 (Int32.le_trans (Int32.le_of_lt e) (by decide)))
      have c81 : n6225 > 0 := by have hh := mt (nI_leI (a := n6225) (b := 0) (by omega) (by omega)).mpr q81; omega
      refine m_iload F rfl e_X10_half_84 ?_
      refine m_bipush F (v := 72) (by decide) e_X10_half_86 ?_
      refine m_icmp_ge F e_X10_half_88 (fun q88 => ?_) (fun q88 => ?_)
      · have c88 : i ≥ 72 := (nI_leI (a := 72) (b := i) (by omega) (by omega)).mp q88
        refine m_ldc2 F kc_X10_234 e_X10_half_116 ?_
        refine m_aload_n F rfl e_X10_half_119 ?_
        refine r_getC F e_X10_half_120 fl_X10_59 h1 (f6205) ?_
        refine m_sipush F (v := 160) (by decide) e_X10_half_123 ?_
        refine m_iload_n F rfl e_X10_half_126 ?_
        refine m_imul F e_X10_half_127 ?_
        refine Wm.topE (w := nI (160 * a)) (pk_mul 160 a) ?_
        refine m_bipush F (v := 6) (by decide) e_X10_half_128 ?_
        refine m_iadd F e_X10_half_130 ?_
        refine Wm.topE (w := nI (160 * a + 6)) (nI_add (160 * a) 6) ?_
        refine r_sld F (j := 160 * a + 6) e_X10_half_131 h1 (nI_clamp (by omega)) (vp_in_nI (by omega) (by decide)) (fun x6226 h6227 f6228 => ?_)
        refine m_lmul F e_X10_half_132 ?_
        refine Wm.topl (fun x6229 _ => ?_)
        refine m_lload_n F rfl e_X10_half_133 ?_
        refine m_lcmp F e_X10_half_134 ?_
        refine Wm.top (fun x6230 _ => ?_)
        refine m_if_gt F e_X10_half_135 (fun q135 => ?_) (fun q135 => ?_)
        · obtain ⟨n6231, hn6231, rfl⟩ := nI_nn (x := x6230) (fun e => Int32.lt_irrefl (Int32.lt_trans e (Int32.lt_of_le_of_lt (by decide) q135)))
          have c135 : n6231 > 0 := (nI_ltI (a := 0) (b := n6231) (by omega) (by omega)).mp q135
          refine m_iconst F (v := 0) (by decide) e_X10_half_142 ?_
          refine m_istore F (lv' := [(5, .int 0), (0, .ref c), (1, .int (nI a)), (2, .long w1), (4, .int (nI i))]) e_X10_half_143 (by decide) rfl ?_
          refine m_aload_n F rfl e_X10_half_145 ?_
          refine r_callV F e_X10_half_146 (q_X10_back1 (x_l X) V c T Z u h P L1 _ _ L h1.1 (hok1.b) hP ga0) cb_X10_back1 ml_X10_332 im_X10_back1 se_X10_back1 h1 rfl rfl (rest := []) rfl (Nat.le_of_ble_eq_true rfl) ⟨Nat.le_of_ble_eq_true rfl, Nat.le_of_ble_eq_true rfl⟩ ⟨Nat.le_of_ble_eq_true rfl, Nat.le_of_ble_eq_true rfl⟩ (fun r σ6232 hp => ?_)
          obtain ⟨h6233, rfl⟩ := hp
          have h6234 := HS.trans h1 h6233 (by decide)
          have ga6235 := ga0.of (h6233.2 (c + 17) (by rw [kC_at (k := 17) (by decide)]; decide))
          refine m_iload F rfl e_X10_half_149 ?_
          refine m_if_eq F e_X10_half_151 (fun _ => ?_) (fun q => absurd (by decide) q)
          refine m_bipush F (v := (-2)) (by decide) e_X10_half_159 ?_
          exact m_iret F hQ e_X10_half_161 (⟨h6234, _, rfl⟩)
        · refine m_iconst F (v := 1) (by decide) e_X10_half_138 ?_
          refine m_goto F e_X10_half_139 ?_
          refine m_istore F (lv' := [(5, .int 1), (0, .ref c), (1, .int (nI a)), (2, .long w1), (4, .int (nI i))]) e_X10_half_143 (by decide) rfl ?_
          refine m_aload_n F rfl e_X10_half_145 ?_
          refine r_callV F e_X10_half_146 (q_X10_back1 (x_l X) V c T Z u h P L1 _ _ L h1.1 (hok1.b) hP ga0) cb_X10_back1 ml_X10_332 im_X10_back1 se_X10_back1 h1 rfl rfl (rest := []) rfl (Nat.le_of_ble_eq_true rfl) ⟨Nat.le_of_ble_eq_true rfl, Nat.le_of_ble_eq_true rfl⟩ ⟨Nat.le_of_ble_eq_true rfl, Nat.le_of_ble_eq_true rfl⟩ (fun r σ6236 hp => ?_)
          obtain ⟨h6237, rfl⟩ := hp
          have h6238 := HS.trans h1 h6237 (by decide)
          have ga6239 := ga0.of (h6237.2 (c + 17) (by rw [kC_at (k := 17) (by decide)]; decide))
          refine m_iload F rfl e_X10_half_149 ?_
          refine m_if_eq F e_X10_half_151 (fun q => absurd q (by decide)) (fun _ => ?_)
          refine m_iload F rfl e_X10_half_154 ?_
          refine m_goto F e_X10_half_156 ?_
          exact m_iret F hQ e_X10_half_161 (⟨h6238, _, rfl⟩)
      · have c88 : i < 72 := by have hh := mt (nI_leI (a := 72) (b := i) (by omega) (by omega)).mpr q88; omega
        refine m_aload_n F rfl e_X10_half_91 ?_
        refine r_getC F e_X10_half_92 fl_X10_59 h1 (f6205) ?_
        refine m_sipush F (v := 744) (by decide) e_X10_half_95 ?_
        refine r_sld F (j := 744) e_X10_half_98 h1 (by decide) (by unfold vp_in; decide) (fun x6240 h6241 f6242 => ?_)
        have hl6243 := hok1.1
        obtain rfl : x6240 = lN (L1 4).1 := EJ_p.mp h6241
        refine m_ldc2 F kc_X10_284 e_X10_half_99 ?_
        refine m_lcmp F e_X10_half_102 ?_
        refine m_if_ge F e_X10_half_103 (fun q103 => ?_) (fun q103 => ?_)
        · have c103 : ((L1 4).1) ≥ 99 := (lN_le (a := 99) (b := ((L1 4).1)) (by omega) (by omega)).mp ((lg_cmp_ge _ _).mp q103)
          refine m_ldc2 F kc_X10_234 e_X10_half_116 ?_
          refine m_aload_n F rfl e_X10_half_119 ?_
          refine r_getC F e_X10_half_120 fl_X10_59 h1 (f6205) ?_
          refine m_sipush F (v := 160) (by decide) e_X10_half_123 ?_
          refine m_iload_n F rfl e_X10_half_126 ?_
          refine m_imul F e_X10_half_127 ?_
          refine Wm.topE (w := nI (160 * a)) (pk_mul 160 a) ?_
          refine m_bipush F (v := 6) (by decide) e_X10_half_128 ?_
          refine m_iadd F e_X10_half_130 ?_
          refine Wm.topE (w := nI (160 * a + 6)) (nI_add (160 * a) 6) ?_
          refine r_sld F (j := 160 * a + 6) e_X10_half_131 h1 (nI_clamp (by omega)) (vp_in_nI (by omega) (by decide)) (fun x6244 h6245 f6246 => ?_)
          refine m_lmul F e_X10_half_132 ?_
          refine Wm.topl (fun x6247 _ => ?_)
          refine m_lload_n F rfl e_X10_half_133 ?_
          refine m_lcmp F e_X10_half_134 ?_
          refine Wm.top (fun x6248 _ => ?_)
          refine m_if_gt F e_X10_half_135 (fun q135 => ?_) (fun q135 => ?_)
          · obtain ⟨n6249, hn6249, rfl⟩ := nI_nn (x := x6248) (fun e => Int32.lt_irrefl (Int32.lt_trans e (Int32.lt_of_le_of_lt (by decide) q135)))
            have c135 : n6249 > 0 := (nI_ltI (a := 0) (b := n6249) (by omega) (by omega)).mp q135
            refine m_iconst F (v := 0) (by decide) e_X10_half_142 ?_
            refine m_istore F (lv' := [(5, .int 0), (0, .ref c), (1, .int (nI a)), (2, .long w1), (4, .int (nI i))]) e_X10_half_143 (by decide) rfl ?_
            refine m_aload_n F rfl e_X10_half_145 ?_
            refine r_callV F e_X10_half_146 (q_X10_back1 (x_l X) V c T Z u h P L1 _ _ L h1.1 (hok1.b) hP ga0) cb_X10_back1 ml_X10_332 im_X10_back1 se_X10_back1 h1 rfl rfl (rest := []) rfl (Nat.le_of_ble_eq_true rfl) ⟨Nat.le_of_ble_eq_true rfl, Nat.le_of_ble_eq_true rfl⟩ ⟨Nat.le_of_ble_eq_true rfl, Nat.le_of_ble_eq_true rfl⟩ (fun r σ6250 hp => ?_)
            obtain ⟨h6251, rfl⟩ := hp
            have h6252 := HS.trans h1 h6251 (by decide)
            have ga6253 := ga0.of (h6251.2 (c + 17) (by rw [kC_at (k := 17) (by decide)]; decide))
            refine m_iload F rfl e_X10_half_149 ?_
            refine m_if_eq F e_X10_half_151 (fun _ => ?_) (fun q => absurd (by decide) q)
            refine m_bipush F (v := (-2)) (by decide) e_X10_half_159 ?_
            exact m_iret F hQ e_X10_half_161 (⟨h6252, _, rfl⟩)
          · refine m_iconst F (v := 1) (by decide) e_X10_half_138 ?_
            refine m_goto F e_X10_half_139 ?_
            refine m_istore F (lv' := [(5, .int 1), (0, .ref c), (1, .int (nI a)), (2, .long w1), (4, .int (nI i))]) e_X10_half_143 (by decide) rfl ?_
            refine m_aload_n F rfl e_X10_half_145 ?_
            refine r_callV F e_X10_half_146 (q_X10_back1 (x_l X) V c T Z u h P L1 _ _ L h1.1 (hok1.b) hP ga0) cb_X10_back1 ml_X10_332 im_X10_back1 se_X10_back1 h1 rfl rfl (rest := []) rfl (Nat.le_of_ble_eq_true rfl) ⟨Nat.le_of_ble_eq_true rfl, Nat.le_of_ble_eq_true rfl⟩ ⟨Nat.le_of_ble_eq_true rfl, Nat.le_of_ble_eq_true rfl⟩ (fun r σ6254 hp => ?_)
            obtain ⟨h6255, rfl⟩ := hp
            have h6256 := HS.trans h1 h6255 (by decide)
            have ga6257 := ga0.of (h6255.2 (c + 17) (by rw [kC_at (k := 17) (by decide)]; decide))
            refine m_iload F rfl e_X10_half_149 ?_
            refine m_if_eq F e_X10_half_151 (fun q => absurd q (by decide)) (fun _ => ?_)
            refine m_iload F rfl e_X10_half_154 ?_
            refine m_goto F e_X10_half_156 ?_
            exact m_iret F hQ e_X10_half_161 (⟨h6256, _, rfl⟩)
        · have c103 : ((L1 4).1) < 99 := by have hh := mt (fun h9 => (lg_cmp_ge (lN ((L1 4).1)) (lN 99)).mpr ((lN_le (a := 99) (b := ((L1 4).1)) (by omega) (by omega)).mpr h9)) q103; omega
          refine m_aload_n F rfl e_X10_half_106 ?_
          refine r_callV F e_X10_half_107 (q_X10_periodGoes (x_l X) V c T Z u h P L1 _ _  h1.1 (hok1) hP (by first | omega | assumption | decide)) cb_X10_periodGoes ml_X10_289 im_X10_periodGoes se_X10_periodGoes h1 rfl rfl (rest := []) rfl (Nat.le_of_ble_eq_true rfl) ⟨Nat.le_of_ble_eq_true rfl, Nat.le_of_ble_eq_true rfl⟩ ⟨Nat.le_of_ble_eq_true rfl, Nat.le_of_ble_eq_true rfl⟩ (fun r σ6258 hp => ?_)
          obtain ⟨L6261, okL6261, r6262, h6259, rfl⟩ := hp
          have h6260 := HS.trans h1 h6259 (by decide)
          have ga6263 := ga0.of (h6259.2 (c + 17) (by rw [kC_at (k := 17) (by decide)]; decide))
          refine m_iinc F (v := nI (i + 1)) (lv' := [(4, .int (nI (i + 1))), (0, .ref c), (1, .int (nI a)), (2, .long w1)]) e_X10_half_110 rfl (nI_add i 1) (by decide) rfl ?_
          refine m_goto F e_X10_half_113 ?_
          refine Wm.lvsub (lv' := [(0, .ref c), (1, .int (nI a)), (2, .long w1), (4, .int (nI (i + 1)))]) ?_ [1, 2, 3, 0] rfl
          exact ih a w1 (i + 1) L6261 _ h6260 okL6261 ⟨by omega, by omega, by assumption⟩ (by omega)
set_option maxRecDepth 20000 in
theorem q_X10_half (l : Launch) (V : VX) (c T Z u h : Nat) (P : NP) (L : Nat → LQ) (N : Nat) (σ : Mem) (x901 : Int32) (h0 : HR V c ⟨T, Z, u, h, P, L⟩ σ) (hok : OKL P.n0 L) (hP : OKP P)  : Ct l V yX10_half cX10_half 6 (some .int) 4 0 0 N σ [.ref c, .int x901] (fun r τ => HS V c (⟨T, Z, u, h, P, L⟩ : RG) [0, 2, 3, 4, 5, 6, 7, 8, 9, 10, 11, 12, 13, 14, 15, 16, 19, 20, 21, 22] σ τ ∧ ∃ x : Int32, r = some (.int x)) := by
  refine Ct.of (by decide) (Nat.le_of_ble_eq_true rfl) [(0, .ref c), (1, .int x901)] rfl (fun X hX F hQ => ?_)
  have hPP := hP
  unfold OKP at hPP
  have h1 : HS V c ⟨T, Z, u, h, P, L⟩ [0, 2, 3, 4, 5, 6, 7, 8, 9, 10, 11, 12, 13, 14, 15, 16, 19, 20, 21, 22] σ σ := HS.start h0
  refine m_aload_n F rfl e_X10_half_0 ?_
  refine m_iconst F (v := 0) (by decide) e_X10_half_1 ?_
  refine r_put F (g' := (⟨T, Z, u, h, P, L⟩ : RG)) e_X10_half_2 fp_X10_91 h1 (by decide) ⟨_, rfl⟩ (fun _ _ _ _ q => q) (fun _ _ _ q => q) rfl rfl (by decide) (fun σ6264 h6265 g6266 g6267 f6268 => ?_)
  refine m_aload_n F rfl e_X10_half_5 ?_
  refine m_iload_n F rfl e_X10_half_6 ?_
  refine r_callV F e_X10_half_7 (q_X10_isLease (x_l X) V c T Z u h P L _ _ x901 h6265.1 (hok.b) hP ) cb_X10_isLease ml_X10_292 im_X10_isLease se_X10_isLease h6265 rfl rfl (rest := []) rfl (Nat.le_of_ble_eq_true rfl) ⟨Nat.le_of_ble_eq_true rfl, Nat.le_of_ble_eq_true rfl⟩ ⟨Nat.le_of_ble_eq_true rfl, Nat.le_of_ble_eq_true rfl⟩ (fun r σ6269 hp => ?_)
  obtain ⟨h6270, c6272⟩ := hp
  have h6271 := HS.trans h6265 h6270 (by decide)
  rcases c6272 with rfl | ⟨n6273, h6274, e6275, rfl⟩
  · refine m_if_eq F e_X10_half_10 (fun _ => ?_) (fun q => absurd (by decide) q)
    refine m_iconst F (v := (-1)) (by decide) e_X10_half_30 ?_
    exact m_iret F hQ e_X10_half_31 (⟨h6271, _, rfl⟩)
  · subst e6275
    refine m_if_eq F e_X10_half_10 (fun q => absurd q (by decide)) (fun _ => ?_)
    refine m_aload_n F rfl e_X10_half_13 ?_
    refine r_get F e_X10_half_14 fl_X10_59 h6271 rfl (fun v hv f6276 => ?_)
    obtain rfl : v = .ref (c + 16) := hv
    refine m_sipush F (v := 160) (by decide) e_X10_half_17 ?_
    refine m_iload_n F rfl e_X10_half_20 ?_
    refine m_imul F e_X10_half_21 ?_
    refine Wm.topE (w := nI (160 * n6273)) (pk_mul 160 n6273) ?_
    refine m_iconst F (v := 0) (by decide) e_X10_half_22 ?_
    refine m_iadd F e_X10_half_23 ?_
    refine Wm.topE (w := nI (160 * n6273)) (nI_add (160 * n6273) 0) ?_
    refine r_sld F (j := 160 * n6273) e_X10_half_24 h6271 (nI_clamp (by omega)) (vp_in_nI (by omega) (by decide)) (fun x6277 h6278 f6279 => ?_)
    have hl6280 := hok.2 n6273 (by omega)
    obtain rfl : x6277 = lN (L n6273).1 := (EJ_l (l := n6273) (r := 0) (by omega) (by decide)).mp h6278
    refine m_lconst F (v := 0) (by decide) e_X10_half_25 ?_
    refine m_lcmp F e_X10_half_26 ?_
    refine m_if_ne F e_X10_half_27 (fun q27 => ?_) (fun q27 => ?_)
    · have c27 : ((L n6273).1) ≠ 0 := by have hh := mt (fun h9 => (lg_cmp_eq (lN ((L n6273).1)) (lN 0)).mpr ((lN_eq (a := ((L n6273).1)) (b := 0) (by omega) (by omega)).mpr h9)) q27; omega
      refine m_aload_n F rfl e_X10_half_32 ?_
      refine r_getC F e_X10_half_33 fl_X10_59 h6271 (f6276) ?_
      refine m_sipush F (v := 160) (by decide) e_X10_half_36 ?_
      refine m_iload_n F rfl e_X10_half_39 ?_
      refine m_imul F e_X10_half_40 ?_
      refine Wm.topE (w := nI (160 * n6273)) (pk_mul 160 n6273) ?_
      refine m_bipush F (v := 6) (by decide) e_X10_half_41 ?_
      refine m_iadd F e_X10_half_43 ?_
      refine Wm.topE (w := nI (160 * n6273 + 6)) (nI_add (160 * n6273) 6) ?_
      refine r_sld F (j := 160 * n6273 + 6) e_X10_half_44 h6271 (nI_clamp (by omega)) (vp_in_nI (by omega) (by decide)) (fun x6281 h6282 f6283 => ?_)
      refine m_lstore_n F (lv' := [(2, .long x6281), (0, .ref c), (1, .int (nI n6273))]) e_X10_half_45 (by decide) rfl ?_
      refine m_aload_n F rfl e_X10_half_46 ?_
      refine r_getC F e_X10_half_47 fl_X10_59 h6271 (f6276) ?_
      refine m_iconst F (v := 0) (by decide) e_X10_half_50 ?_
      refine m_aload_n F rfl e_X10_half_51 ?_
      refine r_get F e_X10_half_52 fl_X10_63 h6271 rfl (fun v hv f6284 => ?_)
      obtain rfl : v = .ref (c + 17) := hv
      refine m_iconst F (v := 0) (by decide) e_X10_half_55 ?_
      obtain ⟨f6285, e6286, te6286⟩ : ∃ f, σ6269 (c + 16) = some (aJ V 1113 f) ∧ ∀ i, i < 1113 → EJ L i (f i) := h6271.1.cell (k := 16) (by decide)
      obtain ⟨g6287, e6288⟩ : ∃ f, σ6269 (c + 17) = some (aJ V 1113 f) := h6271.1.cell (k := 17) (by decide)
      refine m_callS F e_X10_half_56 (q_copies (x_l X) V _ _ (c + 16) (c + 17) 1113 1113 0 0 f6285 g6287 e6286 e6288 (by omega) (by omega) (by omega) (by omega)) cb_X10_copies ml_X10_230 sm_X10_copies rfl (rest := []) rfl (Nat.le_of_ble_eq_true rfl) ⟨Nat.le_of_ble_eq_true rfl, Nat.le_of_ble_eq_true rfl⟩ ⟨Nat.le_of_ble_eq_true rfl, Nat.le_of_ble_eq_true rfl⟩ (k' := 0) (z' := 0) (N' := N) rfl rfl rfl (fun r σ6289 hp => ?_)
      obtain ⟨p6290, rfl⟩ := hp
      have h6291 := HS.cp (k := 17) (g' := (⟨T, Z, u, h, P, L⟩ : RG)) h6271 p6290 (by decide) (by decide) ⟨_, rfl⟩ (fun _ _ _ q => q)
      have ga6292 : GB V c 17 1113 0 L σ6289 := ⟨_, p6290.1, fun i hi => by rw [show 0 + i = i from Nat.zero_add i, cpy_at0 hi, Nat.zero_add]; exact te6286 i hi⟩
      refine m_iconst F (v := 0) (by decide) e_X10_half_59 ?_
      refine m_istore F (lv' := [(4, .int 0), (2, .long x6281), (0, .ref c), (1, .int (nI n6273))]) e_X10_half_60 (by decide) rfl ?_
      refine Wm.lvsub (lv' := [(0, .ref c), (1, .int (nI n6273)), (2, .long x6281), (4, .int 0)]) ?_ [2, 3, 1, 0] rfl
      exact lq_X10_half_62 F hQ hok hP  (72 - 0 + 1) n6273 x6281 0 L _ h6291 hok ⟨by omega, by omega, by assumption⟩ (Nat.lt_succ_self _)
    · have c27 : ((L n6273).1) = 0 := (lN_eq (a := ((L n6273).1)) (b := 0) (by omega) (by omega)).mp ((lg_cmp_eq _ _).mp q27)
      refine m_iconst F (v := (-1)) (by decide) e_X10_half_30 ?_
      exact m_iret F hQ e_X10_half_31 (⟨h6271, _, rfl⟩)
set_option maxRecDepth 20000 in
theorem lq_X10_peak_40 {V : VX} {X : MX} {N : Nat} {σ : Mem} {c T Z u h : Nat} {P : NP} {L : Nat → LQ}   (F : Fx V X yX10_peak cX10_peak 8 (some .long) (rmd 4 0 0)) (hQ : Rt V X 0 0 N (fun r τ => HS V c (⟨T, Z, u, h, P, L⟩ : RG) [0, 2, 3, 4, 5, 6, 7, 8, 9, 10, 11, 12, 13, 14, 15, 16, 19, 20, 21, 22] σ τ ∧ ∃ x : Int64, r = some (.long x))) (hok : OKL P.n0 L) (hP : OKP P)   : ∀ (fuel : Nat) (a : Nat) (w1 : Int64) (b1 : Int32) (i : Nat) (L1 : Nat → LQ) (τ : Mem), HS V c (⟨T, Z, u, h, P, L1⟩ : RG) [0, 2, 3, 4, 5, 6, 7, 8, 9, 10, 11, 12, 13, 14, 15, 16, 19, 20, 21, 22] σ τ → OKL P.n0 L1 → i ≤ 72 ∧ a ≤ 1 ∧ GB V c 17 1113 0 L τ → 72 - i < fuel → Wm V X 8 N τ 0 0 40 [(0, .ref c), (1, .int (nI a)), (2, .long w1), (4, .int b1), (5, .int (nI i))] [] := by
  intro fuel
  induction fuel with
  | zero => intros; rename_i hm; exact absurd hm (Nat.not_lt_zero _)
  | succ fuel ih =>
    intro a w1 b1 i L1 τ h1 hok1 hi hm
    have hPP := hP
    unfold OKP at hPP
    have ga0 := hi.2.2
    refine m_iload F rfl e_X10_peak_40 ?_
    refine m_bipush F (v := 72) (by decide) e_X10_peak_42 ?_
    refine m_icmp_ge F e_X10_peak_44 (fun q44 => ?_) (fun q44 => ?_)
    · have c44 : i ≥ 72 := (nI_leI (a := 72) (b := i) (by omega) (by omega)).mp q44
      refine m_aload_n F rfl e_X10_peak_105 ?_
      refine r_callV F e_X10_peak_106 (q_X10_back1 (x_l X) V c T Z u h P L1 _ _ L h1.1 (hok1.b) hP ga0) cb_X10_back1 ml_X10_332 im_X10_back1 se_X10_back1 h1 rfl rfl (rest := []) rfl (Nat.le_of_ble_eq_true rfl) ⟨Nat.le_of_ble_eq_true rfl, Nat.le_of_ble_eq_true rfl⟩ ⟨Nat.le_of_ble_eq_true rfl, Nat.le_of_ble_eq_true rfl⟩ (fun r σ6293 hp => ?_)
      obtain ⟨h6294, rfl⟩ := hp
      have h6295 := HS.trans h1 h6294 (by decide)
      have ga6296 := ga0.of (h6294.2 (c + 17) (by rw [kC_at (k := 17) (by decide)]; decide))
      refine m_iload F rfl e_X10_peak_109 ?_
      refine m_bipush F (v := (-2)) (by decide) e_X10_peak_111 ?_
      refine m_icmp_eq F e_X10_peak_113 (fun q113 => ?_) (fun q113 => ?_)
      · subst q113
        refine m_iload F rfl e_X10_peak_120 ?_
        refine m_i2l F e_X10_peak_122 ?_
        refine Wm.toplE (w := (-2)) (by decide) ?_
        refine m_goto F e_X10_peak_123 ?_
        exact m_lret F hQ e_X10_peak_127 (⟨h6295, _, rfl⟩)
      · refine m_iload_n F rfl e_X10_peak_116 ?_
        refine m_if_ne F e_X10_peak_117 (fun q117 => ?_) (fun q117 => ?_)
        · have c117 : a ≠ 0 := by have hh := mt (nI_eq (a := a) (b := 0) (by omega) (by omega)).mpr q117; omega
          refine m_lload_n F rfl e_X10_peak_126 ?_
          exact m_lret F hQ e_X10_peak_127 (⟨h6295, _, rfl⟩)
        · have c117 : a = 0 := (nI_eq (a := a) (b := 0) (by omega) (by omega)).mp q117
          refine m_iload F rfl e_X10_peak_120 ?_
          refine m_i2l F e_X10_peak_122 ?_
          refine Wm.topl (fun x6297 _ => ?_)
          refine m_goto F e_X10_peak_123 ?_
          exact m_lret F hQ e_X10_peak_127 (⟨h6295, _, rfl⟩)
    · have c44 : i < 72 := by have hh := mt (nI_leI (a := 72) (b := i) (by omega) (by omega)).mpr q44; omega
      refine m_aload_n F rfl e_X10_peak_47 ?_
      refine r_get F e_X10_peak_48 fl_X10_59 h1 rfl (fun v hv f6298 => ?_)
      obtain rfl : v = .ref (c + 16) := hv
      refine m_sipush F (v := 744) (by decide) e_X10_peak_51 ?_
      refine r_sld F (j := 744) e_X10_peak_54 h1 (by decide) (by unfold vp_in; decide) (fun x6299 h6300 f6301 => ?_)
      have hl6302 := hok1.1
      obtain rfl : x6299 = lN (L1 4).1 := EJ_p.mp h6300
      refine m_ldc2 F kc_X10_284 e_X10_peak_55 ?_
      refine m_lcmp F e_X10_peak_58 ?_
      refine m_if_ge F e_X10_peak_59 (fun q59 => ?_) (fun q59 => ?_)
      · have c59 : ((L1 4).1) ≥ 99 := (lN_le (a := 99) (b := ((L1 4).1)) (by omega) (by omega)).mp ((lg_cmp_ge _ _).mp q59)
        refine m_aload_n F rfl e_X10_peak_105 ?_
        refine r_callV F e_X10_peak_106 (q_X10_back1 (x_l X) V c T Z u h P L1 _ _ L h1.1 (hok1.b) hP ga0) cb_X10_back1 ml_X10_332 im_X10_back1 se_X10_back1 h1 rfl rfl (rest := []) rfl (Nat.le_of_ble_eq_true rfl) ⟨Nat.le_of_ble_eq_true rfl, Nat.le_of_ble_eq_true rfl⟩ ⟨Nat.le_of_ble_eq_true rfl, Nat.le_of_ble_eq_true rfl⟩ (fun r σ6303 hp => ?_)
        obtain ⟨h6304, rfl⟩ := hp
        have h6305 := HS.trans h1 h6304 (by decide)
        have ga6306 := ga0.of (h6304.2 (c + 17) (by rw [kC_at (k := 17) (by decide)]; decide))
        refine m_iload F rfl e_X10_peak_109 ?_
        refine m_bipush F (v := (-2)) (by decide) e_X10_peak_111 ?_
        refine m_icmp_eq F e_X10_peak_113 (fun q113 => ?_) (fun q113 => ?_)
        · subst q113
          refine m_iload F rfl e_X10_peak_120 ?_
          refine m_i2l F e_X10_peak_122 ?_
          refine Wm.toplE (w := (-2)) (by decide) ?_
          refine m_goto F e_X10_peak_123 ?_
          exact m_lret F hQ e_X10_peak_127 (⟨h6305, _, rfl⟩)
        · refine m_iload_n F rfl e_X10_peak_116 ?_
          refine m_if_ne F e_X10_peak_117 (fun q117 => ?_) (fun q117 => ?_)
          · have c117 : a ≠ 0 := by have hh := mt (nI_eq (a := a) (b := 0) (by omega) (by omega)).mpr q117; omega
            refine m_lload_n F rfl e_X10_peak_126 ?_
            exact m_lret F hQ e_X10_peak_127 (⟨h6305, _, rfl⟩)
          · have c117 : a = 0 := (nI_eq (a := a) (b := 0) (by omega) (by omega)).mp q117
            refine m_iload F rfl e_X10_peak_120 ?_
            refine m_i2l F e_X10_peak_122 ?_
            refine Wm.topl (fun x6307 _ => ?_)
            refine m_goto F e_X10_peak_123 ?_
            exact m_lret F hQ e_X10_peak_127 (⟨h6305, _, rfl⟩)
      · have c59 : ((L1 4).1) < 99 := by have hh := mt (fun h9 => (lg_cmp_ge (lN ((L1 4).1)) (lN 99)).mpr ((lN_le (a := 99) (b := ((L1 4).1)) (by omega) (by omega)).mpr h9)) q59; omega
        refine m_aload_n F rfl e_X10_peak_62 ?_
        refine r_callV F e_X10_peak_63 (q_X10_paidAll (x_l X) V c T Z u h P L1 _ _  h1.1 (hok1.b) hP ) cb_X10_paidAll ml_X10_343 im_X10_paidAll se_X10_paidAll h1 rfl rfl (rest := []) rfl (Nat.le_of_ble_eq_true rfl) ⟨Nat.le_of_ble_eq_true rfl, Nat.le_of_ble_eq_true rfl⟩ ⟨Nat.le_of_ble_eq_true rfl, Nat.le_of_ble_eq_true rfl⟩ (fun r σ6308 hp => ?_)
        obtain ⟨h6309, x6311, rfl⟩ := hp
        have h6310 := HS.trans h1 h6309 (by decide)
        have ga6312 := ga0.of (h6309.2 (c + 17) (by rw [kC_at (k := 17) (by decide)]; decide))
        refine m_lstore F (lv' := [(6, .long x6311), (0, .ref c), (1, .int (nI a)), (2, .long w1), (4, .int b1), (5, .int (nI i))]) e_X10_peak_66 (by decide) rfl ?_
        refine m_aload_n F rfl e_X10_peak_68 ?_
        refine r_callV F e_X10_peak_69 (q_X10_periodGoes (x_l X) V c T Z u h P L1 _ _  h6310.1 (hok1) hP (by first | omega | assumption | decide)) cb_X10_periodGoes ml_X10_289 im_X10_periodGoes se_X10_periodGoes h6310 rfl rfl (rest := []) rfl (Nat.le_of_ble_eq_true rfl) ⟨Nat.le_of_ble_eq_true rfl, Nat.le_of_ble_eq_true rfl⟩ ⟨Nat.le_of_ble_eq_true rfl, Nat.le_of_ble_eq_true rfl⟩ (fun r σ6313 hp => ?_)
        obtain ⟨L6316, okL6316, r6317, h6314, rfl⟩ := hp
        have h6315 := HS.trans h6310 h6314 (by decide)
        have ga6318 := ga6312.of (h6314.2 (c + 17) (by rw [kC_at (k := 17) (by decide)]; decide))
        refine m_aload_n F rfl e_X10_peak_72 ?_
        refine r_callV F e_X10_peak_73 (q_X10_paidAll (x_l X) V c T Z u h P L6316 _ _  h6315.1 (okL6316.b) hP ) cb_X10_paidAll ml_X10_343 im_X10_paidAll se_X10_paidAll h6315 rfl rfl (rest := []) rfl (Nat.le_of_ble_eq_true rfl) ⟨Nat.le_of_ble_eq_true rfl, Nat.le_of_ble_eq_true rfl⟩ ⟨Nat.le_of_ble_eq_true rfl, Nat.le_of_ble_eq_true rfl⟩ (fun r σ6319 hp => ?_)
        obtain ⟨h6320, x6322, rfl⟩ := hp
        have h6321 := HS.trans h6315 h6320 (by decide)
        have ga6323 := ga6318.of (h6320.2 (c + 17) (by rw [kC_at (k := 17) (by decide)]; decide))
        refine m_lload F rfl e_X10_peak_76 ?_
        refine m_lsub F e_X10_peak_78 ?_
        refine Wm.topl (fun x6324 _ => ?_)
        refine m_lload_n F rfl e_X10_peak_79 ?_
        refine m_lcmp F e_X10_peak_80 ?_
        refine Wm.top (fun x6325 _ => ?_)
        refine m_if_gt F e_X10_peak_81 (fun q81 => ?_) (fun q81 => ?_)
        · obtain ⟨n6326, hn6326, rfl⟩ := nI_nn (x := x6325) (fun e => Int32.lt_irrefl (Int32.lt_trans e (Int32.lt_of_le_of_lt (by decide) q81)))
          have c81 : n6326 > 0 := (nI_ltI (a := 0) (b := n6326) (by omega) (by omega)).mp q81
          refine m_aload_n F rfl e_X10_peak_87 ?_
          refine r_callV F e_X10_peak_88 (q_X10_paidAll (x_l X) V c T Z u h P L6316 _ _  h6321.1 (okL6316.b) hP ) cb_X10_paidAll ml_X10_343 im_X10_paidAll se_X10_paidAll h6321 rfl rfl (rest := []) rfl (Nat.le_of_ble_eq_true rfl) ⟨Nat.le_of_ble_eq_true rfl, Nat.le_of_ble_eq_true rfl⟩ ⟨Nat.le_of_ble_eq_true rfl, Nat.le_of_ble_eq_true rfl⟩ (fun r σ6327 hp => ?_)
          obtain ⟨h6328, x6330, rfl⟩ := hp
          have h6329 := HS.trans h6321 h6328 (by decide)
          have ga6331 := ga6323.of (h6328.2 (c + 17) (by rw [kC_at (k := 17) (by decide)]; decide))
          refine m_lload F rfl e_X10_peak_91 ?_
          refine m_lsub F e_X10_peak_93 ?_
          refine Wm.topl (fun x6332 _ => ?_)
          refine m_lstore_n F (lv' := [(2, .long x6332), (6, .long x6311), (0, .ref c), (1, .int (nI a)), (4, .int b1), (5, .int (nI i))]) e_X10_peak_94 (by decide) rfl ?_
          refine m_iload F rfl e_X10_peak_95 ?_
          refine m_istore F (lv' := [(4, .int (nI i)), (2, .long x6332), (6, .long x6311), (0, .ref c), (1, .int (nI a)), (5, .int (nI i))]) e_X10_peak_97 (by decide) rfl ?_
          refine m_iinc F (v := nI (i + 1)) (lv' := [(5, .int (nI (i + 1))), (4, .int (nI i)), (2, .long x6332), (6, .long x6311), (0, .ref c), (1, .int (nI a))]) e_X10_peak_99 rfl (nI_add i 1) (by decide) rfl ?_
          refine m_goto F e_X10_peak_102 ?_
          refine Wm.lvsub (lv' := [(0, .ref c), (1, .int (nI a)), (2, .long x6332), (4, .int (nI i)), (5, .int (nI (i + 1)))]) ?_ [4, 5, 2, 1, 0] rfl
          exact ih a x6332 (nI i) (i + 1) L6316 _ h6329 okL6316 ⟨by omega, by omega, by assumption⟩ (by omega)
        · refine m_goto F e_X10_peak_84 ?_
          refine m_iinc F (v := nI (i + 1)) (lv' := [(5, .int (nI (i + 1))), (6, .long x6311), (0, .ref c), (1, .int (nI a)), (2, .long w1), (4, .int b1)]) e_X10_peak_99 rfl (nI_add i 1) (by decide) rfl ?_
          refine m_goto F e_X10_peak_102 ?_
          refine Wm.lvsub (lv' := [(0, .ref c), (1, .int (nI a)), (2, .long w1), (4, .int b1), (5, .int (nI (i + 1)))]) ?_ [2, 3, 4, 5, 0] rfl
          exact ih a w1 b1 (i + 1) L6316 _ h6321 okL6316 ⟨by omega, by omega, by assumption⟩ (by omega)
set_option maxRecDepth 20000 in
theorem q_X10_peak (l : Launch) (V : VX) (c T Z u h : Nat) (P : NP) (L : Nat → LQ) (N : Nat) (σ : Mem) (x901 : Int32) (h0 : HR V c ⟨T, Z, u, h, P, L⟩ σ) (hok : OKL P.n0 L) (hP : OKP P)  : Ct l V yX10_peak cX10_peak 8 (some .long) 4 0 0 N σ [.ref c, .int x901] (fun r τ => HS V c (⟨T, Z, u, h, P, L⟩ : RG) [0, 2, 3, 4, 5, 6, 7, 8, 9, 10, 11, 12, 13, 14, 15, 16, 19, 20, 21, 22] σ τ ∧ ∃ x : Int64, r = some (.long x)) := by
  refine Ct.of (by decide) (Nat.le_of_ble_eq_true rfl) [(0, .ref c), (1, .int x901)] rfl (fun X hX F hQ => ?_)
  have hPP := hP
  unfold OKP at hPP
  have h1 : HS V c ⟨T, Z, u, h, P, L⟩ [0, 2, 3, 4, 5, 6, 7, 8, 9, 10, 11, 12, 13, 14, 15, 16, 19, 20, 21, 22] σ σ := HS.start h0
  refine m_aload_n F rfl e_X10_peak_0 ?_
  refine m_iconst F (v := 0) (by decide) e_X10_peak_1 ?_
  refine r_put F (g' := (⟨T, Z, u, h, P, L⟩ : RG)) e_X10_peak_2 fp_X10_91 h1 (by decide) ⟨_, rfl⟩ (fun _ _ _ _ q => q) (fun _ _ _ q => q) rfl rfl (by decide) (fun σ6333 h6334 g6335 g6336 f6337 => ?_)
  refine m_iload_n F rfl e_X10_peak_5 ?_
  refine m_if_lt F e_X10_peak_6 (fun q6 => ?_) (fun q6 => ?_)
  · refine m_ldc2 F kc_X10_245 e_X10_peak_14 ?_
    exact m_lret F hQ e_X10_peak_17 (⟨h6334, _, rfl⟩)
  · obtain ⟨n6338, hn6338, rfl⟩ := nI_nn (x := x901) (fun e => q6 (Int32.lt_of_lt_of_le e (by decide)))
    have c6 : n6338 ≥ 0 := by have hh := mt (nI_ltI (a := n6338) (b := 0) (by omega) (by omega)).mpr q6; omega
    refine m_iload_n F rfl e_X10_peak_9 ?_
    refine m_iconst F (v := 1) (by decide) e_X10_peak_10 ?_
    refine m_icmp_le F e_X10_peak_11 (fun q11 => ?_) (fun q11 => ?_)
    · have c11 : n6338 ≤ 1 := (nI_leI (a := n6338) (b := 1) (by omega) (by omega)).mp q11
      refine m_aload_n F rfl e_X10_peak_18 ?_
      refine r_get F e_X10_peak_19 fl_X10_59 h6334 rfl (fun v hv f6339 => ?_)
      obtain rfl : v = .ref (c + 16) := hv
      refine m_iconst F (v := 0) (by decide) e_X10_peak_22 ?_
      refine m_aload_n F rfl e_X10_peak_23 ?_
      refine r_get F e_X10_peak_24 fl_X10_63 h6334 rfl (fun v hv f6340 => ?_)
      obtain rfl : v = .ref (c + 17) := hv
      refine m_iconst F (v := 0) (by decide) e_X10_peak_27 ?_
      obtain ⟨f6341, e6342, te6342⟩ : ∃ f, σ6333 (c + 16) = some (aJ V 1113 f) ∧ ∀ i, i < 1113 → EJ L i (f i) := h6334.1.cell (k := 16) (by decide)
      obtain ⟨g6343, e6344⟩ : ∃ f, σ6333 (c + 17) = some (aJ V 1113 f) := h6334.1.cell (k := 17) (by decide)
      refine m_callS F e_X10_peak_28 (q_copies (x_l X) V _ _ (c + 16) (c + 17) 1113 1113 0 0 f6341 g6343 e6342 e6344 (by omega) (by omega) (by omega) (by omega)) cb_X10_copies ml_X10_230 sm_X10_copies rfl (rest := []) rfl (Nat.le_of_ble_eq_true rfl) ⟨Nat.le_of_ble_eq_true rfl, Nat.le_of_ble_eq_true rfl⟩ ⟨Nat.le_of_ble_eq_true rfl, Nat.le_of_ble_eq_true rfl⟩ (k' := 0) (z' := 0) (N' := N) rfl rfl rfl (fun r σ6345 hp => ?_)
      obtain ⟨p6346, rfl⟩ := hp
      have h6347 := HS.cp (k := 17) (g' := (⟨T, Z, u, h, P, L⟩ : RG)) h6334 p6346 (by decide) (by decide) ⟨_, rfl⟩ (fun _ _ _ q => q)
      have ga6348 : GB V c 17 1113 0 L σ6345 := ⟨_, p6346.1, fun i hi => by rw [show 0 + i = i from Nat.zero_add i, cpy_at0 hi, Nat.zero_add]; exact te6342 i hi⟩
      refine m_lconst F (v := 0) (by decide) e_X10_peak_31 ?_
      refine m_lstore_n F (lv' := [(2, .long 0), (0, .ref c), (1, .int (nI n6338))]) e_X10_peak_32 (by decide) rfl ?_
      refine m_bipush F (v := (-2)) (by decide) e_X10_peak_33 ?_
      refine m_istore F (lv' := [(4, .int (-2)), (2, .long 0), (0, .ref c), (1, .int (nI n6338))]) e_X10_peak_35 (by decide) rfl ?_
      refine m_iconst F (v := 0) (by decide) e_X10_peak_37 ?_
      refine m_istore F (lv' := [(5, .int 0), (4, .int (-2)), (2, .long 0), (0, .ref c), (1, .int (nI n6338))]) e_X10_peak_38 (by decide) rfl ?_
      refine Wm.lvsub (lv' := [(0, .ref c), (1, .int (nI n6338)), (2, .long 0), (4, .int (-2)), (5, .int 0)]) ?_ [3, 4, 2, 1, 0] rfl
      exact lq_X10_peak_40 F hQ hok hP  (72 - 0 + 1) n6338 0 (-2) 0 L _ h6347 hok ⟨by omega, by omega, by assumption⟩ (Nat.lt_succ_self _)
    · have c11 : n6338 > 1 := by have hh := mt (nI_leI (a := n6338) (b := 1) (by omega) (by omega)).mpr q11; omega
      refine m_ldc2 F kc_X10_245 e_X10_peak_14 ?_
      exact m_lret F hQ e_X10_peak_17 (⟨h6334, _, rfl⟩)
