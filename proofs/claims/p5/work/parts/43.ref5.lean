/-! copies of rows by content -/
def cpy (f g : Nat → Int64) (i k n : Nat) : Nat → Int64 := fun j => if k ≤ j ∧ j < k + n then f (i + (j - k)) else g j
theorem cpy_0 {f g : Nat → Int64} {i k : Nat} : cpy f g i k 0 = g := by
  funext j
  unfold cpy
  rw [if_neg (by omega)]
theorem cpy_up {f g : Nat → Int64} {i k n : Nat} : vp_updL (cpy f g i k n) (k + n) (f (i + n)) = cpy f g i k (n + 1) := by
  funext j
  unfold vp_updL cpy
  by_cases h : j = k + n
  · subst h
    rw [if_pos rfl, if_pos (by omega), show k + n - k = n by omega]
  · rw [if_neg h]
    by_cases h2 : k ≤ j ∧ j < k + n
    · rw [if_pos h2, if_pos (by omega)]
    · rw [if_neg h2, if_neg (by omega)]
theorem cpy_at {f g : Nat → Int64} {i k n j : Nat} (h : j < n) : cpy f g i k n (k + j) = f (i + j) := by
  unfold cpy
  rw [if_pos (by omega), show k + j - k = j by omega]
theorem cpy_at0 {f g : Nat → Int64} {i n j : Nat} (h : j < n) : cpy f g i 0 n j = f (i + j) := by
  have h1 := cpy_at (f := f) (g := g) (i := i) (k := 0) h
  rw [Nat.zero_add] at h1
  exact h1
theorem cpy_off {f g : Nat → Int64} {i k n j : Nat} (h : j < k) : cpy f g i k n j = g j := by
  unfold cpy
  rw [if_neg (by omega)]
/-- a row holds, from an index on, a copy of s that is typed by L -/
def GB (V : VX) (c q len o : Nat) (L : Nat → LQ) (σ : Mem) : Prop := ∃ f, σ (c + q) = some (aJ V len f) ∧ ∀ i, i < 1113 → EJ L i (f (o + i))
theorem GB.of {V : VX} {c q len o : Nat} {L : Nat → LQ} {σ τ : Mem} (h : GB V c q len o L σ) (e : τ (c + q) = σ (c + q)) : GB V c q len o L τ := by
  obtain ⟨f, a, b⟩ := h
  exact ⟨f, e.trans a, b⟩
def upto (c q : Nat) (e : va_E) (σ τ : Mem) : Prop := τ (c + q) = some e ∧ ∀ x, x ≠ c + q → τ x = σ x
theorem HS.cp {V : VX} {c k : Nat} {g g' : RG} {ks : List Nat} {σ0 σ τ : Mem} {e : va_E} (h : HS V c g ks σ0 σ) (hτ : upto c k e σ τ) (hk : k < 23) (hq : k + 1 ∉ ks) (hc : CR V c g' (k + 1) (some e)) (ho : ∀ j, j ≠ k + 1 → ∀ x, CR V c g j x → CR V c g' j x) : HS V c g' ks σ0 τ := by
  refine ⟨fun a => ?_, fun a ha => ?_⟩
  · by_cases ha : a = c + k
    · subst ha; rw [hτ.1, kC_at hk]; exact hc
    · rw [hτ.2 a ha]; exact ho _ (fun q => ha (kC_un q)) _ (h.1 a)
  · have hne : a ≠ c + k := fun q => hq (by rw [q, kC_at hk] at ha; exact ha)
    rw [hτ.2 a hne]; exact h.2 a ha
/-- back into s -/
theorem HS.cpS {V : VX} {c T Z u h o : Nat} {P : NP} {L L2 : Nat → LQ} {ks : List Nat} {σ0 σ τ : Mem} {f g : Nat → Int64} (hh : HS V c ⟨T, Z, u, h, P, L⟩ ks σ0 σ) (hks : 17 ∉ ks) (hf : ∀ i, i < 1113 → EJ L2 i (f (o + i))) (hτ : upto c 16 (aJ V 1113 (cpy f g o 0 1113)) σ τ) : HS V c ⟨T, Z, u, h, P, L2⟩ ks σ0 τ :=
  HS.cp (k := 16) hh hτ (by decide) hks ⟨_, rfl, fun i hi => by rw [cpy_at0 hi]; exact hf i hi⟩ CR.row
theorem HS.cpK {V : VX} {c T Z u h : Nat} {P : NP} {L : Nat → LQ} {ks : List Nat} {σ0 σ τ : Mem} {f g : Nat → Int64} (hh : HS V c ⟨T, Z, u, h, P, L⟩ ks σ0 σ) (hks : 21 ∉ ks) (he : σ (c + 20) = some (aJ V 22260 g)) (hτ : upto c 20 (aJ V 22260 (cpy f g 0 (1113 * u) 1113)) σ τ) : HS V c ⟨T, Z, u, h, P, L⟩ ks σ0 τ := by
  refine HS.cp (k := 20) hh hτ (by decide) hks ⟨_, rfl, fun j hj => ?_⟩ (fun _ _ _ q => q)
  obtain ⟨g2, e2, h2⟩ : ∃ f, σ (c + 20) = some (aJ V 22260 f) ∧ ∀ j, j < u → GR P.kk (fun i => f (1113 * j + i)) := hh.1.cell (k := 20) (by decide)
  have hg : g2 = g := by
    rw [he] at e2
    have h3 := congrArg (fun e : Option va_E => match e with | some (.inl (_, _, .inr (.inl f))) => f | _ => fun _ => 0) e2
    exact h3.symm
  subst hg
  obtain ⟨L3, h3, h4⟩ := h2 j hj
  refine ⟨L3, h3, fun i hi => ?_⟩
  have h5 := h4 i hi
  show EJ L3 i (cpy f g2 0 (1113 * u) 1113 (1113 * j + i))
  rw [cpy_off (show 1113 * j + i < 1113 * u by have h6 : 1113 * (j + 1) ≤ 1113 * u := Nat.mul_le_mul_left _ hj; omega)]
  exact h5
theorem CR.unoth {V : VX} {c T Z u u' h : Nat} {P : NP} {L : Nat → LQ} : ∀ i, i ≠ 1 → i ≠ 21 → ∀ x, CR V c ⟨T, Z, u, h, P, L⟩ i x → CR V c ⟨T, Z, u', h, P, L⟩ i x := by
  intro i hi hj x hx
  unfold CR at hx ⊢
  split at hx <;> first | exact hx | exact absurd rfl hi | exact absurd rfl hj
theorem CR.himg {V : VX} {c T Z u h h' : Nat} {P : NP} {L : Nat → LQ} : ∀ i, i ≠ 1 → i ≠ 20 → ∀ x, CR V c ⟨T, Z, u, h, P, L⟩ i x → CR V c ⟨T, Z, u, h', P, L⟩ i x := by
  intro i hi hj x hx
  unfold CR at hx ⊢
  split at hx <;> first | exact hx | exact absurd rfl hi | exact absurd rfl hj
theorem CR.h0 {V : VX} {c T Z u h : Nat} {P : NP} {L : Nat → LQ} : ∀ i, i ≠ 1 → ∀ x, CR V c ⟨T, Z, u, h, P, L⟩ i x → CR V c ⟨T, Z, u, 0, P, L⟩ i x := by
  intro i hi x hx
  by_cases hj : i = 20
  · subst hj
    obtain ⟨f, e, q⟩ := hx
    exact ⟨f, e, fun e => absurd e (by show ¬ (0 : Nat) = 1; decide)⟩
  · exact CR.himg i hi hj x hx
theorem ctl_u {c T Z u u' h : Nat} {P : NP} {L : Nat → LQ} : ∀ i, i < rL.length → i ≠ 32 → ∀ w, TyW c ⟨T, Z, u, h, P, L⟩ (rL.getD i (0, 0)) w → TyW c ⟨T, Z, u', h, P, L⟩ (rL.getD i (0, 0)) w := by
  intro i hi hne w hw
  have key : ∀ i, i < 37 → i ≠ 32 → (rL.getD i (0, 0)).1 ≠ 7 := by decide
  have hk := key i hi hne
  unfold TyW at hw ⊢
  split at hw <;> simp_all
theorem ctl_h {c T Z u h h' : Nat} {P : NP} {L : Nat → LQ} : ∀ i, i < rL.length → i ≠ 33 → ∀ w, TyW c ⟨T, Z, u, h, P, L⟩ (rL.getD i (0, 0)) w → TyW c ⟨T, Z, u, h', P, L⟩ (rL.getD i (0, 0)) w := by
  intro i hi hne w hw
  have key : ∀ i, i < 37 → i ≠ 33 → (rL.getD i (0, 0)).1 ≠ 8 := by decide
  have hk := key i hi hne
  unfold TyW at hw ⊢
  split at hw <;> simp_all
/-- a field is written where the other cells are typed by the new ghosts as they lie -/
theorem r_putM {V : VX} {X : MX} {y : MethodName} {cc : ByteArray} {nL N k z pc n c : Nat} {ret : Option FieldType} {R : Room} {σ σ0 : Mem} {lv : List (Nat × Value)} {st : List Value} {g g' : RG} {ks : List Nat} (F : Fx V X y cc nL ret R) {index j : Nat} {ty : FieldType} {v : Value} {fs : List Value} (d : DC cc pc 3 n (.putfield index)) (fp : FP y.cls index 8 j false ty) (h2 : σ c = some (ob 8 fs)) (h3 : TyO c g fs) (hkeep : ∀ a, kC c a ∈ ks → σ a = σ0 a) (hj : j < rL.length) (hv : TyW c g' (rL.getD j (0, 0)) v) (hr : ∀ i, i < rL.length → i ≠ j → ∀ w, TyW c g (rL.getD i (0, 0)) w → TyW c g' (rL.getD i (0, 0)) w) (ho : ∀ a, a ≠ c → CR V c g' (kC c a) (σ a)) (hn : narrow ty v = v) (hf : fits ty v = true) (hq : 1 ∉ ks) (kk : ∀ σ' : Mem, HS V c g' ks σ0 σ' → (∀ x, x ≠ c → σ' x = σ x) → (∀ i, i ≠ j → fld σ' c i = fld σ c i) → fld σ' c j = some v → Wm V X nL N σ' k z n lv st) : Wm V X nL N σ k z pc lv (v :: .ref c :: st) := by
  have hl : j < fs.length := by rw [h3.1]; exact hj
  have hC : TyO c g' (fs.set j v) := by
    refine ⟨by rw [List.length_set]; exact h3.1, fun i u hu => ?_⟩
    have hu' : rL.getD i (0, 0) = u := by rw [List.getD_eq_getElem?_getD, hu]; rfl
    have hi : i < rL.length := (List.getElem?_eq_some_iff.mp hu).1
    by_cases hij : j = i
    · subst hij
      exact ⟨v, by rw [List.getElem?_set_self hl], by rw [← hu']; exact hv⟩
    · obtain ⟨w, h4, h5⟩ := h3.2 i u hu
      refine ⟨w, by rw [List.getElem?_set_ne hij]; exact h4, ?_⟩
      rw [← hu'] at h5 ⊢
      exact hr i hi (fun e => hij e.symm) w h5
  refine m_put F d fp h2 hn hf hl rfl rfl (kk _ ⟨fun a => ?_, fun a ha => ?_⟩ (fun x hx => va_up_ne _ _ hx) (fun i hi => ?_) (fld_of (va_up_self _ _ _) (List.getElem?_set_self hl)))
  · by_cases ha : a = c
    · subst ha
      rw [va_up_self, show kC a a = 1 from kC_at (c := a) (k := 0) (by decide)]
      exact ⟨_, rfl, hC⟩
    · rw [va_up_ne _ _ ha]; exact ho a ha
  · have hne : a ≠ c := fun q => hq (by rw [q, show kC c c = 1 from kC_at (k := 0) (by decide)] at ha; exact ha)
    rw [va_up_ne _ _ hne]; exact hkeep a ha
  · unfold fld
    rw [va_up_self, h2]
    show (fs.set j v)[i]? = fs[i]?
    exact List.getElem?_set_ne (fun e => hi e.symm)
def shf (f : Nat → Int64) (k : Nat) : Nat → Int64 := fun j => if j < k then f (1113 + j) else f j
theorem shf_0 {f : Nat → Int64} : shf f 0 = f := by
  funext j
  unfold shf
  rw [if_neg (by omega)]
theorem shf_up {f : Nat → Int64} {k : Nat} : vp_updL (shf f k) k (shf f k (1113 + k)) = shf f (k + 1) := by
  funext j
  have h0 : shf f k (1113 + k) = f (1113 + k) := by unfold shf; rw [if_neg (by omega)]
  rw [h0]
  unfold vp_updL shf
  by_cases h : j = k
  · subst h
    rw [if_pos rfl, if_pos (by omega)]
  · rw [if_neg h]
    by_cases h2 : j < k
    · rw [if_pos h2, if_pos (by omega)]
    · rw [if_neg h2, if_neg (by omega)]
theorem va_upto {σ τ : Mem} {c q : Nat} {e e' : va_E} (h : upto c q e σ τ) : upto c q e' σ (va_up τ (c + q) (some e')) := ⟨va_up_self _ _ _, fun x hx => (va_up_ne _ _ hx).trans (h.2 x hx)⟩
theorem dv_lt {a b : Int64} (h : b ≠ 0) : (a - a / b * b).toInt.natAbs < b.toInt.natAbs := by
  have hb : b.toInt ≠ 0 := fun e => h (Int64.toInt_inj.mp (by rw [e]; rfl))
  have h1 : (a - a / b * b).toInt = (a.toInt - a.toInt.tdiv b.toInt * b.toInt).bmod (2 ^ 64) := by
    rw [Int64.toInt_sub, Int64.toInt_mul, Int64.toInt_div, Int.bmod_mul_bmod, Int.sub_bmod_bmod]
  have h2 : a.toInt - a.toInt.tdiv b.toInt * b.toInt = a.toInt.tmod b.toInt := by
    have h3 := Int.tmod_add_tdiv_mul a.toInt b.toInt
    omega
  have h3 : (a.toInt.tmod b.toInt).natAbs < b.toInt.natAbs := by
    rw [Int.natAbs_tmod]
    exact Nat.mod_lt _ (by omega)
  have h4 := Int64.le_toInt b
  have h5 := Int64.toInt_lt b
  rw [h1, h2, Int.bmod_eq_of_le (by omega) (by omega)]
  exact h3
theorem lN_of {x : Int64} (h1 : ¬ x < 500) (h2 : ¬ 2000 < x) : ∃ n : Nat, 1 ≤ n ∧ n ≤ 2000 ∧ x = lN n := by
  have a1 : (500 : Int64).toInt ≤ x.toInt := Int.not_lt.mp fun e => h1 (Int64.lt_iff_toInt_lt.mpr e)
  have a2 : x.toInt ≤ (2000 : Int64).toInt := Int.not_lt.mp fun e => h2 (Int64.lt_iff_toInt_lt.mpr e)
  have b1 : (500 : Int64).toInt = 500 := by decide
  have b2 : (2000 : Int64).toInt = 2000 := by decide
  refine ⟨x.toInt.toNat, by omega, by omega, Int64.toInt_inj.mp ?_⟩
  unfold lN
  rw [Int64.toInt_ofNat_of_lt (by omega)]
  omega
theorem shl5 {m : Nat} (h : m ≤ 4) : ∃ p : Nat, p ≤ 16 ∧ (1 : Int32) <<< (nI m &&& 31) = nI p := by
  have h2 : ∀ m, m < 5 → (1 : Int32) <<< (nI m &&& 31) = nI (2 ^ m) ∧ 2 ^ m ≤ 16 := by decide
  exact ⟨2 ^ m, (h2 m (by omega)).2, (h2 m (by omega)).1⟩
theorem r_zald {V : VX} {X : MX} {y : MethodName} {cc : ByteArray} {nL N k z pc n c : Nat} {ret : Option FieldType} {R : Room} {σ σ0 : Mem} {lv : List (Nat × Value)} {st : List Value} {g : RG} {ks : List Nat} (F : Fx V X y cc nL ret R) {j : Nat} {i : Int32} (d : DC cc pc 1 n .baload) (h : HS V c g ks σ0 σ) (hj : i.toNatClampNeg = j) (hin : vp_in i 4) (kk : ∀ m, m ≤ 1 → elI σ (c + 21) j = some (nI m) → Wm V X nL N σ k z n lv (.int (nI m) :: st)) : Wm V X nL N σ k z pc lv (.int i :: .ref (c + 21) :: st) := by
  obtain ⟨f, h2, h3⟩ : ∃ f, σ (c + 21) = some (aZ V 4 f) ∧ ∀ i, i < 4 → EI g.P 22 i (f i) := h.1.cell (k := 21) (by decide)
  have hl : j < 4 := by rw [← hj]; exact Nat.not_le.mp fun e => hin (Or.inr e)
  obtain ⟨m, hm, e⟩ := h3 j hl
  refine m_zald F d h2 hj hin ?_
  have h4 : elI σ (c + 21) j = some (f j) := by unfold elI; rw [h2]
  rw [e] at h4 ⊢
  exact kk m hm h4
theorem r_zast {V : VX} {X : MX} {y : MethodName} {cc : ByteArray} {nL N k z pc n c m : Nat} {ret : Option FieldType} {R : Room} {σ σ0 : Mem} {lv : List (Nat × Value)} {st : List Value} {g : RG} {ks : List Nat} (F : Fx V X y cc nL ret R) {j : Nat} {i : Int32} (d : DC cc pc 1 n .bastore) (h : HS V c g ks σ0 σ) (hj : i.toNatClampNeg = j) (hin : vp_in i 4) (hm : m ≤ 1) (hks : 22 ∉ ks) (kk : ∀ σ' : Mem, HS V c g ks σ0 σ' → (∀ a, a ≠ c + 21 → σ' a = σ a) → elI σ' (c + 21) j = some (nI m) → Wm V X nL N σ' k z n lv st) : Wm V X nL N σ k z pc lv (.int (nI m) :: .int i :: .ref (c + 21) :: st) := by
  obtain ⟨f, h2, h3⟩ : ∃ f, σ (c + 21) = some (aZ V 4 f) ∧ ∀ i, i < 4 → EI g.P 22 i (f i) := h.1.cell (k := 21) (by decide)
  refine m_zast F d h2 hj hin (nz1 hm) rfl rfl (kk _ (HS.up (k := 21) h (by decide) hks ⟨_, rfl, fun i hi => ?_⟩ (fun _ _ _ q => q)) (fun a ha => va_up_ne _ _ ha) ?_)
  · unfold upd
    by_cases e : i = j
    · rw [if_pos e]; exact ⟨m, hm, rfl⟩
    · rw [if_neg e]; exact h3 i hi
  · unfold elI
    rw [va_up_self]
    show some (upd f j (nI m) j) = _
    unfold upd
    rw [if_pos rfl]
theorem i2l_gt {x : Int32} {g : Nat} (hg : g < 2 ^ 31) (h : ¬ x.toInt64 ≤ lN g) : ∃ m : Nat, g < m ∧ m < 2147483648 ∧ x = nI m := by
  have h1 : ¬ x.toInt64.toInt ≤ (lN g).toInt := fun e => h (Int64.le_iff_toInt_le.mpr e)
  have h2 : (lN g).toInt = (g : Int) := by unfold lN; exact Int64.toInt_ofNat_of_lt (by omega)
  have h3 := Int32.toInt_lt x
  rw [Int32.toInt_toInt64, h2] at h1
  refine ⟨x.toInt.toNat, by omega, by omega, Int32.toInt_inj.mp ?_⟩
  unfold nI
  rw [Int32.toInt_ofNat_of_lt (by omega)]
  omega
set_option maxRecDepth 20000 in
theorem lq_copies {V : VX} {X : MX} {N : Nat} {σ : Mem} {a1 a2 len1 len2 i k : Nat} {f g : Nat → Int64} (F : Fx V X yX10_copies cX10_copies 5 none (rmd 0 0 0)) (hQ : Rt V X 0 0 N (fun r τ => (τ a2 = some (aJ V len2 (cpy f g i k 1113)) ∧ ∀ x, x ≠ a2 → τ x = σ x) ∧ r = none)) (h1 : σ a1 = some (aJ V len1 f)) (h2 : σ a2 = some (aJ V len2 g)) (hne : a1 ≠ a2) (hi : i + 1113 ≤ len1) (hk : k + 1113 ≤ len2) (hl : len1 ≤ 22260 ∧ len2 ≤ 22260) : ∀ (fuel n : Nat) (τ : Mem), (τ a2 = some (aJ V len2 (cpy f g i k n)) ∧ ∀ x, x ≠ a2 → τ x = σ x) → n ≤ 1113 → 1113 - n < fuel → Wm V X 5 N τ 0 0 3 [(4, .int (nI n)), (0, .ref a1), (1, .int (nI i)), (2, .ref a2), (3, .int (nI k))] [] := by
  intro fuel
  induction fuel with
  | zero => intros; rename_i hm; exact absurd hm (Nat.not_lt_zero _)
  | succ fuel ih =>
    intro n τ hτ hn hm
    refine m_iload F rfl e_X10_copies_3 ?_
    refine m_sipush F (v := 1113) (by decide) e_X10_copies_5 ?_
    refine m_icmp_ge F e_X10_copies_8 (fun q8 => ?_) (fun q8 => ?_)
    · have c8 : n ≥ 1113 := (nI_leI (a := 1113) (b := n) (by omega) (by omega)).mp q8
      exact m_vret F hQ e_X10_copies_29 (⟨⟨by rw [show 1113 = n by omega]; exact hτ.1, hτ.2⟩, rfl⟩)
    · have c8 : n < 1113 := by have hh := mt (nI_leI (a := 1113) (b := n) (by omega) (by omega)).mpr q8; omega
      refine m_aload_n F rfl e_X10_copies_11 ?_
      refine m_iload_n F rfl e_X10_copies_12 ?_
      refine m_iload F rfl e_X10_copies_13 ?_
      refine m_iadd F e_X10_copies_15 ?_
      refine Wm.topE (w := nI (k + n)) (nI_add k n) ?_
      refine m_aload_n F rfl e_X10_copies_16 ?_
      refine m_iload_n F rfl e_X10_copies_17 ?_
      refine m_iload F rfl e_X10_copies_18 ?_
      refine m_iadd F e_X10_copies_20 ?_
      refine Wm.topE (w := nI (i + n)) (nI_add i n) ?_
      refine m_lald F e_X10_copies_21 ((hτ.2 a1 hne).trans h1) (j := i + n) (nI_clamp (by omega)) (vp_in_nI (by omega) (by omega)) ?_
      refine m_last F e_X10_copies_22 hτ.1 (j := k + n) (nI_clamp (by omega)) (vp_in_nI (by omega) (by omega)) cpy_up rfl ?_
      refine m_iinc F (v := nI (n + 1)) (lv' := [(4, .int (nI (n + 1))), (0, .ref a1), (1, .int (nI i)), (2, .ref a2), (3, .int (nI k))]) e_X10_copies_23 rfl (nI_add n 1) (by decide) rfl ?_
      refine m_goto F e_X10_copies_26 ?_
      exact ih (n + 1) _ ⟨va_up_self _ _ _, fun x hx => (va_up_ne _ _ hx).trans (hτ.2 x hx)⟩ (by omega) (by omega)
set_option maxRecDepth 20000 in
theorem q_copies (l : Launch) (V : VX) (N : Nat) (σ : Mem) (a1 a2 len1 len2 i k : Nat) (f g : Nat → Int64) (h1 : σ a1 = some (aJ V len1 f)) (h2 : σ a2 = some (aJ V len2 g)) (hne : a1 ≠ a2) (hi : i + 1113 ≤ len1) (hk : k + 1113 ≤ len2) (hl : len1 ≤ 22260 ∧ len2 ≤ 22260) : Ct l V yX10_copies cX10_copies 5 none 0 0 0 N σ [.ref a1, .int (nI i), .ref a2, .int (nI k)] (fun r τ => (τ a2 = some (aJ V len2 (cpy f g i k 1113)) ∧ ∀ x, x ≠ a2 → τ x = σ x) ∧ r = none) := by
  refine Ct.of (by decide) (Nat.le_of_ble_eq_true rfl) [(0, .ref a1), (1, .int (nI i)), (2, .ref a2), (3, .int (nI k))] rfl (fun X hX F hQ => ?_)
  refine m_iconst F (v := 0) (by decide) e_X10_copies_0 ?_
  refine m_istore F (lv' := [(4, .int 0), (0, .ref a1), (1, .int (nI i)), (2, .ref a2), (3, .int (nI k))]) e_X10_copies_1 (by decide) rfl ?_
  exact lq_copies F hQ h1 h2 hne hi hk hl 1114 0 _ ⟨by rw [cpy_0]; exact h2, fun _ _ => rfl⟩ (by omega) (by omega)
set_option maxRecDepth 20000 in
theorem rem_50 {V : VX} {X : MX} {N : Nat} {σ : Mem} {c T Z h : Nat} {P : NP} {L : Nat → LQ} {u1 : Nat} {τ : Mem} (F : Fx V X yX10_remembers cX10_remembers 2 none (rmd 1 0 0)) (hQ : Rt V X 0 0 N (fun r τ => ∃ u9, u9 ≤ 20 ∧ HS V c (⟨T, Z, u9, h, P, L⟩ : RG) [0, 2, 3, 4, 5, 6, 7, 8, 9, 10, 11, 12, 13, 14, 15, 16, 17, 18, 19, 20, 22, 23] σ τ ∧ r = none)) (hok : OKL P.n0 L) (hP : OKP P) (hkk : P.kk = P.n0)  (hu : u1 ≤ 19) (h1 : HS V c ⟨T, Z, u1, h, P, L⟩ [0, 2, 3, 4, 5, 6, 7, 8, 9, 10, 11, 12, 13, 14, 15, 16, 17, 18, 19, 20, 22, 23] σ τ) : Wm V X 2 N τ 0 0 50 [(0, .ref c)] [] := by
  refine m_aload_n F rfl e_X10_remembers_50 ?_
  refine r_get F e_X10_remembers_51 fl_X10_59 h1 rfl (fun v hv f5790 => ?_)
  obtain rfl : v = .ref (c + 16) := hv
  refine m_iconst F (v := 0) (by decide) e_X10_remembers_54 ?_
  refine m_aload_n F rfl e_X10_remembers_55 ?_
  refine r_get F e_X10_remembers_56 fl_X10_72 h1 rfl (fun v hv f5791 => ?_)
  obtain rfl : v = .ref (c + 20) := hv
  refine m_sipush F (v := 1113) (by decide) e_X10_remembers_59 ?_
  refine m_aload_n F rfl e_X10_remembers_62 ?_
  refine r_get F e_X10_remembers_63 fl_X10_214 h1 rfl (fun v hv f5792 => ?_)
  obtain rfl : v = .int (nI (u1)) := hv
  refine m_imul F e_X10_remembers_66 ?_
  refine Wm.topE (w := nI (1113 * u1)) (pk_mul 1113 u1) ?_
  obtain ⟨f5793, e5794, te5794⟩ : ∃ f, τ (c + 16) = some (aJ V 1113 f) ∧ ∀ i, i < 1113 → EJ L i (f i) := h1.1.cell (k := 16) (by decide)
  obtain ⟨g5795, e5796, te5796⟩ : ∃ f, τ (c + 20) = some (aJ V 22260 f) ∧ _ := h1.1.cell (k := 20) (by decide)
  refine m_callS F e_X10_remembers_67 (q_copies (x_l X) V _ _ (c + 16) (c + 20) 1113 22260 0 (1113 * u1) f5793 g5795 e5794 e5796 (by omega) (by omega) (by omega) (by omega)) cb_X10_copies ml_X10_230 sm_X10_copies rfl (rest := []) rfl (Nat.le_of_ble_eq_true rfl) ⟨Nat.le_of_ble_eq_true rfl, Nat.le_of_ble_eq_true rfl⟩ ⟨Nat.le_of_ble_eq_true rfl, Nat.le_of_ble_eq_true rfl⟩ (k' := 0) (z' := 0) (N' := N) rfl rfl rfl (fun r σ5797 hp => ?_)
  obtain ⟨p5798, rfl⟩ := hp
  have h5799 := HS.cpK h1 (by decide) e5796 p5798
  have ga5800 : GB V c 20 22260 (1113 * u1) L σ5797 := ⟨_, p5798.1, fun i hi => by rw [cpy_at hi, Nat.zero_add]; exact te5794 i hi⟩
  refine m_aload_n F rfl e_X10_remembers_70 ?_
  refine m_dup F rfl e_X10_remembers_71 ?_
  refine r_getC F e_X10_remembers_72 fl_X10_214 h5799 ((fld_eq (p5798.2 _ (by omega))).trans f5792) ?_
  refine m_iconst F (v := 1) (by decide) e_X10_remembers_75 ?_
  refine m_iadd F e_X10_remembers_76 ?_
  refine Wm.topE (w := nI (u1 + 1)) (nI_add u1 1) ?_
  obtain ⟨fs, e1, ty⟩ : ∃ fs, σ5797 c = some (ob 8 fs) ∧ TyO c (⟨T, Z, u1, h, P, L⟩ : RG) fs := h5799.1.cell (k := 0) (by decide)
  refine r_putM F (g := (⟨T, Z, u1, h, P, L⟩ : RG)) (g' := ⟨T, Z, u1 + 1, h, P, L⟩) e_X10_remembers_77 fp_X10_214 e1 ty h5799.2 (by decide) rfl ctl_u (fun a ha => ?_) rfl rfl (by decide) (fun σ5801 h5802 _ _ _ => ?_)
  · by_cases h9 : kC c a = 21
    · have h8 := kC_un (k := 20) h9
      subst h8
      rw [h9]
      obtain ⟨f3, e3, t3⟩ : ∃ f, σ5797 (c + 20) = some (aJ V 22260 f) ∧ ∀ j, j < u1 → GR P.kk (fun i => f (1113 * j + i)) := h5799.1.cell (k := 20) (by decide)
      refine ⟨f3, e3, fun j hj => ?_⟩
      by_cases hj1 : j < u1
      · exact t3 j hj1
      · have hj2 : j = u1 := by have hj3 : j < u1 + 1 := hj; omega
        subst hj2
        obtain ⟨f4, e4, t4⟩ := ga5800
        have h7 : f4 = f3 := by
          rw [e3] at e4
          exact (congrArg (fun e : Option va_E => match e with | some (.inl (_, _, .inr (.inl f))) => f | _ => fun _ => 0) e4).symm
        subst h7
        exact ⟨L, by rw [hkk]; exact hok, t4⟩
    · exact CR.unoth _ (fun e => ha (by have h8 := kC_un (k := 0) e; omega)) h9 _ (h5799.1 a)
  exact m_vret F hQ e_X10_remembers_80 (⟨u1 + 1, by omega, h5802, rfl⟩)
set_option maxRecDepth 20000 in
theorem lq_rem {V : VX} {X : MX} {N : Nat} {σ : Mem} {c T Z u h : Nat} {P : NP} {L : Nat → LQ} {f : Nat → Int64} {fs : List Value} (F : Fx V X yX10_remembers cX10_remembers 2 none (rmd 1 0 0)) (hQ : Rt V X 0 0 N (fun r τ => ∃ u9, u9 ≤ 20 ∧ HS V c (⟨T, Z, u9, h, P, L⟩ : RG) [0, 2, 3, 4, 5, 6, 7, 8, 9, 10, 11, 12, 13, 14, 15, 16, 17, 18, 19, 20, 22, 23] σ τ ∧ r = none)) (hok : OKL P.n0 L) (hP : OKP P) (hkk : P.kk = P.n0)  (hu : u = 20) (h0 : HR V c ⟨T, Z, u, h, P, L⟩ σ) (e1 : σ c = some (ob 8 fs)) (ty : TyO c ⟨T, Z, u, h, P, L⟩ fs) (e31 : fs[31]? = some (.ref (c + 20))) (e32 : fs[32]? = some (.int (nI u))) (e3 : ∀ j, j < u → GR P.kk (fun i => f (1113 * j + i))) : ∀ (fuel k : Nat) (τ : Mem), upto c 20 (aJ V 22260 (shf f k)) σ τ → k ≤ 21147 → 21147 - k < fuel → Wm V X 2 N τ 0 0 11 [(1, .int (nI k)), (0, .ref c)] [] := by
  intro fuel
  induction fuel with
  | zero => intros; rename_i hm; exact absurd hm (Nat.not_lt_zero _)
  | succ fuel ih =>
    intro k τ hτ hk hm
    refine m_iload_n F rfl e_X10_remembers_11 ?_
    refine m_sipush F (v := 21147) (by decide) e_X10_remembers_12 ?_
    refine m_icmp_ge F e_X10_remembers_15 (fun q15 => ?_) (fun q15 => ?_)
    · have c15 : k ≥ 21147 := (nI_leI (a := 21147) (b := k) (by omega) (by omega)).mp q15
      refine m_aload_n F rfl e_X10_remembers_40 ?_
      refine m_dup F rfl e_X10_remembers_41 ?_
      refine m_get F e_X10_remembers_42 fl_X10_214 ((hτ.2 c (by omega)).trans e1) e32 ?_
      refine m_iconst F (v := 1) (by decide) e_X10_remembers_45 ?_
      refine m_isub F e_X10_remembers_46 ?_
      refine Wm.topE (w := nI (u - 1)) (pk_sub (a := u) (b := 1) (by omega)) ?_
      refine r_putM F (g := ⟨T, Z, u, h, P, L⟩) (g' := ⟨T, Z, u - 1, h, P, L⟩) (σ0 := σ) (ks := [0, 2, 3, 4, 5, 6, 7, 8, 9, 10, 11, 12, 13, 14, 15, 16, 17, 18, 19, 20, 22, 23]) e_X10_remembers_47 fp_X10_214 ((hτ.2 c (by omega)).trans e1) ty (fun a ha => hτ.2 a (fun e => absurd ha (by rw [e, kC_at (k := 20) (by decide)]; decide))) (by decide) rfl ctl_u (fun a ha => ?_) rfl rfl (by decide) (fun σ5803 h5804 _ _ _ => ?_)
      · by_cases h9 : kC c a = 21
        · have h8 := kC_un (k := 20) h9
          subst h8
          rw [h9]
          refine ⟨_, hτ.1, fun j hj => ?_⟩
          have hj2 : j < u - 1 := hj
          obtain ⟨L3, h3, h4⟩ := e3 (j + 1) (by omega)
          refine ⟨L3, h3, fun i hi => ?_⟩
          have h5 := h4 i hi
          show EJ L3 i (shf f k (1113 * j + i))
          rw [show shf f k (1113 * j + i) = f (1113 * (j + 1) + i) by unfold shf; rw [if_pos (by omega)]; congr 1; omega]
          exact h5
        · rw [hτ.2 a (fun e => h9 (by rw [e, kC_at (k := 20) (by decide)]))]
          exact CR.unoth _ (fun e => ha (by have h8 := kC_un (k := 0) e; omega)) h9 _ (h0 a)
      refine Wm.lvsub (lv' := [(0, .ref c)]) ?_ [1] rfl
      exact rem_50 F hQ hok hP hkk (by omega) h5804
    · have c15 : k < 21147 := by have hh := mt (nI_leI (a := 21147) (b := k) (by omega) (by omega)).mpr q15; omega
      refine m_aload_n F rfl e_X10_remembers_18 ?_
      refine m_get F e_X10_remembers_19 fl_X10_72 ((hτ.2 c (by omega)).trans e1) e31 ?_
      refine m_iload_n F rfl e_X10_remembers_22 ?_
      refine m_aload_n F rfl e_X10_remembers_23 ?_
      refine m_get F e_X10_remembers_24 fl_X10_72 ((hτ.2 c (by omega)).trans e1) e31 ?_
      refine m_sipush F (v := 1113) (by decide) e_X10_remembers_27 ?_
      refine m_iload_n F rfl e_X10_remembers_30 ?_
      refine m_iadd F e_X10_remembers_31 ?_
      refine Wm.topE (w := nI (1113 + k)) (nI_add 1113 k) ?_
      refine m_lald F e_X10_remembers_32 hτ.1 (j := 1113 + k) (nI_clamp (by omega)) (vp_in_nI (by omega) (by decide)) ?_
      refine m_last F e_X10_remembers_33 hτ.1 (j := k) (nI_clamp (by omega)) (vp_in_nI (by omega) (by decide)) shf_up rfl ?_
      refine m_iinc F (v := nI (k + 1)) (lv' := [(1, .int (nI (k + 1))), (0, .ref c)]) e_X10_remembers_34 rfl (nI_add k 1) (by decide) rfl ?_
      refine m_goto F e_X10_remembers_37 ?_
      exact ih (k + 1) _ (va_upto hτ) (by omega) (by omega)
set_option maxRecDepth 20000 in
theorem q_X10_remembers (l : Launch) (V : VX) (c T Z u h : Nat) (P : NP) (L : Nat → LQ) (N : Nat) (σ : Mem) (h0 : HR V c ⟨T, Z, u, h, P, L⟩ σ) (hok : OKL P.n0 L) (hP : OKP P) (hp0 : u ≤ 20) (hp1 : P.kk = P.n0) : Ct l V yX10_remembers cX10_remembers 2 none 1 0 0 N σ [.ref c] (fun r τ => ∃ u9, u9 ≤ 20 ∧ HS V c (⟨T, Z, u9, h, P, L⟩ : RG) [0, 2, 3, 4, 5, 6, 7, 8, 9, 10, 11, 12, 13, 14, 15, 16, 17, 18, 19, 20, 22, 23] σ τ ∧ r = none) := by
  refine Ct.of (by decide) (Nat.le_of_ble_eq_true rfl) [(0, .ref c)] rfl (fun X hX F hQ => ?_)
  have h1 : HS V c ⟨T, Z, u, h, P, L⟩ [0, 2, 3, 4, 5, 6, 7, 8, 9, 10, 11, 12, 13, 14, 15, 16, 17, 18, 19, 20, 22, 23] σ σ := HS.start h0
  refine m_aload_n F rfl e_X10_remembers_0 ?_
  refine r_get F e_X10_remembers_1 fl_X10_214 h1 rfl (fun v hv f5805 => ?_)
  obtain rfl : v = .int (nI (u)) := hv
  refine m_bipush F (v := 20) (by decide) e_X10_remembers_4 ?_
  refine m_icmp_ne F e_X10_remembers_6 (fun q6 => ?_) (fun q6 => ?_)
  · have c6 : u ≠ 20 := by have hh := mt (nI_eq (a := u) (b := 20) (by omega) (by omega)).mpr q6; omega
    exact rem_50 F hQ hok hP hp1 (by omega) h1
  · have c6 : u = 20 := (nI_eq (a := u) (b := 20) (by omega) (by omega)).mp q6
    refine m_iconst F (v := 0) (by decide) e_X10_remembers_9 ?_
    refine m_istore_n F (lv' := [(1, .int 0), (0, .ref c)]) e_X10_remembers_10 (by decide) rfl ?_
    obtain ⟨fs, e1, ty⟩ : ∃ fs, σ c = some (ob 8 fs) ∧ TyO c ⟨T, Z, u, h, P, L⟩ fs := h0.cell (k := 0) (by decide)
    obtain ⟨f, e2, e3⟩ : ∃ f, σ (c + 20) = some (aJ V 22260 f) ∧ ∀ j, j < u → GR P.kk (fun i => f (1113 * j + i)) := h0.cell (k := 20) (by decide)
    obtain ⟨_, e31, rfl⟩ := ty.2 31 (3, 20) rfl
    obtain ⟨_, e32, rfl⟩ := ty.2 32 (7, 0) rfl
    exact lq_rem F hQ hok hP hp1 (by omega) h0 e1 ty e31 e32 e3 21148 0 _ ⟨by rw [shf_0]; exact e2, fun _ _ => rfl⟩ (by omega) (by omega)
set_option maxRecDepth 20000 in
theorem lq_X10_ahead_15 {V : VX} {X : MX} {N : Nat} {σ : Mem} {c T Z u h : Nat} {P : NP} {L : Nat → LQ}  {n901 : Nat} (F : Fx V X yX10_ahead cX10_ahead 3 none (rmd 4 0 0)) (hQ : Rt V X 0 0 N (fun r τ => ∃ L9, OKL P.n0 L9 ∧ GB V c 17 1113 0 L τ ∧ HS V c (⟨T, Z, u, h, P, L9⟩ : RG) [0, 1, 2, 3, 4, 5, 6, 7, 8, 9, 10, 11, 12, 13, 14, 15, 16, 19, 20, 21, 22] σ τ ∧ r = none)) (hok : OKL P.n0 L) (hP : OKP P) (hn901 : n901 ≤ 72)  : ∀ (fuel : Nat) (i : Nat) (L1 : Nat → LQ) (τ : Mem), HS V c (⟨T, Z, u, h, P, L1⟩ : RG) [0, 1, 2, 3, 4, 5, 6, 7, 8, 9, 10, 11, 12, 13, 14, 15, 16, 19, 20, 21, 22] σ τ → OKL P.n0 L1 → i ≤ n901 ∧ GB V c 17 1113 0 L τ → n901 - i < fuel → Wm V X 3 N τ 0 0 15 [(0, .ref c), (1, .int (nI n901)), (2, .int (nI i))] [] := by
  intro fuel
  induction fuel with
  | zero => intros; rename_i hm; exact absurd hm (Nat.not_lt_zero _)
  | succ fuel ih =>
    intro i L1 τ h1 hok1 hi hm
    have hPP := hP
    unfold OKP at hPP
    have ga0 := hi.2
    refine m_iload_n F rfl e_X10_ahead_15 ?_
    refine m_iload_n F rfl e_X10_ahead_16 ?_
    refine m_icmp_ge F e_X10_ahead_17 (fun q17 => ?_) (fun q17 => ?_)
    · have c17 : i ≥ n901 := (nI_leI (a := n901) (b := i) (by omega) (by omega)).mp q17
      exact m_vret F hQ e_X10_ahead_45 (⟨L1, hok1, (by first | omega | rfl | assumption), h1, rfl⟩)
    · have c17 : i < n901 := by have hh := mt (nI_leI (a := n901) (b := i) (by omega) (by omega)).mpr q17; omega
      refine m_aload_n F rfl e_X10_ahead_20 ?_
      refine r_get F e_X10_ahead_21 fl_X10_59 h1 rfl (fun v hv f5806 => ?_)
      obtain rfl : v = .ref (c + 16) := hv
      refine m_sipush F (v := 744) (by decide) e_X10_ahead_24 ?_
      refine r_sld F (j := 744) e_X10_ahead_27 h1 (by decide) (by unfold vp_in; decide) (fun x5807 h5808 f5809 => ?_)
      have hl5810 := hok1.1
      obtain rfl : x5807 = lN (L1 4).1 := EJ_p.mp h5808
      refine m_ldc2 F kc_X10_284 e_X10_ahead_28 ?_
      refine m_lcmp F e_X10_ahead_31 ?_
      refine m_if_ge F e_X10_ahead_32 (fun q32 => ?_) (fun q32 => ?_)
      · have c32 : ((L1 4).1) ≥ 99 := (lN_le (a := 99) (b := ((L1 4).1)) (by omega) (by omega)).mp ((lg_cmp_ge _ _).mp q32)
        exact m_vret F hQ e_X10_ahead_45 (⟨L1, hok1, (by first | omega | rfl | assumption), h1, rfl⟩)
      · have c32 : ((L1 4).1) < 99 := by have hh := mt (fun h9 => (lg_cmp_ge (lN ((L1 4).1)) (lN 99)).mpr ((lN_le (a := 99) (b := ((L1 4).1)) (by omega) (by omega)).mpr h9)) q32; omega
        refine m_aload_n F rfl e_X10_ahead_35 ?_
        refine r_callV F e_X10_ahead_36 (q_X10_periodGoes (x_l X) V c T Z u h P L1 _ _  h1.1 (hok1) hP (by first | omega | assumption | decide)) cb_X10_periodGoes ml_X10_289 im_X10_periodGoes se_X10_periodGoes h1 rfl rfl (rest := []) rfl (Nat.le_of_ble_eq_true rfl) ⟨Nat.le_of_ble_eq_true rfl, Nat.le_of_ble_eq_true rfl⟩ ⟨Nat.le_of_ble_eq_true rfl, Nat.le_of_ble_eq_true rfl⟩ (fun r σ5811 hp => ?_)
        obtain ⟨L5814, okL5814, r5815, h5812, rfl⟩ := hp
        have h5813 := HS.trans h1 h5812 (by decide)
        have ga5816 := ga0.of (h5812.2 (c + 17) (by rw [kC_at (k := 17) (by decide)]; decide))
        refine m_iinc F (v := nI (i + 1)) (lv' := [(2, .int (nI (i + 1))), (0, .ref c), (1, .int (nI n901))]) e_X10_ahead_39 rfl (nI_add i 1) (by decide) rfl ?_
        refine m_goto F e_X10_ahead_42 ?_
        refine Wm.lvsub (lv' := [(0, .ref c), (1, .int (nI n901)), (2, .int (nI (i + 1)))]) ?_ [1, 2, 0] rfl
        exact ih (i + 1) L5814 _ h5813 okL5814 ⟨by omega, by assumption⟩ (by omega)
set_option maxRecDepth 20000 in
theorem q_X10_ahead (l : Launch) (V : VX) (c T Z u h : Nat) (P : NP) (L : Nat → LQ) (N : Nat) (σ : Mem) (n901 : Nat) (h0 : HR V c ⟨T, Z, u, h, P, L⟩ σ) (hok : OKL P.n0 L) (hP : OKP P) (hn901 : n901 ≤ 72) : Ct l V yX10_ahead cX10_ahead 3 none 4 0 0 N σ [.ref c, .int (nI n901)] (fun r τ => ∃ L9, OKL P.n0 L9 ∧ GB V c 17 1113 0 L τ ∧ HS V c (⟨T, Z, u, h, P, L9⟩ : RG) [0, 1, 2, 3, 4, 5, 6, 7, 8, 9, 10, 11, 12, 13, 14, 15, 16, 19, 20, 21, 22] σ τ ∧ r = none) := by
  refine Ct.of (by decide) (Nat.le_of_ble_eq_true rfl) [(0, .ref c), (1, .int (nI n901))] rfl (fun X hX F hQ => ?_)
  have hPP := hP
  unfold OKP at hPP
  have h1 : HS V c ⟨T, Z, u, h, P, L⟩ [0, 1, 2, 3, 4, 5, 6, 7, 8, 9, 10, 11, 12, 13, 14, 15, 16, 19, 20, 21, 22] σ σ := HS.start h0
  refine m_aload_n F rfl e_X10_ahead_0 ?_
  refine r_get F e_X10_ahead_1 fl_X10_59 h1 rfl (fun v hv f5817 => ?_)
  obtain rfl : v = .ref (c + 16) := hv
  refine m_iconst F (v := 0) (by decide) e_X10_ahead_4 ?_
  refine m_aload_n F rfl e_X10_ahead_5 ?_
  refine r_get F e_X10_ahead_6 fl_X10_63 h1 rfl (fun v hv f5818 => ?_)
  obtain rfl : v = .ref (c + 17) := hv
  refine m_iconst F (v := 0) (by decide) e_X10_ahead_9 ?_
  obtain ⟨f5819, e5820, te5820⟩ : ∃ f, σ (c + 16) = some (aJ V 1113 f) ∧ ∀ i, i < 1113 → EJ L i (f i) := h1.1.cell (k := 16) (by decide)
  obtain ⟨g5821, e5822⟩ : ∃ f, σ (c + 17) = some (aJ V 1113 f) := h1.1.cell (k := 17) (by decide)
  refine m_callS F e_X10_ahead_10 (q_copies (x_l X) V _ _ (c + 16) (c + 17) 1113 1113 0 0 f5819 g5821 e5820 e5822 (by omega) (by omega) (by omega) (by omega)) cb_X10_copies ml_X10_230 sm_X10_copies rfl (rest := []) rfl (Nat.le_of_ble_eq_true rfl) ⟨Nat.le_of_ble_eq_true rfl, Nat.le_of_ble_eq_true rfl⟩ ⟨Nat.le_of_ble_eq_true rfl, Nat.le_of_ble_eq_true rfl⟩ (k' := 0) (z' := 0) (N' := N) rfl rfl rfl (fun r σ5823 hp => ?_)
  obtain ⟨p5824, rfl⟩ := hp
  have h5825 := HS.cp (k := 17) (g' := (⟨T, Z, u, h, P, L⟩ : RG)) h1 p5824 (by decide) (by decide) ⟨_, rfl⟩ (fun _ _ _ q => q)
  have ga5826 : GB V c 17 1113 0 L σ5823 := ⟨_, p5824.1, fun i hi => by rw [show 0 + i = i from Nat.zero_add i, cpy_at0 hi, Nat.zero_add]; exact te5820 i hi⟩
  refine m_iconst F (v := 0) (by decide) e_X10_ahead_13 ?_
  refine m_istore_n F (lv' := [(2, .int 0), (0, .ref c), (1, .int (nI n901))]) e_X10_ahead_14 (by decide) rfl ?_
  refine Wm.lvsub (lv' := [(0, .ref c), (1, .int (nI n901)), (2, .int 0)]) ?_ [1, 2, 0] rfl
  exact lq_X10_ahead_15 F hQ hok hP hn901 (n901 - 0 + 1) 0 L _ h5825 hok ⟨by omega, by assumption⟩ (Nat.lt_succ_self _)
set_option maxRecDepth 20000 in
theorem q_X10_back1 (l : Launch) (V : VX) (c T Z u h : Nat) (P : NP) (L : Nat → LQ) (N : Nat) (σ : Mem) (L2 : Nat → LQ) (h0 : HR V c ⟨T, Z, u, h, P, L⟩ σ) (hob : OKB L) (hP : OKP P) (hp0 : GB V c 17 1113 0 L2 σ) : Ct l V yX10_back1 cX10_back1 1 none 1 0 0 N σ [.ref c] (fun r τ => HS V c (⟨T, Z, u, h, P, L2⟩ : RG) [0, 1, 2, 3, 4, 5, 6, 7, 8, 9, 10, 11, 12, 13, 14, 15, 16, 18, 19, 20, 21, 22, 23] σ τ ∧ r = none) := by
  refine Ct.of (by decide) (Nat.le_of_ble_eq_true rfl) [(0, .ref c)] rfl (fun X hX F hQ => ?_)
  have hPP := hP
  unfold OKP at hPP
  have h1 : HS V c ⟨T, Z, u, h, P, L⟩ [0, 1, 2, 3, 4, 5, 6, 7, 8, 9, 10, 11, 12, 13, 14, 15, 16, 18, 19, 20, 21, 22, 23] σ σ := HS.start h0
  refine m_aload_n F rfl e_X10_back1_0 ?_
  refine r_get F e_X10_back1_1 fl_X10_63 h1 rfl (fun v hv f5827 => ?_)
  obtain rfl : v = .ref (c + 17) := hv
  refine m_iconst F (v := 0) (by decide) e_X10_back1_4 ?_
  refine m_aload_n F rfl e_X10_back1_5 ?_
  refine r_get F e_X10_back1_6 fl_X10_59 h1 rfl (fun v hv f5828 => ?_)
  obtain rfl : v = .ref (c + 16) := hv
  refine m_iconst F (v := 0) (by decide) e_X10_back1_9 ?_
  have xe5830 := hp0
  obtain ⟨f5829, e5830, te5830⟩ := xe5830
  obtain ⟨g5831, e5832, te5832⟩ : ∃ f, σ (c + 16) = some (aJ V 1113 f) ∧ _ := h1.1.cell (k := 16) (by decide)
  refine m_callS F e_X10_back1_10 (q_copies (x_l X) V _ _ (c + 17) (c + 16) 1113 1113 0 0 f5829 g5831 e5830 e5832 (by omega) (by omega) (by omega) (by omega)) cb_X10_copies ml_X10_230 sm_X10_copies rfl (rest := []) rfl (Nat.le_of_ble_eq_true rfl) ⟨Nat.le_of_ble_eq_true rfl, Nat.le_of_ble_eq_true rfl⟩ ⟨Nat.le_of_ble_eq_true rfl, Nat.le_of_ble_eq_true rfl⟩ (k' := 0) (z' := 0) (N' := N) rfl rfl rfl (fun r σ5833 hp => ?_)
  obtain ⟨p5834, rfl⟩ := hp
  have h5835 := HS.cpS (L2 := L2) (o := 0) h1 (by decide) te5830 p5834
  have ga5836 := hp0.of (p5834.2 _ (by omega))
  exact m_vret F hQ e_X10_back1_13 (⟨h5835, rfl⟩)
set_option maxRecDepth 20000 in
theorem lq_X10_go_41 {V : VX} {X : MX} {N : Nat} {σ : Mem} {c T Z u h : Nat} {P : NP} {L : Nat → LQ}   (F : Fx V X yX10_go cX10_go 3 (some .int) (rmd 4 0 0)) (hQ : Rt V X 0 0 N (fun r τ => ∃ u9, u9 ≤ 20 ∧ ∃ L9, OKL P.n0 L9 ∧ HS V c (⟨T, Z, u9, h, P, L9⟩ : RG) [0, 2, 3, 4, 5, 6, 7, 8, 9, 10, 11, 12, 13, 14, 15, 16, 18, 19, 20, 22] σ τ ∧ ∃ x : Int32, r = some (.int x))) (hok : OKL P.n0 L) (hP : OKP P) (hp0 : u ≤ 20) (hp1 : P.kk = P.n0)  : ∀ (fuel : Nat) (a : Nat) (i : Nat) (u1 : Nat) (L1 : Nat → LQ) (τ : Mem), HS V c (⟨T, Z, u1, h, P, L1⟩ : RG) [0, 2, 3, 4, 5, 6, 7, 8, 9, 10, 11, 12, 13, 14, 15, 16, 18, 19, 20, 22] σ τ → OKL P.n0 L1 → u1 ≤ 20 ∧ a ≤ 12 ∧ i ≤ a ∧ (L1 4).1 + a ≤ 99 + i → a - i < fuel → Wm V X 3 N τ 0 0 41 [(0, .ref c), (1, .int (nI a)), (2, .int (nI i))] [] := by
  intro fuel
  induction fuel with
  | zero => intros; rename_i hm; exact absurd hm (Nat.not_lt_zero _)
  | succ fuel ih =>
    intro a i u1 L1 τ h1 hok1 hi hm
    have hPP := hP
    unfold OKP at hPP
    refine m_iload_n F rfl e_X10_go_41 ?_
    refine m_iload_n F rfl e_X10_go_42 ?_
    refine m_icmp_ge F e_X10_go_43 (fun q43 => ?_) (fun q43 => ?_)
    · have c43 : i ≥ a := (nI_leI (a := a) (b := i) (by omega) (by omega)).mp q43
      refine m_aload_n F rfl e_X10_go_60 ?_
      refine r_get F e_X10_go_61 fl_X10_59 h1 rfl (fun v hv f5837 => ?_)
      obtain rfl : v = .ref (c + 16) := hv
      refine m_sipush F (v := 744) (by decide) e_X10_go_64 ?_
      refine r_sld F (j := 744) e_X10_go_67 h1 (by decide) (by unfold vp_in; decide) (fun x5838 h5839 f5840 => ?_)
      have hl5841 := hok1.1
      obtain rfl : x5838 = lN (L1 4).1 := EJ_p.mp h5839
      refine m_l2i F e_X10_go_68 ?_
      refine Wm.topE (w := nI ((L1 4).1)) (lN_i ((L1 4).1)) ?_
      exact m_iret F hQ e_X10_go_69 (⟨u1, by omega, L1, hok1, h1, _, rfl⟩)
    · have c43 : i < a := by have hh := mt (nI_leI (a := a) (b := i) (by omega) (by omega)).mpr q43; omega
      refine m_aload_n F rfl e_X10_go_46 ?_
      refine r_callV F e_X10_go_47 (q_X10_remembers (x_l X) V c T Z u1 h P L1 _ _  h1.1 (hok1) hP (by first | omega | assumption | decide) (by first | omega | assumption | decide)) cb_X10_remembers ml_X10_286 im_X10_remembers se_X10_remembers h1 rfl rfl (rest := []) rfl (Nat.le_of_ble_eq_true rfl) ⟨Nat.le_of_ble_eq_true rfl, Nat.le_of_ble_eq_true rfl⟩ ⟨Nat.le_of_ble_eq_true rfl, Nat.le_of_ble_eq_true rfl⟩ (fun r σ5842 hp => ?_)
      obtain ⟨u5845, hu5845, h5843, rfl⟩ := hp
      have h5844 := HS.trans h1 h5843 (by decide)
      refine m_aload_n F rfl e_X10_go_50 ?_
      refine r_callV F e_X10_go_51 (q_X10_periodGoes (x_l X) V c T Z u5845 h P L1 _ _  h5844.1 (hok1) hP (by first | omega | assumption | decide)) cb_X10_periodGoes ml_X10_289 im_X10_periodGoes se_X10_periodGoes h5844 rfl rfl (rest := []) rfl (Nat.le_of_ble_eq_true rfl) ⟨Nat.le_of_ble_eq_true rfl, Nat.le_of_ble_eq_true rfl⟩ ⟨Nat.le_of_ble_eq_true rfl, Nat.le_of_ble_eq_true rfl⟩ (fun r σ5846 hp => ?_)
      obtain ⟨L5849, okL5849, r5850, h5847, rfl⟩ := hp
      have h5848 := HS.trans h5844 h5847 (by decide)
      refine m_iinc F (v := nI (i + 1)) (lv' := [(2, .int (nI (i + 1))), (0, .ref c), (1, .int (nI a))]) e_X10_go_54 rfl (nI_add i 1) (by decide) rfl ?_
      refine m_goto F e_X10_go_57 ?_
      refine Wm.lvsub (lv' := [(0, .ref c), (1, .int (nI a)), (2, .int (nI (i + 1)))]) ?_ [1, 2, 0] rfl
      exact ih a (i + 1) u5845 L5849 _ h5848 okL5849 (by omega) (by omega)
set_option maxRecDepth 20000 in
theorem q_X10_go (l : Launch) (V : VX) (c T Z u h : Nat) (P : NP) (L : Nat → LQ) (N : Nat) (σ : Mem) (x901 : Int32) (h0 : HR V c ⟨T, Z, u, h, P, L⟩ σ) (hok : OKL P.n0 L) (hP : OKP P) (hp0 : u ≤ 20) (hp1 : P.kk = P.n0) : Ct l V yX10_go cX10_go 3 (some .int) 4 0 0 N σ [.ref c, .int x901] (fun r τ => ∃ u9, u9 ≤ 20 ∧ ∃ L9, OKL P.n0 L9 ∧ HS V c (⟨T, Z, u9, h, P, L9⟩ : RG) [0, 2, 3, 4, 5, 6, 7, 8, 9, 10, 11, 12, 13, 14, 15, 16, 18, 19, 20, 22] σ τ ∧ ∃ x : Int32, r = some (.int x)) := by
  refine Ct.of (by decide) (Nat.le_of_ble_eq_true rfl) [(0, .ref c), (1, .int x901)] rfl (fun X hX F hQ => ?_)
  have hPP := hP
  unfold OKP at hPP
  have h1 : HS V c ⟨T, Z, u, h, P, L⟩ [0, 2, 3, 4, 5, 6, 7, 8, 9, 10, 11, 12, 13, 14, 15, 16, 18, 19, 20, 22] σ σ := HS.start h0
  refine m_aload_n F rfl e_X10_go_0 ?_
  refine m_iconst F (v := 0) (by decide) e_X10_go_1 ?_
  refine r_put F (g' := (⟨T, Z, u, h, P, L⟩ : RG)) e_X10_go_2 fp_X10_91 h1 (by decide) ⟨_, rfl⟩ (fun _ _ _ _ q => q) (fun _ _ _ q => q) rfl rfl (by decide) (fun σ5851 h5852 g5853 g5854 f5855 => ?_)
  refine m_iload_n F rfl e_X10_go_5 ?_
  refine m_iconst F (v := 1) (by decide) e_X10_go_6 ?_
  refine m_icmp_lt F e_X10_go_7 (fun q7 => ?_) (fun q7 => ?_)
  · refine m_iconst F (v := (-1)) (by decide) e_X10_go_16 ?_
    exact m_iret F hQ e_X10_go_17 (⟨u, by omega, L, hok, h5852, _, rfl⟩)
  · obtain ⟨n5856, hn5856, rfl⟩ := nI_nn (x := x901) (fun e => q7 (Int32.lt_of_lt_of_le e (by decide)))
    have c7 : n5856 ≥ 1 := by have hh := mt (nI_ltI (a := n5856) (b := 1) (by omega) (by omega)).mpr q7; omega
    refine m_iload_n F rfl e_X10_go_10 ?_
    refine m_bipush F (v := 12) (by decide) e_X10_go_11 ?_
    refine m_icmp_le F e_X10_go_13 (fun q13 => ?_) (fun q13 => ?_)
    · have c13 : n5856 ≤ 12 := (nI_leI (a := n5856) (b := 12) (by omega) (by omega)).mp q13
      refine m_aload_n F rfl e_X10_go_18 ?_
      refine r_get F e_X10_go_19 fl_X10_59 h5852 rfl (fun v hv f5857 => ?_)
      obtain rfl : v = .ref (c + 16) := hv
      refine m_sipush F (v := 744) (by decide) e_X10_go_22 ?_
      refine r_sld F (j := 744) e_X10_go_25 h5852 (by decide) (by unfold vp_in; decide) (fun x5858 h5859 f5860 => ?_)
      have hl5861 := hok.1
      obtain rfl : x5858 = lN (L 4).1 := EJ_p.mp h5859
      refine m_iload_n F rfl e_X10_go_26 ?_
      refine m_i2l F e_X10_go_27 ?_
      refine Wm.toplE (w := lN n5856) (nI_l (by omega)) ?_
      refine m_ladd F e_X10_go_28 ?_
      refine Wm.toplE (w := lN (((L 4).1) + n5856)) (lN_add ((L 4).1) n5856) ?_
      refine m_ldc2 F kc_X10_284 e_X10_go_29 ?_
      refine m_lcmp F e_X10_go_32 ?_
      refine m_if_le F e_X10_go_33 (fun q33 => ?_) (fun q33 => ?_)
      · have c33 : (((L 4).1) + n5856) ≤ 99 := (lN_le (a := (((L 4).1) + n5856)) (b := 99) (by omega) (by omega)).mp ((lg_cmp_le _ _).mp q33)
        refine m_iconst F (v := 0) (by decide) e_X10_go_39 ?_
        refine m_istore_n F (lv' := [(2, .int 0), (0, .ref c), (1, .int (nI n5856))]) e_X10_go_40 (by decide) rfl ?_
        refine Wm.lvsub (lv' := [(0, .ref c), (1, .int (nI n5856)), (2, .int 0)]) ?_ [1, 2, 0] rfl
        exact lq_X10_go_41 F hQ hok hP hp0 hp1 (n5856 - 0 + 1) n5856 0 u L _ h5852 hok (by omega) (Nat.lt_succ_self _)
      · have c33 : (((L 4).1) + n5856) > 99 := by have hh := mt (fun h9 => (lg_cmp_le (lN (((L 4).1) + n5856)) (lN 99)).mpr ((lN_le (a := (((L 4).1) + n5856)) (b := 99) (by omega) (by omega)).mpr h9)) q33; omega
        refine m_bipush F (v := (-2)) (by decide) e_X10_go_36 ?_
        exact m_iret F hQ e_X10_go_38 (⟨u, by omega, L, hok, h5852, _, rfl⟩)
    · have c13 : n5856 > 12 := by have hh := mt (nI_leI (a := n5856) (b := 12) (by omega) (by omega)).mpr q13; omega
      refine m_iconst F (v := (-1)) (by decide) e_X10_go_16 ?_
      exact m_iret F hQ e_X10_go_17 (⟨u, by omega, L, hok, h5852, _, rfl⟩)
set_option maxRecDepth 20000 in
theorem q_X10_areAhead2 (l : Launch) (V : VX) (N : Nat) (σ : Mem) (x901 : Int32)  : Ct l V yX10_areAhead cX10_areAhead 1 (some .boolean) 0 0 0 N σ [.int x901] (fun r τ => τ = σ ∧ (r = some (.int 0) ∨ ∃ j : Nat, j ≤ 72 ∧ x901 = nI j ∧ r = some (.int 1))) := by
  refine Ct.of (by decide) (Nat.le_of_ble_eq_true rfl) [(0, .int x901)] rfl (fun X hX F hQ => ?_)
  refine m_iload_n F rfl e_X10_areAhead_0 ?_
  refine m_if_lt F e_X10_areAhead_1 (fun q1 => ?_) (fun q1 => ?_)
  · refine m_iconst F (v := 0) (by decide) e_X10_areAhead_14 ?_
    exact m_zret F hQ e_X10_areAhead_15 (by decide) (⟨rfl, Or.inl rfl⟩)
  · obtain ⟨n5862, hn5862, rfl⟩ := nI_nn (x := x901) (fun e => q1 (Int32.lt_of_lt_of_le e (by decide)))
    have c1 : n5862 ≥ 0 := by have hh := mt (nI_ltI (a := n5862) (b := 0) (by omega) (by omega)).mpr q1; omega
    refine m_iload_n F rfl e_X10_areAhead_4 ?_
    refine m_bipush F (v := 72) (by decide) e_X10_areAhead_5 ?_
    refine m_icmp_gt F e_X10_areAhead_7 (fun q7 => ?_) (fun q7 => ?_)
    · have c7 : n5862 > 72 := (nI_ltI (a := 72) (b := n5862) (by omega) (by omega)).mp q7
      refine m_iconst F (v := 0) (by decide) e_X10_areAhead_14 ?_
      exact m_zret F hQ e_X10_areAhead_15 (by decide) (⟨rfl, Or.inl rfl⟩)
    · have c7 : n5862 ≤ 72 := by have hh := mt (nI_ltI (a := 72) (b := n5862) (by omega) (by omega)).mpr q7; omega
      refine m_iconst F (v := 1) (by decide) e_X10_areAhead_10 ?_
      refine m_goto F e_X10_areAhead_11 ?_
      exact m_zret F hQ e_X10_areAhead_15 (by decide) (⟨rfl, Or.inr ⟨n5862, by omega, rfl, rfl⟩⟩)
set_option maxRecDepth 20000 in
theorem q_X10_plan (l : Launch) (V : VX) (c T Z u h : Nat) (P : NP) (L : Nat → LQ) (N : Nat) (σ : Mem) (x901 : Int32) (x902 : Int32) (x903 : Int32) (h0 : HR V c ⟨T, Z, u, h, P, L⟩ σ) (hok : OKL P.n0 L) (hP : OKP P)  : Ct l V yX10_plan cX10_plan 10 (some .long) 5 0 0 N σ [.ref c, .int x901, .int x902, .int x903] (fun r τ => HS V c (⟨T, Z, u, h, P, L⟩ : RG) [0, 2, 3, 4, 5, 6, 7, 8, 9, 10, 11, 12, 13, 14, 15, 16, 19, 20, 21, 22] σ τ ∧ ∃ x : Int64, r = some (.long x)) := by
  refine Ct.of (by decide) (Nat.le_of_ble_eq_true rfl) [(0, .ref c), (1, .int x901), (2, .int x902), (3, .int x903)] rfl (fun X hX F hQ => ?_)
  have hPP := hP
  unfold OKP at hPP
  have h1 : HS V c ⟨T, Z, u, h, P, L⟩ [0, 2, 3, 4, 5, 6, 7, 8, 9, 10, 11, 12, 13, 14, 15, 16, 19, 20, 21, 22] σ σ := HS.start h0
  refine m_aload_n F rfl e_X10_plan_0 ?_
  refine m_iconst F (v := 0) (by decide) e_X10_plan_1 ?_
  refine r_put F (g' := (⟨T, Z, u, h, P, L⟩ : RG)) e_X10_plan_2 fp_X10_91 h1 (by decide) ⟨_, rfl⟩ (fun _ _ _ _ q => q) (fun _ _ _ q => q) rfl rfl (by decide) (fun σ5863 h5864 g5865 g5866 f5867 => ?_)
  refine m_aload_n F rfl e_X10_plan_5 ?_
  refine m_iload_n F rfl e_X10_plan_6 ?_
  refine r_callV F e_X10_plan_7 (q_X10_isLease (x_l X) V c T Z u h P L _ _ x901 h5864.1 (hok.b) hP ) cb_X10_isLease ml_X10_292 im_X10_isLease se_X10_isLease h5864 rfl rfl (rest := []) rfl (Nat.le_of_ble_eq_true rfl) ⟨Nat.le_of_ble_eq_true rfl, Nat.le_of_ble_eq_true rfl⟩ ⟨Nat.le_of_ble_eq_true rfl, Nat.le_of_ble_eq_true rfl⟩ (fun r σ5868 hp => ?_)
  obtain ⟨h5869, c5871⟩ := hp
  have h5870 := HS.trans h5864 h5869 (by decide)
  rcases c5871 with rfl | ⟨n5872, h5873, e5874, rfl⟩
  · refine m_if_eq F e_X10_plan_10 (fun _ => ?_) (fun q => absurd (by decide) q)
    refine m_ldc2 F kc_X10_245 e_X10_plan_29 ?_
    exact m_lret F hQ e_X10_plan_32 (⟨h5870, _, rfl⟩)
  · subst e5874
    refine m_if_eq F e_X10_plan_10 (fun q => absurd q (by decide)) (fun _ => ?_)
    refine m_iload_n F rfl e_X10_plan_13 ?_
    refine m_callS F e_X10_plan_14 (q_X10_areAhead2 (x_l X) V _ _ x902 ) cb_X10_areAhead ml_X10_326 sm_X10_areAhead rfl (rest := []) rfl (Nat.le_of_ble_eq_true rfl) ⟨Nat.le_of_ble_eq_true rfl, Nat.le_of_ble_eq_true rfl⟩ ⟨Nat.le_of_ble_eq_true rfl, Nat.le_of_ble_eq_true rfl⟩ (k' := 0) (z' := 0) (N' := N) rfl rfl rfl (fun r σ5875 hp => ?_)
    obtain ⟨rfl, c5878⟩ := hp
    rcases c5878 with rfl | ⟨n5879, h5880, e5881, rfl⟩
    · refine m_if_eq F e_X10_plan_17 (fun _ => ?_) (fun q => absurd (by decide) q)
      refine m_ldc2 F kc_X10_245 e_X10_plan_29 ?_
      exact m_lret F hQ e_X10_plan_32 (⟨h5870, _, rfl⟩)
    · subst e5881
      refine m_if_eq F e_X10_plan_17 (fun q => absurd q (by decide)) (fun _ => ?_)
      refine m_iload_n F rfl e_X10_plan_20 ?_
      refine m_if_lt F e_X10_plan_21 (fun q21 => ?_) (fun q21 => ?_)
      · refine m_ldc2 F kc_X10_245 e_X10_plan_29 ?_
        exact m_lret F hQ e_X10_plan_32 (⟨h5870, _, rfl⟩)
      · obtain ⟨n5882, hn5882, rfl⟩ := nI_nn (x := x903) (fun e => q21 (Int32.lt_of_lt_of_le e (by decide)))
        have c21 : n5882 ≥ 0 := by have hh := mt (nI_ltI (a := n5882) (b := 0) (by omega) (by omega)).mpr q21; omega
        refine m_iload_n F rfl e_X10_plan_24 ?_
        refine m_iconst F (v := 3) (by decide) e_X10_plan_25 ?_
        refine m_icmp_le F e_X10_plan_26 (fun q26 => ?_) (fun q26 => ?_)
        · have c26 : n5882 ≤ 3 := (nI_leI (a := n5882) (b := 3) (by omega) (by omega)).mp q26
          refine m_sipush F (v := 160) (by decide) e_X10_plan_33 ?_
          refine m_iload_n F rfl e_X10_plan_36 ?_
          refine m_imul F e_X10_plan_37 ?_
          refine Wm.topE (w := nI (160 * n5872)) (pk_mul 160 n5872) ?_
          refine m_istore F (lv' := [(4, .int (nI (160 * n5872))), (0, .ref c), (1, .int (nI n5872)), (2, .int (nI n5879)), (3, .int (nI n5882))]) e_X10_plan_38 (by decide) rfl ?_
          refine m_iload F rfl e_X10_plan_40 ?_
          refine m_iload_n F rfl e_X10_plan_42 ?_
          refine m_if_ne F e_X10_plan_43 (fun q43 => ?_) (fun q43 => ?_)
          · have c43 : n5882 ≠ 0 := by have hh := mt (nI_eq (a := n5882) (b := 0) (by omega) (by omega)).mpr q43; omega
            refine m_iload_n F rfl e_X10_plan_51 ?_
            refine m_iconst F (v := 1) (by decide) e_X10_plan_52 ?_
            refine m_icmp_ne F e_X10_plan_53 (fun q53 => ?_) (fun q53 => ?_)
            · have c53 : n5882 ≠ 1 := by have hh := mt (nI_eq (a := n5882) (b := 1) (by omega) (by omega)).mpr q53; omega
              refine m_iload_n F rfl e_X10_plan_61 ?_
              refine m_iconst F (v := 2) (by decide) e_X10_plan_62 ?_
              refine m_icmp_ne F e_X10_plan_63 (fun q63 => ?_) (fun q63 => ?_)
              · have c63 : n5882 ≠ 2 := by have hh := mt (nI_eq (a := n5882) (b := 2) (by omega) (by omega)).mpr q63; omega
                refine m_bipush F (v := 9) (by decide) e_X10_plan_71 ?_
                refine m_iadd F e_X10_plan_73 ?_
                refine Wm.topE (w := nI (160 * n5872 + 9)) (nI_add (160 * n5872) 9) ?_
                refine m_istore F (lv' := [(5, .int (nI (160 * n5872 + 9))), (4, .int (nI (160 * n5872))), (0, .ref c), (1, .int (nI n5872)), (2, .int (nI n5879)), (3, .int (nI n5882))]) e_X10_plan_74 (by decide) rfl ?_
                refine m_iload_n F rfl e_X10_plan_76 ?_
                refine m_iconst F (v := 2) (by decide) e_X10_plan_77 ?_
                refine m_icmp_ge F e_X10_plan_78 (fun q78 => ?_) (fun q78 => ?_)
                · have c78 : n5882 ≥ 2 := (nI_leI (a := 2) (b := n5882) (by omega) (by omega)).mp q78
                  refine m_aload_n F rfl e_X10_plan_85 ?_
                  refine r_get F e_X10_plan_86 fl_X10_59 h5870 rfl (fun v hv f5883 => ?_)
                  obtain rfl : v = .ref (c + 16) := hv
                  refine m_iload F rfl e_X10_plan_89 ?_
                  refine r_sld F (j := 160 * n5872 + 9) e_X10_plan_91 h5870 (nI_clamp (by omega)) (vp_in_nI (by omega) (by decide)) (fun x5884 h5885 f5886 => ?_)
                  refine m_lstore F (lv' := [(6, .long x5884), (5, .int (nI (160 * n5872 + 9))), (4, .int (nI (160 * n5872))), (0, .ref c), (1, .int (nI n5872)), (2, .int (nI n5879)), (3, .int (nI n5882))]) e_X10_plan_92 (by decide) rfl ?_
                  refine m_aload_n F rfl e_X10_plan_94 ?_
                  refine m_iload_n F rfl e_X10_plan_95 ?_
                  refine r_callV F e_X10_plan_96 (q_X10_ahead (x_l X) V c T Z u h P L _ _ n5879 h5870.1 (hok) hP (by omega)) cb_X10_ahead ml_X10_329 im_X10_ahead se_X10_ahead h5870 rfl rfl (rest := []) rfl (Nat.le_of_ble_eq_true rfl) ⟨Nat.le_of_ble_eq_true rfl, Nat.le_of_ble_eq_true rfl⟩ ⟨Nat.le_of_ble_eq_true rfl, Nat.le_of_ble_eq_true rfl⟩ (fun r σ5887 hp => ?_)
                  obtain ⟨L5890, okL5890, r5891, h5888, rfl⟩ := hp
                  have h5889 := HS.trans h5870 h5888 (by decide)
                  refine m_aload_n F rfl e_X10_plan_99 ?_
                  refine r_getC F e_X10_plan_100 fl_X10_59 h5889 ((fld_eq (h5888.2 c (by rw [show kC c c = 1 from kC_at (k := 0) (by decide)]; decide))).trans f5883) ?_
                  refine m_iload F rfl e_X10_plan_103 ?_
                  refine r_sld F (j := 160 * n5872 + 9) e_X10_plan_105 h5889 (nI_clamp (by omega)) (vp_in_nI (by omega) (by decide)) (fun x5892 h5893 f5894 => ?_)
                  refine m_lload F rfl e_X10_plan_106 ?_
                  refine m_lsub F e_X10_plan_108 ?_
                  refine Wm.topl (fun x5895 _ => ?_)
                  refine m_lstore F (lv' := [(8, .long x5895), (6, .long x5884), (5, .int (nI (160 * n5872 + 9))), (4, .int (nI (160 * n5872))), (0, .ref c), (1, .int (nI n5872)), (2, .int (nI n5879)), (3, .int (nI n5882))]) e_X10_plan_109 (by decide) rfl ?_
                  refine m_aload_n F rfl e_X10_plan_111 ?_
                  refine r_callV F e_X10_plan_112 (q_X10_back1 (x_l X) V c T Z u h P L5890 _ _ L h5889.1 (okL5890.b) hP r5891) cb_X10_back1 ml_X10_332 im_X10_back1 se_X10_back1 h5889 rfl rfl (rest := []) rfl (Nat.le_of_ble_eq_true rfl) ⟨Nat.le_of_ble_eq_true rfl, Nat.le_of_ble_eq_true rfl⟩ ⟨Nat.le_of_ble_eq_true rfl, Nat.le_of_ble_eq_true rfl⟩ (fun r σ5896 hp => ?_)
                  obtain ⟨h5897, rfl⟩ := hp
                  have h5898 := HS.trans h5889 h5897 (by decide)
                  have ga5899 := r5891.of (h5897.2 (c + 17) (by rw [kC_at (k := 17) (by decide)]; decide))
                  refine m_lload F rfl e_X10_plan_115 ?_
                  exact m_lret F hQ e_X10_plan_117 (⟨h5898, _, rfl⟩)
                · have c78 : n5882 < 2 := by have hh := mt (nI_leI (a := 2) (b := n5882) (by omega) (by omega)).mpr q78; omega
                  refine m_lconst F (v := 0) (by decide) e_X10_plan_81 ?_
                  refine m_goto F e_X10_plan_82 ?_
                  refine m_lstore F (lv' := [(6, .long 0), (5, .int (nI (160 * n5872 + 9))), (4, .int (nI (160 * n5872))), (0, .ref c), (1, .int (nI n5872)), (2, .int (nI n5879)), (3, .int (nI n5882))]) e_X10_plan_92 (by decide) rfl ?_
                  refine m_aload_n F rfl e_X10_plan_94 ?_
                  refine m_iload_n F rfl e_X10_plan_95 ?_
                  refine r_callV F e_X10_plan_96 (q_X10_ahead (x_l X) V c T Z u h P L _ _ n5879 h5870.1 (hok) hP (by omega)) cb_X10_ahead ml_X10_329 im_X10_ahead se_X10_ahead h5870 rfl rfl (rest := []) rfl (Nat.le_of_ble_eq_true rfl) ⟨Nat.le_of_ble_eq_true rfl, Nat.le_of_ble_eq_true rfl⟩ ⟨Nat.le_of_ble_eq_true rfl, Nat.le_of_ble_eq_true rfl⟩ (fun r σ5900 hp => ?_)
                  obtain ⟨L5903, okL5903, r5904, h5901, rfl⟩ := hp
                  have h5902 := HS.trans h5870 h5901 (by decide)
                  refine m_aload_n F rfl e_X10_plan_99 ?_
                  refine r_get F e_X10_plan_100 fl_X10_59 h5902 rfl (fun v hv f5905 => ?_)
                  obtain rfl : v = .ref (c + 16) := hv
                  refine m_iload F rfl e_X10_plan_103 ?_
                  refine r_sld F (j := 160 * n5872 + 9) e_X10_plan_105 h5902 (nI_clamp (by omega)) (vp_in_nI (by omega) (by decide)) (fun x5906 h5907 f5908 => ?_)
                  refine m_lload F rfl e_X10_plan_106 ?_
                  refine m_lsub F e_X10_plan_108 ?_
                  refine Wm.topl (fun x5909 _ => ?_)
                  refine m_lstore F (lv' := [(8, .long x5909), (6, .long 0), (5, .int (nI (160 * n5872 + 9))), (4, .int (nI (160 * n5872))), (0, .ref c), (1, .int (nI n5872)), (2, .int (nI n5879)), (3, .int (nI n5882))]) e_X10_plan_109 (by decide) rfl ?_
                  refine m_aload_n F rfl e_X10_plan_111 ?_
                  refine r_callV F e_X10_plan_112 (q_X10_back1 (x_l X) V c T Z u h P L5903 _ _ L h5902.1 (okL5903.b) hP r5904) cb_X10_back1 ml_X10_332 im_X10_back1 se_X10_back1 h5902 rfl rfl (rest := []) rfl (Nat.le_of_ble_eq_true rfl) ⟨Nat.le_of_ble_eq_true rfl, Nat.le_of_ble_eq_true rfl⟩ ⟨Nat.le_of_ble_eq_true rfl, Nat.le_of_ble_eq_true rfl⟩ (fun r σ5910 hp => ?_)
                  obtain ⟨h5911, rfl⟩ := hp
                  have h5912 := HS.trans h5902 h5911 (by decide)
                  have ga5913 := r5904.of (h5911.2 (c + 17) (by rw [kC_at (k := 17) (by decide)]; decide))
                  refine m_lload F rfl e_X10_plan_115 ?_
                  exact m_lret F hQ e_X10_plan_117 (⟨h5912, _, rfl⟩)
              · have c63 : n5882 = 2 := (nI_eq (a := n5882) (b := 2) (by omega) (by omega)).mp q63
                refine m_bipush F (v := 10) (by decide) e_X10_plan_66 ?_
                refine m_goto F e_X10_plan_68 ?_
                refine m_iadd F e_X10_plan_73 ?_
                refine Wm.topE (w := nI (160 * n5872 + 10)) (nI_add (160 * n5872) 10) ?_
                refine m_istore F (lv' := [(5, .int (nI (160 * n5872 + 10))), (4, .int (nI (160 * n5872))), (0, .ref c), (1, .int (nI n5872)), (2, .int (nI n5879)), (3, .int (nI n5882))]) e_X10_plan_74 (by decide) rfl ?_
                refine m_iload_n F rfl e_X10_plan_76 ?_
                refine m_iconst F (v := 2) (by decide) e_X10_plan_77 ?_
                refine m_icmp_ge F e_X10_plan_78 (fun q78 => ?_) (fun q78 => ?_)
                · have c78 : n5882 ≥ 2 := (nI_leI (a := 2) (b := n5882) (by omega) (by omega)).mp q78
                  refine m_aload_n F rfl e_X10_plan_85 ?_
                  refine r_get F e_X10_plan_86 fl_X10_59 h5870 rfl (fun v hv f5914 => ?_)
                  obtain rfl : v = .ref (c + 16) := hv
                  refine m_iload F rfl e_X10_plan_89 ?_
                  refine r_sld F (j := 160 * n5872 + 10) e_X10_plan_91 h5870 (nI_clamp (by omega)) (vp_in_nI (by omega) (by decide)) (fun x5915 h5916 f5917 => ?_)
                  refine m_lstore F (lv' := [(6, .long x5915), (5, .int (nI (160 * n5872 + 10))), (4, .int (nI (160 * n5872))), (0, .ref c), (1, .int (nI n5872)), (2, .int (nI n5879)), (3, .int (nI n5882))]) e_X10_plan_92 (by decide) rfl ?_
                  refine m_aload_n F rfl e_X10_plan_94 ?_
                  refine m_iload_n F rfl e_X10_plan_95 ?_
                  refine r_callV F e_X10_plan_96 (q_X10_ahead (x_l X) V c T Z u h P L _ _ n5879 h5870.1 (hok) hP (by omega)) cb_X10_ahead ml_X10_329 im_X10_ahead se_X10_ahead h5870 rfl rfl (rest := []) rfl (Nat.le_of_ble_eq_true rfl) ⟨Nat.le_of_ble_eq_true rfl, Nat.le_of_ble_eq_true rfl⟩ ⟨Nat.le_of_ble_eq_true rfl, Nat.le_of_ble_eq_true rfl⟩ (fun r σ5918 hp => ?_)
                  obtain ⟨L5921, okL5921, r5922, h5919, rfl⟩ := hp
                  have h5920 := HS.trans h5870 h5919 (by decide)
                  refine m_aload_n F rfl e_X10_plan_99 ?_
                  refine r_getC F e_X10_plan_100 fl_X10_59 h5920 ((fld_eq (h5919.2 c (by rw [show kC c c = 1 from kC_at (k := 0) (by decide)]; decide))).trans f5914) ?_
                  refine m_iload F rfl e_X10_plan_103 ?_
                  refine r_sld F (j := 160 * n5872 + 10) e_X10_plan_105 h5920 (nI_clamp (by omega)) (vp_in_nI (by omega) (by decide)) (fun x5923 h5924 f5925 => ?_)
                  refine m_lload F rfl e_X10_plan_106 ?_
                  refine m_lsub F e_X10_plan_108 ?_
                  refine Wm.topl (fun x5926 _ => ?_)
                  refine m_lstore F (lv' := [(8, .long x5926), (6, .long x5915), (5, .int (nI (160 * n5872 + 10))), (4, .int (nI (160 * n5872))), (0, .ref c), (1, .int (nI n5872)), (2, .int (nI n5879)), (3, .int (nI n5882))]) e_X10_plan_109 (by decide) rfl ?_
                  refine m_aload_n F rfl e_X10_plan_111 ?_
                  refine r_callV F e_X10_plan_112 (q_X10_back1 (x_l X) V c T Z u h P L5921 _ _ L h5920.1 (okL5921.b) hP r5922) cb_X10_back1 ml_X10_332 im_X10_back1 se_X10_back1 h5920 rfl rfl (rest := []) rfl (Nat.le_of_ble_eq_true rfl) ⟨Nat.le_of_ble_eq_true rfl, Nat.le_of_ble_eq_true rfl⟩ ⟨Nat.le_of_ble_eq_true rfl, Nat.le_of_ble_eq_true rfl⟩ (fun r σ5927 hp => ?_)
                  obtain ⟨h5928, rfl⟩ := hp
                  have h5929 := HS.trans h5920 h5928 (by decide)
                  have ga5930 := r5922.of (h5928.2 (c + 17) (by rw [kC_at (k := 17) (by decide)]; decide))
                  refine m_lload F rfl e_X10_plan_115 ?_
                  exact m_lret F hQ e_X10_plan_117 (⟨h5929, _, rfl⟩)
                · have c78 : n5882 < 2 := by have hh := mt (nI_leI (a := 2) (b := n5882) (by omega) (by omega)).mpr q78; omega
                  refine m_lconst F (v := 0) (by decide) e_X10_plan_81 ?_
                  refine m_goto F e_X10_plan_82 ?_
                  refine m_lstore F (lv' := [(6, .long 0), (5, .int (nI (160 * n5872 + 10))), (4, .int (nI (160 * n5872))), (0, .ref c), (1, .int (nI n5872)), (2, .int (nI n5879)), (3, .int (nI n5882))]) e_X10_plan_92 (by decide) rfl ?_
                  refine m_aload_n F rfl e_X10_plan_94 ?_
                  refine m_iload_n F rfl e_X10_plan_95 ?_
                  refine r_callV F e_X10_plan_96 (q_X10_ahead (x_l X) V c T Z u h P L _ _ n5879 h5870.1 (hok) hP (by omega)) cb_X10_ahead ml_X10_329 im_X10_ahead se_X10_ahead h5870 rfl rfl (rest := []) rfl (Nat.le_of_ble_eq_true rfl) ⟨Nat.le_of_ble_eq_true rfl, Nat.le_of_ble_eq_true rfl⟩ ⟨Nat.le_of_ble_eq_true rfl, Nat.le_of_ble_eq_true rfl⟩ (fun r σ5931 hp => ?_)
                  obtain ⟨L5934, okL5934, r5935, h5932, rfl⟩ := hp
                  have h5933 := HS.trans h5870 h5932 (by decide)
                  refine m_aload_n F rfl e_X10_plan_99 ?_
                  refine r_get F e_X10_plan_100 fl_X10_59 h5933 rfl (fun v hv f5936 => ?_)
                  obtain rfl : v = .ref (c + 16) := hv
                  refine m_iload F rfl e_X10_plan_103 ?_
                  refine r_sld F (j := 160 * n5872 + 10) e_X10_plan_105 h5933 (nI_clamp (by omega)) (vp_in_nI (by omega) (by decide)) (fun x5937 h5938 f5939 => ?_)
                  refine m_lload F rfl e_X10_plan_106 ?_
                  refine m_lsub F e_X10_plan_108 ?_
                  refine Wm.topl (fun x5940 _ => ?_)
                  refine m_lstore F (lv' := [(8, .long x5940), (6, .long 0), (5, .int (nI (160 * n5872 + 10))), (4, .int (nI (160 * n5872))), (0, .ref c), (1, .int (nI n5872)), (2, .int (nI n5879)), (3, .int (nI n5882))]) e_X10_plan_109 (by decide) rfl ?_
                  refine m_aload_n F rfl e_X10_plan_111 ?_
                  refine r_callV F e_X10_plan_112 (q_X10_back1 (x_l X) V c T Z u h P L5934 _ _ L h5933.1 (okL5934.b) hP r5935) cb_X10_back1 ml_X10_332 im_X10_back1 se_X10_back1 h5933 rfl rfl (rest := []) rfl (Nat.le_of_ble_eq_true rfl) ⟨Nat.le_of_ble_eq_true rfl, Nat.le_of_ble_eq_true rfl⟩ ⟨Nat.le_of_ble_eq_true rfl, Nat.le_of_ble_eq_true rfl⟩ (fun r σ5941 hp => ?_)
                  obtain ⟨h5942, rfl⟩ := hp
                  have h5943 := HS.trans h5933 h5942 (by decide)
                  have ga5944 := r5935.of (h5942.2 (c + 17) (by rw [kC_at (k := 17) (by decide)]; decide))
                  refine m_lload F rfl e_X10_plan_115 ?_
                  exact m_lret F hQ e_X10_plan_117 (⟨h5943, _, rfl⟩)
            · have c53 : n5882 = 1 := (nI_eq (a := n5882) (b := 1) (by omega) (by omega)).mp q53
              refine m_bipush F (v := 7) (by decide) e_X10_plan_56 ?_
              refine m_goto F e_X10_plan_58 ?_
              refine m_iadd F e_X10_plan_73 ?_
              refine Wm.topE (w := nI (160 * n5872 + 7)) (nI_add (160 * n5872) 7) ?_
              refine m_istore F (lv' := [(5, .int (nI (160 * n5872 + 7))), (4, .int (nI (160 * n5872))), (0, .ref c), (1, .int (nI n5872)), (2, .int (nI n5879)), (3, .int (nI n5882))]) e_X10_plan_74 (by decide) rfl ?_
              refine m_iload_n F rfl e_X10_plan_76 ?_
              refine m_iconst F (v := 2) (by decide) e_X10_plan_77 ?_
              refine m_icmp_ge F e_X10_plan_78 (fun q78 => ?_) (fun q78 => ?_)
              · have c78 : n5882 ≥ 2 := (nI_leI (a := 2) (b := n5882) (by omega) (by omega)).mp q78
                refine m_aload_n F rfl e_X10_plan_85 ?_
                refine r_get F e_X10_plan_86 fl_X10_59 h5870 rfl (fun v hv f5945 => ?_)
                obtain rfl : v = .ref (c + 16) := hv
                refine m_iload F rfl e_X10_plan_89 ?_
                refine r_sld F (j := 160 * n5872 + 7) e_X10_plan_91 h5870 (nI_clamp (by omega)) (vp_in_nI (by omega) (by decide)) (fun x5946 h5947 f5948 => ?_)
                refine m_lstore F (lv' := [(6, .long x5946), (5, .int (nI (160 * n5872 + 7))), (4, .int (nI (160 * n5872))), (0, .ref c), (1, .int (nI n5872)), (2, .int (nI n5879)), (3, .int (nI n5882))]) e_X10_plan_92 (by decide) rfl ?_
                refine m_aload_n F rfl e_X10_plan_94 ?_
                refine m_iload_n F rfl e_X10_plan_95 ?_
                refine r_callV F e_X10_plan_96 (q_X10_ahead (x_l X) V c T Z u h P L _ _ n5879 h5870.1 (hok) hP (by omega)) cb_X10_ahead ml_X10_329 im_X10_ahead se_X10_ahead h5870 rfl rfl (rest := []) rfl (Nat.le_of_ble_eq_true rfl) ⟨Nat.le_of_ble_eq_true rfl, Nat.le_of_ble_eq_true rfl⟩ ⟨Nat.le_of_ble_eq_true rfl, Nat.le_of_ble_eq_true rfl⟩ (fun r σ5949 hp => ?_)
                obtain ⟨L5952, okL5952, r5953, h5950, rfl⟩ := hp
                have h5951 := HS.trans h5870 h5950 (by decide)
                refine m_aload_n F rfl e_X10_plan_99 ?_
                refine r_getC F e_X10_plan_100 fl_X10_59 h5951 ((fld_eq (h5950.2 c (by rw [show kC c c = 1 from kC_at (k := 0) (by decide)]; decide))).trans f5945) ?_
                refine m_iload F rfl e_X10_plan_103 ?_
                refine r_sld F (j := 160 * n5872 + 7) e_X10_plan_105 h5951 (nI_clamp (by omega)) (vp_in_nI (by omega) (by decide)) (fun x5954 h5955 f5956 => ?_)
                refine m_lload F rfl e_X10_plan_106 ?_
                refine m_lsub F e_X10_plan_108 ?_
                refine Wm.topl (fun x5957 _ => ?_)
                refine m_lstore F (lv' := [(8, .long x5957), (6, .long x5946), (5, .int (nI (160 * n5872 + 7))), (4, .int (nI (160 * n5872))), (0, .ref c), (1, .int (nI n5872)), (2, .int (nI n5879)), (3, .int (nI n5882))]) e_X10_plan_109 (by decide) rfl ?_
                refine m_aload_n F rfl e_X10_plan_111 ?_
                refine r_callV F e_X10_plan_112 (q_X10_back1 (x_l X) V c T Z u h P L5952 _ _ L h5951.1 (okL5952.b) hP r5953) cb_X10_back1 ml_X10_332 im_X10_back1 se_X10_back1 h5951 rfl rfl (rest := []) rfl (Nat.le_of_ble_eq_true rfl) ⟨Nat.le_of_ble_eq_true rfl, Nat.le_of_ble_eq_true rfl⟩ ⟨Nat.le_of_ble_eq_true rfl, Nat.le_of_ble_eq_true rfl⟩ (fun r σ5958 hp => ?_)
                obtain ⟨h5959, rfl⟩ := hp
                have h5960 := HS.trans h5951 h5959 (by decide)
                have ga5961 := r5953.of (h5959.2 (c + 17) (by rw [kC_at (k := 17) (by decide)]; decide))
                refine m_lload F rfl e_X10_plan_115 ?_
                exact m_lret F hQ e_X10_plan_117 (⟨h5960, _, rfl⟩)
              · have c78 : n5882 < 2 := by have hh := mt (nI_leI (a := 2) (b := n5882) (by omega) (by omega)).mpr q78; omega
                refine m_lconst F (v := 0) (by decide) e_X10_plan_81 ?_
                refine m_goto F e_X10_plan_82 ?_
                refine m_lstore F (lv' := [(6, .long 0), (5, .int (nI (160 * n5872 + 7))), (4, .int (nI (160 * n5872))), (0, .ref c), (1, .int (nI n5872)), (2, .int (nI n5879)), (3, .int (nI n5882))]) e_X10_plan_92 (by decide) rfl ?_
                refine m_aload_n F rfl e_X10_plan_94 ?_
                refine m_iload_n F rfl e_X10_plan_95 ?_
                refine r_callV F e_X10_plan_96 (q_X10_ahead (x_l X) V c T Z u h P L _ _ n5879 h5870.1 (hok) hP (by omega)) cb_X10_ahead ml_X10_329 im_X10_ahead se_X10_ahead h5870 rfl rfl (rest := []) rfl (Nat.le_of_ble_eq_true rfl) ⟨Nat.le_of_ble_eq_true rfl, Nat.le_of_ble_eq_true rfl⟩ ⟨Nat.le_of_ble_eq_true rfl, Nat.le_of_ble_eq_true rfl⟩ (fun r σ5962 hp => ?_)
                obtain ⟨L5965, okL5965, r5966, h5963, rfl⟩ := hp
                have h5964 := HS.trans h5870 h5963 (by decide)
                refine m_aload_n F rfl e_X10_plan_99 ?_
                refine r_get F e_X10_plan_100 fl_X10_59 h5964 rfl (fun v hv f5967 => ?_)
                obtain rfl : v = .ref (c + 16) := hv
                refine m_iload F rfl e_X10_plan_103 ?_
                refine r_sld F (j := 160 * n5872 + 7) e_X10_plan_105 h5964 (nI_clamp (by omega)) (vp_in_nI (by omega) (by decide)) (fun x5968 h5969 f5970 => ?_)
                refine m_lload F rfl e_X10_plan_106 ?_
                refine m_lsub F e_X10_plan_108 ?_
                refine Wm.topl (fun x5971 _ => ?_)
                refine m_lstore F (lv' := [(8, .long x5971), (6, .long 0), (5, .int (nI (160 * n5872 + 7))), (4, .int (nI (160 * n5872))), (0, .ref c), (1, .int (nI n5872)), (2, .int (nI n5879)), (3, .int (nI n5882))]) e_X10_plan_109 (by decide) rfl ?_
                refine m_aload_n F rfl e_X10_plan_111 ?_
                refine r_callV F e_X10_plan_112 (q_X10_back1 (x_l X) V c T Z u h P L5965 _ _ L h5964.1 (okL5965.b) hP r5966) cb_X10_back1 ml_X10_332 im_X10_back1 se_X10_back1 h5964 rfl rfl (rest := []) rfl (Nat.le_of_ble_eq_true rfl) ⟨Nat.le_of_ble_eq_true rfl, Nat.le_of_ble_eq_true rfl⟩ ⟨Nat.le_of_ble_eq_true rfl, Nat.le_of_ble_eq_true rfl⟩ (fun r σ5972 hp => ?_)
                obtain ⟨h5973, rfl⟩ := hp
                have h5974 := HS.trans h5964 h5973 (by decide)
                have ga5975 := r5966.of (h5973.2 (c + 17) (by rw [kC_at (k := 17) (by decide)]; decide))
                refine m_lload F rfl e_X10_plan_115 ?_
                exact m_lret F hQ e_X10_plan_117 (⟨h5974, _, rfl⟩)
          · have c43 : n5882 = 0 := (nI_eq (a := n5882) (b := 0) (by omega) (by omega)).mp q43
            refine m_bipush F (v := 6) (by decide) e_X10_plan_46 ?_
            refine m_goto F e_X10_plan_48 ?_
            refine m_iadd F e_X10_plan_73 ?_
            refine Wm.topE (w := nI (160 * n5872 + 6)) (nI_add (160 * n5872) 6) ?_
            refine m_istore F (lv' := [(5, .int (nI (160 * n5872 + 6))), (4, .int (nI (160 * n5872))), (0, .ref c), (1, .int (nI n5872)), (2, .int (nI n5879)), (3, .int (nI n5882))]) e_X10_plan_74 (by decide) rfl ?_
            refine m_iload_n F rfl e_X10_plan_76 ?_
            refine m_iconst F (v := 2) (by decide) e_X10_plan_77 ?_
            refine m_icmp_ge F e_X10_plan_78 (fun q78 => ?_) (fun q78 => ?_)
            · have c78 : n5882 ≥ 2 := (nI_leI (a := 2) (b := n5882) (by omega) (by omega)).mp q78
              refine m_aload_n F rfl e_X10_plan_85 ?_
              refine r_get F e_X10_plan_86 fl_X10_59 h5870 rfl (fun v hv f5976 => ?_)
              obtain rfl : v = .ref (c + 16) := hv
              refine m_iload F rfl e_X10_plan_89 ?_
              refine r_sld F (j := 160 * n5872 + 6) e_X10_plan_91 h5870 (nI_clamp (by omega)) (vp_in_nI (by omega) (by decide)) (fun x5977 h5978 f5979 => ?_)
              refine m_lstore F (lv' := [(6, .long x5977), (5, .int (nI (160 * n5872 + 6))), (4, .int (nI (160 * n5872))), (0, .ref c), (1, .int (nI n5872)), (2, .int (nI n5879)), (3, .int (nI n5882))]) e_X10_plan_92 (by decide) rfl ?_
              refine m_aload_n F rfl e_X10_plan_94 ?_
              refine m_iload_n F rfl e_X10_plan_95 ?_
              refine r_callV F e_X10_plan_96 (q_X10_ahead (x_l X) V c T Z u h P L _ _ n5879 h5870.1 (hok) hP (by omega)) cb_X10_ahead ml_X10_329 im_X10_ahead se_X10_ahead h5870 rfl rfl (rest := []) rfl (Nat.le_of_ble_eq_true rfl) ⟨Nat.le_of_ble_eq_true rfl, Nat.le_of_ble_eq_true rfl⟩ ⟨Nat.le_of_ble_eq_true rfl, Nat.le_of_ble_eq_true rfl⟩ (fun r σ5980 hp => ?_)
              obtain ⟨L5983, okL5983, r5984, h5981, rfl⟩ := hp
              have h5982 := HS.trans h5870 h5981 (by decide)
              refine m_aload_n F rfl e_X10_plan_99 ?_
              refine r_getC F e_X10_plan_100 fl_X10_59 h5982 ((fld_eq (h5981.2 c (by rw [show kC c c = 1 from kC_at (k := 0) (by decide)]; decide))).trans f5976) ?_
              refine m_iload F rfl e_X10_plan_103 ?_
              refine r_sld F (j := 160 * n5872 + 6) e_X10_plan_105 h5982 (nI_clamp (by omega)) (vp_in_nI (by omega) (by decide)) (fun x5985 h5986 f5987 => ?_)
              refine m_lload F rfl e_X10_plan_106 ?_
              refine m_lsub F e_X10_plan_108 ?_
              refine Wm.topl (fun x5988 _ => ?_)
              refine m_lstore F (lv' := [(8, .long x5988), (6, .long x5977), (5, .int (nI (160 * n5872 + 6))), (4, .int (nI (160 * n5872))), (0, .ref c), (1, .int (nI n5872)), (2, .int (nI n5879)), (3, .int (nI n5882))]) e_X10_plan_109 (by decide) rfl ?_
              refine m_aload_n F rfl e_X10_plan_111 ?_
              refine r_callV F e_X10_plan_112 (q_X10_back1 (x_l X) V c T Z u h P L5983 _ _ L h5982.1 (okL5983.b) hP r5984) cb_X10_back1 ml_X10_332 im_X10_back1 se_X10_back1 h5982 rfl rfl (rest := []) rfl (Nat.le_of_ble_eq_true rfl) ⟨Nat.le_of_ble_eq_true rfl, Nat.le_of_ble_eq_true rfl⟩ ⟨Nat.le_of_ble_eq_true rfl, Nat.le_of_ble_eq_true rfl⟩ (fun r σ5989 hp => ?_)
              obtain ⟨h5990, rfl⟩ := hp
              have h5991 := HS.trans h5982 h5990 (by decide)
              have ga5992 := r5984.of (h5990.2 (c + 17) (by rw [kC_at (k := 17) (by decide)]; decide))
              refine m_lload F rfl e_X10_plan_115 ?_
              exact m_lret F hQ e_X10_plan_117 (⟨h5991, _, rfl⟩)
            · have c78 : n5882 < 2 := by have hh := mt (nI_leI (a := 2) (b := n5882) (by omega) (by omega)).mpr q78; omega
              refine m_lconst F (v := 0) (by decide) e_X10_plan_81 ?_
              refine m_goto F e_X10_plan_82 ?_
              refine m_lstore F (lv' := [(6, .long 0), (5, .int (nI (160 * n5872 + 6))), (4, .int (nI (160 * n5872))), (0, .ref c), (1, .int (nI n5872)), (2, .int (nI n5879)), (3, .int (nI n5882))]) e_X10_plan_92 (by decide) rfl ?_
              refine m_aload_n F rfl e_X10_plan_94 ?_
              refine m_iload_n F rfl e_X10_plan_95 ?_
              refine r_callV F e_X10_plan_96 (q_X10_ahead (x_l X) V c T Z u h P L _ _ n5879 h5870.1 (hok) hP (by omega)) cb_X10_ahead ml_X10_329 im_X10_ahead se_X10_ahead h5870 rfl rfl (rest := []) rfl (Nat.le_of_ble_eq_true rfl) ⟨Nat.le_of_ble_eq_true rfl, Nat.le_of_ble_eq_true rfl⟩ ⟨Nat.le_of_ble_eq_true rfl, Nat.le_of_ble_eq_true rfl⟩ (fun r σ5993 hp => ?_)
              obtain ⟨L5996, okL5996, r5997, h5994, rfl⟩ := hp
              have h5995 := HS.trans h5870 h5994 (by decide)
              refine m_aload_n F rfl e_X10_plan_99 ?_
              refine r_get F e_X10_plan_100 fl_X10_59 h5995 rfl (fun v hv f5998 => ?_)
              obtain rfl : v = .ref (c + 16) := hv
              refine m_iload F rfl e_X10_plan_103 ?_
              refine r_sld F (j := 160 * n5872 + 6) e_X10_plan_105 h5995 (nI_clamp (by omega)) (vp_in_nI (by omega) (by decide)) (fun x5999 h6000 f6001 => ?_)
              refine m_lload F rfl e_X10_plan_106 ?_
              refine m_lsub F e_X10_plan_108 ?_
              refine Wm.topl (fun x6002 _ => ?_)
              refine m_lstore F (lv' := [(8, .long x6002), (6, .long 0), (5, .int (nI (160 * n5872 + 6))), (4, .int (nI (160 * n5872))), (0, .ref c), (1, .int (nI n5872)), (2, .int (nI n5879)), (3, .int (nI n5882))]) e_X10_plan_109 (by decide) rfl ?_
              refine m_aload_n F rfl e_X10_plan_111 ?_
              refine r_callV F e_X10_plan_112 (q_X10_back1 (x_l X) V c T Z u h P L5996 _ _ L h5995.1 (okL5996.b) hP r5997) cb_X10_back1 ml_X10_332 im_X10_back1 se_X10_back1 h5995 rfl rfl (rest := []) rfl (Nat.le_of_ble_eq_true rfl) ⟨Nat.le_of_ble_eq_true rfl, Nat.le_of_ble_eq_true rfl⟩ ⟨Nat.le_of_ble_eq_true rfl, Nat.le_of_ble_eq_true rfl⟩ (fun r σ6003 hp => ?_)
              obtain ⟨h6004, rfl⟩ := hp
              have h6005 := HS.trans h5995 h6004 (by decide)
              have ga6006 := r5997.of (h6004.2 (c + 17) (by rw [kC_at (k := 17) (by decide)]; decide))
              refine m_lload F rfl e_X10_plan_115 ?_
              exact m_lret F hQ e_X10_plan_117 (⟨h6005, _, rfl⟩)
        · have c26 : n5882 > 3 := by have hh := mt (nI_leI (a := n5882) (b := 3) (by omega) (by omega)).mpr q26; omega
          refine m_ldc2 F kc_X10_245 e_X10_plan_29 ?_
          exact m_lret F hQ e_X10_plan_32 (⟨h5870, _, rfl⟩)
set_option maxRecDepth 20000 in
theorem q_X10_all (l : Launch) (V : VX) (c T Z u h : Nat) (P : NP) (L : Nat → LQ) (N : Nat) (σ : Mem) (x901 : Int32) (h0 : HR V c ⟨T, Z, u, h, P, L⟩ σ) (hok : OKL P.n0 L) (hP : OKP P)  : Ct l V yX10_all cX10_all 4 (some .long) 5 0 0 N σ [.ref c, .int x901] (fun r τ => HS V c (⟨T, Z, u, h, P, L⟩ : RG) [0, 2, 3, 4, 5, 6, 7, 8, 9, 10, 11, 12, 13, 14, 15, 16, 19, 20, 21, 22] σ τ ∧ ∃ x : Int64, r = some (.long x)) := by
  refine Ct.of (by decide) (Nat.le_of_ble_eq_true rfl) [(0, .ref c), (1, .int x901)] rfl (fun X hX F hQ => ?_)
  have hPP := hP
  unfold OKP at hPP
  have h1 : HS V c ⟨T, Z, u, h, P, L⟩ [0, 2, 3, 4, 5, 6, 7, 8, 9, 10, 11, 12, 13, 14, 15, 16, 19, 20, 21, 22] σ σ := HS.start h0
  refine m_aload_n F rfl e_X10_all_0 ?_
  refine m_iconst F (v := 0) (by decide) e_X10_all_1 ?_
  refine r_put F (g' := (⟨T, Z, u, h, P, L⟩ : RG)) e_X10_all_2 fp_X10_91 h1 (by decide) ⟨_, rfl⟩ (fun _ _ _ _ q => q) (fun _ _ _ q => q) rfl rfl (by decide) (fun σ6007 h6008 g6009 g6010 f6011 => ?_)
  refine m_iload_n F rfl e_X10_all_5 ?_
  refine m_callS F e_X10_all_6 (q_X10_areAhead2 (x_l X) V _ _ x901 ) cb_X10_areAhead ml_X10_326 sm_X10_areAhead rfl (rest := []) rfl (Nat.le_of_ble_eq_true rfl) ⟨Nat.le_of_ble_eq_true rfl, Nat.le_of_ble_eq_true rfl⟩ ⟨Nat.le_of_ble_eq_true rfl, Nat.le_of_ble_eq_true rfl⟩ (k' := 0) (z' := 0) (N' := N) rfl rfl rfl (fun r σ6012 hp => ?_)
  obtain ⟨rfl, c6015⟩ := hp
  rcases c6015 with rfl | ⟨n6016, h6017, e6018, rfl⟩
  · refine m_if_ne F e_X10_all_9 (fun q => absurd (by decide) q) (fun _ => ?_)
    refine m_ldc2 F kc_X10_245 e_X10_all_12 ?_
    exact m_lret F hQ e_X10_all_15 (⟨h6008, _, rfl⟩)
  · subst e6018
    refine m_if_ne F e_X10_all_9 (fun _ => ?_) (fun q => absurd q (by decide))
    refine m_aload_n F rfl e_X10_all_16 ?_
    refine m_iload_n F rfl e_X10_all_17 ?_
    refine r_callV F e_X10_all_18 (q_X10_ahead (x_l X) V c T Z u h P L _ _ n6016 h6008.1 (hok) hP (by omega)) cb_X10_ahead ml_X10_329 im_X10_ahead se_X10_ahead h6008 rfl rfl (rest := []) rfl (Nat.le_of_ble_eq_true rfl) ⟨Nat.le_of_ble_eq_true rfl, Nat.le_of_ble_eq_true rfl⟩ ⟨Nat.le_of_ble_eq_true rfl, Nat.le_of_ble_eq_true rfl⟩ (fun r σ6019 hp => ?_)
    obtain ⟨L6022, okL6022, r6023, h6020, rfl⟩ := hp
    have h6021 := HS.trans h6008 h6020 (by decide)
    refine m_aload_n F rfl e_X10_all_21 ?_
    refine r_callV F e_X10_all_22 (q_X10_owedAll (x_l X) V c T Z u h P L6022 _ _  h6021.1 (okL6022.b) hP ) cb_X10_owedAll ml_X10_335 im_X10_owedAll se_X10_owedAll h6021 rfl rfl (rest := []) rfl (Nat.le_of_ble_eq_true rfl) ⟨Nat.le_of_ble_eq_true rfl, Nat.le_of_ble_eq_true rfl⟩ ⟨Nat.le_of_ble_eq_true rfl, Nat.le_of_ble_eq_true rfl⟩ (fun r σ6024 hp => ?_)
    obtain ⟨h6025, x6027, rfl⟩ := hp
    have h6026 := HS.trans h6021 h6025 (by decide)
    have ga6028 := r6023.of (h6025.2 (c + 17) (by rw [kC_at (k := 17) (by decide)]; decide))
    refine m_lstore_n F (lv' := [(2, .long x6027), (0, .ref c), (1, .int (nI n6016))]) e_X10_all_25 (by decide) rfl ?_
    refine m_aload_n F rfl e_X10_all_26 ?_
    refine r_callV F e_X10_all_27 (q_X10_back1 (x_l X) V c T Z u h P L6022 _ _ L h6026.1 (okL6022.b) hP ga6028) cb_X10_back1 ml_X10_332 im_X10_back1 se_X10_back1 h6026 rfl rfl (rest := []) rfl (Nat.le_of_ble_eq_true rfl) ⟨Nat.le_of_ble_eq_true rfl, Nat.le_of_ble_eq_true rfl⟩ ⟨Nat.le_of_ble_eq_true rfl, Nat.le_of_ble_eq_true rfl⟩ (fun r σ6029 hp => ?_)
    obtain ⟨h6030, rfl⟩ := hp
    have h6031 := HS.trans h6026 h6030 (by decide)
    have ga6032 := ga6028.of (h6030.2 (c + 17) (by rw [kC_at (k := 17) (by decide)]; decide))
    refine m_lload_n F rfl e_X10_all_30 ?_
    exact m_lret F hQ e_X10_all_31 (⟨h6031, _, rfl⟩)
set_option maxRecDepth 20000 in
theorem q_X10_soon (l : Launch) (V : VX) (c T Z u h : Nat) (P : NP) (L : Nat → LQ) (N : Nat) (σ : Mem) (x901 : Int32) (x902 : Int32) (h0 : HR V c ⟨T, Z, u, h, P, L⟩ σ) (hok : OKL P.n0 L) (hP : OKP P)  : Ct l V yX10_soon cX10_soon 7 (some .long) 5 0 0 N σ [.ref c, .int x901, .int x902] (fun r τ => HS V c (⟨T, Z, u, h, P, L⟩ : RG) [0, 2, 3, 4, 5, 6, 7, 8, 9, 10, 11, 12, 13, 14, 15, 16, 19, 20, 21, 22] σ τ ∧ ∃ x : Int64, r = some (.long x)) := by
  refine Ct.of (by decide) (Nat.le_of_ble_eq_true rfl) [(0, .ref c), (1, .int x901), (2, .int x902)] rfl (fun X hX F hQ => ?_)
  have hPP := hP
  unfold OKP at hPP
  have h1 : HS V c ⟨T, Z, u, h, P, L⟩ [0, 2, 3, 4, 5, 6, 7, 8, 9, 10, 11, 12, 13, 14, 15, 16, 19, 20, 21, 22] σ σ := HS.start h0
  refine m_aload_n F rfl e_X10_soon_0 ?_
  refine m_iconst F (v := 0) (by decide) e_X10_soon_1 ?_
  refine r_put F (g' := (⟨T, Z, u, h, P, L⟩ : RG)) e_X10_soon_2 fp_X10_91 h1 (by decide) ⟨_, rfl⟩ (fun _ _ _ _ q => q) (fun _ _ _ q => q) rfl rfl (by decide) (fun σ6033 h6034 g6035 g6036 f6037 => ?_)
  refine m_aload_n F rfl e_X10_soon_5 ?_
  refine m_iload_n F rfl e_X10_soon_6 ?_
  refine r_callV F e_X10_soon_7 (q_X10_isLease (x_l X) V c T Z u h P L _ _ x901 h6034.1 (hok.b) hP ) cb_X10_isLease ml_X10_292 im_X10_isLease se_X10_isLease h6034 rfl rfl (rest := []) rfl (Nat.le_of_ble_eq_true rfl) ⟨Nat.le_of_ble_eq_true rfl, Nat.le_of_ble_eq_true rfl⟩ ⟨Nat.le_of_ble_eq_true rfl, Nat.le_of_ble_eq_true rfl⟩ (fun r σ6038 hp => ?_)
  obtain ⟨h6039, c6041⟩ := hp
  have h6040 := HS.trans h6034 h6039 (by decide)
  rcases c6041 with rfl | ⟨n6042, h6043, e6044, rfl⟩
  · refine m_if_eq F e_X10_soon_10 (fun _ => ?_) (fun q => absurd (by decide) q)
    refine m_ldc2 F kc_X10_245 e_X10_soon_22 ?_
    exact m_lret F hQ e_X10_soon_25 (⟨h6040, _, rfl⟩)
  · subst e6044
    refine m_if_eq F e_X10_soon_10 (fun q => absurd q (by decide)) (fun _ => ?_)
    refine m_iload_n F rfl e_X10_soon_13 ?_
    refine m_if_lt F e_X10_soon_14 (fun q14 => ?_) (fun q14 => ?_)
    · refine m_ldc2 F kc_X10_245 e_X10_soon_22 ?_
      exact m_lret F hQ e_X10_soon_25 (⟨h6040, _, rfl⟩)
    · obtain ⟨n6045, hn6045, rfl⟩ := nI_nn (x := x902) (fun e => q14 (Int32.lt_of_lt_of_le e (by decide)))
      have c14 : n6045 ≥ 0 := by have hh := mt (nI_ltI (a := n6045) (b := 0) (by omega) (by omega)).mpr q14; omega
      refine m_iload_n F rfl e_X10_soon_17 ?_
      refine m_iconst F (v := 1) (by decide) e_X10_soon_18 ?_
      refine m_icmp_le F e_X10_soon_19 (fun q19 => ?_) (fun q19 => ?_)
      · have c19 : n6045 ≤ 1 := (nI_leI (a := n6045) (b := 1) (by omega) (by omega)).mp q19
        refine m_aload_n F rfl e_X10_soon_26 ?_
        refine r_get F e_X10_soon_27 fl_X10_59 h6040 rfl (fun v hv f6046 => ?_)
        obtain rfl : v = .ref (c + 16) := hv
        refine m_sipush F (v := 160) (by decide) e_X10_soon_30 ?_
        refine m_iload_n F rfl e_X10_soon_33 ?_
        refine m_imul F e_X10_soon_34 ?_
        refine Wm.topE (w := nI (160 * n6042)) (pk_mul 160 n6042) ?_
        refine m_bipush F (v := 6) (by decide) e_X10_soon_35 ?_
        refine m_iadd F e_X10_soon_37 ?_
        refine Wm.topE (w := nI (160 * n6042 + 6)) (nI_add (160 * n6042) 6) ?_
        refine r_sld F (j := 160 * n6042 + 6) e_X10_soon_38 h6040 (nI_clamp (by omega)) (vp_in_nI (by omega) (by decide)) (fun x6047 h6048 f6049 => ?_)
        refine m_lstore_n F (lv' := [(3, .long x6047), (0, .ref c), (1, .int (nI n6042)), (2, .int (nI n6045))]) e_X10_soon_39 (by decide) rfl ?_
        refine m_aload_n F rfl e_X10_soon_40 ?_
        refine m_bipush F (v := 12) (by decide) e_X10_soon_41 ?_
        refine r_callV F e_X10_soon_43 (q_X10_ahead (x_l X) V c T Z u h P L _ _ 12 h6040.1 (hok) hP (by omega)) cb_X10_ahead ml_X10_329 im_X10_ahead se_X10_ahead h6040 rfl rfl (rest := []) rfl (Nat.le_of_ble_eq_true rfl) ⟨Nat.le_of_ble_eq_true rfl, Nat.le_of_ble_eq_true rfl⟩ ⟨Nat.le_of_ble_eq_true rfl, Nat.le_of_ble_eq_true rfl⟩ (fun r σ6050 hp => ?_)
        obtain ⟨L6053, okL6053, r6054, h6051, rfl⟩ := hp
        have h6052 := HS.trans h6040 h6051 (by decide)
        refine m_aload_n F rfl e_X10_soon_46 ?_
        refine r_getC F e_X10_soon_47 fl_X10_59 h6052 ((fld_eq (h6051.2 c (by rw [show kC c c = 1 from kC_at (k := 0) (by decide)]; decide))).trans f6046) ?_
        refine m_sipush F (v := 160) (by decide) e_X10_soon_50 ?_
        refine m_iload_n F rfl e_X10_soon_53 ?_
        refine m_imul F e_X10_soon_54 ?_
        refine Wm.topE (w := nI (160 * n6042)) (pk_mul 160 n6042) ?_
        refine m_bipush F (v := 6) (by decide) e_X10_soon_55 ?_
        refine m_iadd F e_X10_soon_57 ?_
        refine Wm.topE (w := nI (160 * n6042 + 6)) (nI_add (160 * n6042) 6) ?_
        refine r_sld F (j := 160 * n6042 + 6) e_X10_soon_58 h6052 (nI_clamp (by omega)) (vp_in_nI (by omega) (by decide)) (fun x6055 h6056 f6057 => ?_)
        refine m_lstore F (lv' := [(5, .long x6055), (3, .long x6047), (0, .ref c), (1, .int (nI n6042)), (2, .int (nI n6045))]) e_X10_soon_59 (by decide) rfl ?_
        refine m_aload_n F rfl e_X10_soon_61 ?_
        refine r_callV F e_X10_soon_62 (q_X10_back1 (x_l X) V c T Z u h P L6053 _ _ L h6052.1 (okL6053.b) hP r6054) cb_X10_back1 ml_X10_332 im_X10_back1 se_X10_back1 h6052 rfl rfl (rest := []) rfl (Nat.le_of_ble_eq_true rfl) ⟨Nat.le_of_ble_eq_true rfl, Nat.le_of_ble_eq_true rfl⟩ ⟨Nat.le_of_ble_eq_true rfl, Nat.le_of_ble_eq_true rfl⟩ (fun r σ6058 hp => ?_)
        obtain ⟨h6059, rfl⟩ := hp
        have h6060 := HS.trans h6052 h6059 (by decide)
        have ga6061 := r6054.of (h6059.2 (c + 17) (by rw [kC_at (k := 17) (by decide)]; decide))
        refine m_iload_n F rfl e_X10_soon_65 ?_
        refine m_if_ne F e_X10_soon_66 (fun q66 => ?_) (fun q66 => ?_)
        · have c66 : n6045 ≠ 0 := by have hh := mt (nI_eq (a := n6045) (b := 0) (by omega) (by omega)).mpr q66; omega
          refine m_lload F rfl e_X10_soon_76 ?_
          exact m_lret F hQ e_X10_soon_78 (⟨h6060, _, rfl⟩)
        · have c66 : n6045 = 0 := (nI_eq (a := n6045) (b := 0) (by omega) (by omega)).mp q66
          refine m_lload_n F rfl e_X10_soon_69 ?_
          refine m_lload F rfl e_X10_soon_70 ?_
          refine m_lsub F e_X10_soon_72 ?_
          refine Wm.topl (fun x6062 _ => ?_)
          refine m_goto F e_X10_soon_73 ?_
          exact m_lret F hQ e_X10_soon_78 (⟨h6060, _, rfl⟩)
      · have c19 : n6045 > 1 := by have hh := mt (nI_leI (a := n6045) (b := 1) (by omega) (by omega)).mpr q19; omega
        refine m_ldc2 F kc_X10_245 e_X10_soon_22 ?_
        exact m_lret F hQ e_X10_soon_25 (⟨h6040, _, rfl⟩)
set_option maxRecDepth 20000 in
theorem q_X10_cash (l : Launch) (V : VX) (c T Z u h : Nat) (P : NP) (L : Nat → LQ) (N : Nat) (σ : Mem) (x901 : Int32) (x902 : Int32) (h0 : HR V c ⟨T, Z, u, h, P, L⟩ σ) (hok : OKL P.n0 L) (hP : OKP P)  : Ct l V yX10_cash cX10_cash 7 (some .long) 5 0 0 N σ [.ref c, .int x901, .int x902] (fun r τ => HS V c (⟨T, Z, u, h, P, L⟩ : RG) [0, 2, 3, 4, 5, 6, 7, 8, 9, 10, 11, 12, 13, 14, 15, 16, 19, 20, 21, 22] σ τ ∧ ∃ x : Int64, r = some (.long x)) := by
  refine Ct.of (by decide) (Nat.le_of_ble_eq_true rfl) [(0, .ref c), (1, .int x901), (2, .int x902)] rfl (fun X hX F hQ => ?_)
  have hPP := hP
  unfold OKP at hPP
  have h1 : HS V c ⟨T, Z, u, h, P, L⟩ [0, 2, 3, 4, 5, 6, 7, 8, 9, 10, 11, 12, 13, 14, 15, 16, 19, 20, 21, 22] σ σ := HS.start h0
  refine m_aload_n F rfl e_X10_cash_0 ?_
  refine m_iconst F (v := 0) (by decide) e_X10_cash_1 ?_
  refine r_put F (g' := (⟨T, Z, u, h, P, L⟩ : RG)) e_X10_cash_2 fp_X10_91 h1 (by decide) ⟨_, rfl⟩ (fun _ _ _ _ q => q) (fun _ _ _ q => q) rfl rfl (by decide) (fun σ6063 h6064 g6065 g6066 f6067 => ?_)
  refine m_iload_n F rfl e_X10_cash_5 ?_
  refine m_if_lt F e_X10_cash_6 (fun q6 => ?_) (fun q6 => ?_)
  · refine m_ldc2 F kc_X10_245 e_X10_cash_20 ?_
    exact m_lret F hQ e_X10_cash_23 (⟨h6064, _, rfl⟩)
  · obtain ⟨n6068, hn6068, rfl⟩ := nI_nn (x := x901) (fun e => q6 (Int32.lt_of_lt_of_le e (by decide)))
    have c6 : n6068 ≥ 0 := by have hh := mt (nI_ltI (a := n6068) (b := 0) (by omega) (by omega)).mpr q6; omega
    refine m_iload_n F rfl e_X10_cash_9 ?_
    refine m_bipush F (v := 71) (by decide) e_X10_cash_10 ?_
    refine m_icmp_gt F e_X10_cash_12 (fun q12 => ?_) (fun q12 => ?_)
    · obtain ⟨n6069, hn6069, rfl⟩ := nI_nn (x := x902) (fun e => Int32.lt_irrefl (Int32.lt_trans e (Int32.lt_of_le_of_lt (by decide) q12)))
      have c12 : n6069 > 71 := (nI_ltI (a := 71) (b := n6069) (by omega) (by omega)).mp q12
      refine m_ldc2 F kc_X10_245 e_X10_cash_20 ?_
      exact m_lret F hQ e_X10_cash_23 (⟨h6064, _, rfl⟩)
    · refine m_iload_n F rfl e_X10_cash_15 ?_
      refine m_iload_n F rfl e_X10_cash_16 ?_
      refine m_icmp_le F e_X10_cash_17 (fun q17 => ?_) (fun q17 => ?_)
      · obtain ⟨n6070, hn6070, rfl⟩ := nI_nn (x := x902) (fun e => Int32.lt_irrefl (Int32.lt_of_lt_of_le e (Int32.le_trans (nI_0le (by omega)) q17)))
        have c12 : n6070 ≤ 71 := by have hh := mt (nI_ltI (a := 71) (b := n6070) (by omega) (by omega)).mpr q12; omega
        have c17 : n6068 ≤ n6070 := (nI_leI (a := n6068) (b := n6070) (by omega) (by omega)).mp q17
        refine m_aload_n F rfl e_X10_cash_24 ?_
        refine m_iload_n F rfl e_X10_cash_25 ?_
        refine r_callV F e_X10_cash_26 (q_X10_ahead (x_l X) V c T Z u h P L _ _ n6068 h6064.1 (hok) hP (by omega)) cb_X10_ahead ml_X10_329 im_X10_ahead se_X10_ahead h6064 rfl rfl (rest := []) rfl (Nat.le_of_ble_eq_true rfl) ⟨Nat.le_of_ble_eq_true rfl, Nat.le_of_ble_eq_true rfl⟩ ⟨Nat.le_of_ble_eq_true rfl, Nat.le_of_ble_eq_true rfl⟩ (fun r σ6071 hp => ?_)
        obtain ⟨L6074, okL6074, r6075, h6072, rfl⟩ := hp
        have h6073 := HS.trans h6064 h6072 (by decide)
        refine m_aload_n F rfl e_X10_cash_29 ?_
        refine r_callV F e_X10_cash_30 (q_X10_paidAll (x_l X) V c T Z u h P L6074 _ _  h6073.1 (okL6074.b) hP ) cb_X10_paidAll ml_X10_343 im_X10_paidAll se_X10_paidAll h6073 rfl rfl (rest := []) rfl (Nat.le_of_ble_eq_true rfl) ⟨Nat.le_of_ble_eq_true rfl, Nat.le_of_ble_eq_true rfl⟩ ⟨Nat.le_of_ble_eq_true rfl, Nat.le_of_ble_eq_true rfl⟩ (fun r σ6076 hp => ?_)
        obtain ⟨h6077, x6079, rfl⟩ := hp
        have h6078 := HS.trans h6073 h6077 (by decide)
        have ga6080 := r6075.of (h6077.2 (c + 17) (by rw [kC_at (k := 17) (by decide)]; decide))
        refine m_lstore_n F (lv' := [(3, .long x6079), (0, .ref c), (1, .int (nI n6068)), (2, .int (nI n6070))]) e_X10_cash_33 (by decide) rfl ?_
        refine m_aload_n F rfl e_X10_cash_34 ?_
        refine r_callV F e_X10_cash_35 (q_X10_back1 (x_l X) V c T Z u h P L6074 _ _ L h6078.1 (okL6074.b) hP ga6080) cb_X10_back1 ml_X10_332 im_X10_back1 se_X10_back1 h6078 rfl rfl (rest := []) rfl (Nat.le_of_ble_eq_true rfl) ⟨Nat.le_of_ble_eq_true rfl, Nat.le_of_ble_eq_true rfl⟩ ⟨Nat.le_of_ble_eq_true rfl, Nat.le_of_ble_eq_true rfl⟩ (fun r σ6081 hp => ?_)
        obtain ⟨h6082, rfl⟩ := hp
        have h6083 := HS.trans h6078 h6082 (by decide)
        have ga6084 := ga6080.of (h6082.2 (c + 17) (by rw [kC_at (k := 17) (by decide)]; decide))
        refine m_aload_n F rfl e_X10_cash_38 ?_
        refine m_iload_n F rfl e_X10_cash_39 ?_
        refine m_iconst F (v := 1) (by decide) e_X10_cash_40 ?_
        refine m_iadd F e_X10_cash_41 ?_
        refine Wm.topE (w := nI (n6070 + 1)) (nI_add n6070 1) ?_
        refine r_callV F e_X10_cash_42 (q_X10_ahead (x_l X) V c T Z u h P L _ _ (n6070 + 1) h6083.1 (hok) hP (by omega)) cb_X10_ahead ml_X10_329 im_X10_ahead se_X10_ahead h6083 rfl rfl (rest := []) rfl (Nat.le_of_ble_eq_true rfl) ⟨Nat.le_of_ble_eq_true rfl, Nat.le_of_ble_eq_true rfl⟩ ⟨Nat.le_of_ble_eq_true rfl, Nat.le_of_ble_eq_true rfl⟩ (fun r σ6085 hp => ?_)
        obtain ⟨L6088, okL6088, r6089, h6086, rfl⟩ := hp
        have h6087 := HS.trans h6083 h6086 (by decide)
        refine m_aload_n F rfl e_X10_cash_45 ?_
        refine r_callV F e_X10_cash_46 (q_X10_paidAll (x_l X) V c T Z u h P L6088 _ _  h6087.1 (okL6088.b) hP ) cb_X10_paidAll ml_X10_343 im_X10_paidAll se_X10_paidAll h6087 rfl rfl (rest := []) rfl (Nat.le_of_ble_eq_true rfl) ⟨Nat.le_of_ble_eq_true rfl, Nat.le_of_ble_eq_true rfl⟩ ⟨Nat.le_of_ble_eq_true rfl, Nat.le_of_ble_eq_true rfl⟩ (fun r σ6090 hp => ?_)
        obtain ⟨h6091, x6093, rfl⟩ := hp
        have h6092 := HS.trans h6087 h6091 (by decide)
        have ga6094 := r6089.of (h6091.2 (c + 17) (by rw [kC_at (k := 17) (by decide)]; decide))
        refine m_lstore F (lv' := [(5, .long x6093), (3, .long x6079), (0, .ref c), (1, .int (nI n6068)), (2, .int (nI n6070))]) e_X10_cash_49 (by decide) rfl ?_
        refine m_aload_n F rfl e_X10_cash_51 ?_
        refine r_callV F e_X10_cash_52 (q_X10_back1 (x_l X) V c T Z u h P L6088 _ _ L h6092.1 (okL6088.b) hP ga6094) cb_X10_back1 ml_X10_332 im_X10_back1 se_X10_back1 h6092 rfl rfl (rest := []) rfl (Nat.le_of_ble_eq_true rfl) ⟨Nat.le_of_ble_eq_true rfl, Nat.le_of_ble_eq_true rfl⟩ ⟨Nat.le_of_ble_eq_true rfl, Nat.le_of_ble_eq_true rfl⟩ (fun r σ6095 hp => ?_)
        obtain ⟨h6096, rfl⟩ := hp
        have h6097 := HS.trans h6092 h6096 (by decide)
        have ga6098 := ga6094.of (h6096.2 (c + 17) (by rw [kC_at (k := 17) (by decide)]; decide))
        refine m_lload F rfl e_X10_cash_55 ?_
        refine m_lload_n F rfl e_X10_cash_57 ?_
        refine m_lsub F e_X10_cash_58 ?_
        refine Wm.topl (fun x6099 _ => ?_)
        exact m_lret F hQ e_X10_cash_59 (⟨h6097, _, rfl⟩)
      · refine m_ldc2 F kc_X10_245 e_X10_cash_20 ?_
        exact m_lret F hQ e_X10_cash_23 (⟨h6064, _, rfl⟩)
set_option maxRecDepth 20000 in
theorem lq_X10_half_62 {V : VX} {X : MX} {N : Nat} {σ : Mem} {c T Z u h : Nat} {P : NP} {L : Nat → LQ}   (F : Fx V X yX10_half cX10_half 6 (some .int) (rmd 4 0 0)) (hQ : Rt V X 0 0 N (fun r τ => HS V c (⟨T, Z, u, h, P, L⟩ : RG) [0, 2, 3, 4, 5, 6, 7, 8, 9, 10, 11, 12, 13, 14, 15, 16, 19, 20, 21, 22] σ τ ∧ ∃ x : Int32, r = some (.int x))) (hok : OKL P.n0 L) (hP : OKP P)   : ∀ (fuel : Nat) (a : Nat) (w1 : Int64) (i : Nat) (L1 : Nat → LQ) (τ : Mem), HS V c (⟨T, Z, u, h, P, L1⟩ : RG) [0, 2, 3, 4, 5, 6, 7, 8, 9, 10, 11, 12, 13, 14, 15, 16, 19, 20, 21, 22] σ τ → OKL P.n0 L1 → i ≤ 72 ∧ a ≤ 3 ∧ GB V c 17 1113 0 L τ → 72 - i < fuel → Wm V X 6 N τ 0 0 62 [(0, .ref c), (1, .int (nI a)), (2, .long w1), (4, .int (nI i))] [] := by
  intro fuel
  induction fuel with
  | zero => intros; rename_i hm; exact absurd hm (Nat.not_lt_zero _)
  | succ fuel ih =>
    intro a w1 i L1 τ h1 hok1 hi hm
    have hPP := hP
    unfold OKP at hPP
    have ga0 := hi.2.2
    refine m_ldc2 F kc_X10_234 e_X10_half_62 ?_
    refine m_aload_n F rfl e_X10_half_65 ?_
    refine r_get F e_X10_half_66 fl_X10_59 h1 rfl (fun v hv f6100 => ?_)
    obtain rfl : v = .ref (c + 16) := hv
    refine m_sipush F (v := 160) (by decide) e_X10_half_69 ?_
    refine m_iload_n F rfl e_X10_half_72 ?_
    refine m_imul F e_X10_half_73 ?_
    refine Wm.topE (w := nI (160 * a)) (pk_mul 160 a) ?_
    refine m_bipush F (v := 6) (by decide) e_X10_half_74 ?_
    refine m_iadd F e_X10_half_76 ?_
    refine Wm.topE (w := nI (160 * a + 6)) (nI_add (160 * a) 6) ?_
    refine r_sld F (j := 160 * a + 6) e_X10_half_77 h1 (nI_clamp (by omega)) (vp_in_nI (by omega) (by decide)) (fun x6101 h6102 f6103 => ?_)
    refine m_lmul F e_X10_half_78 ?_
    refine Wm.topl (fun x6104 _ => ?_)
    refine m_lload_n F rfl e_X10_half_79 ?_
    refine m_lcmp F e_X10_half_80 ?_
    refine Wm.top (fun x6105 _ => ?_)
    refine m_if_le F e_X10_half_81 (fun q81 => ?_) (fun q81 => ?_)
    · refine m_ldc2 F kc_X10_234 e_X10_half_116 ?_
      refine m_aload_n F rfl e_X10_half_119 ?_
      refine r_getC F e_X10_half_120 fl_X10_59 h1 (f6100) ?_
      refine m_sipush F (v := 160) (by decide) e_X10_half_123 ?_
      refine m_iload_n F rfl e_X10_half_126 ?_
      refine m_imul F e_X10_half_127 ?_
      refine Wm.topE (w := nI (160 * a)) (pk_mul 160 a) ?_
      refine m_bipush F (v := 6) (by decide) e_X10_half_128 ?_
      refine m_iadd F e_X10_half_130 ?_
      refine Wm.topE (w := nI (160 * a + 6)) (nI_add (160 * a) 6) ?_
      refine r_sld F (j := 160 * a + 6) e_X10_half_131 h1 (nI_clamp (by omega)) (vp_in_nI (by omega) (by decide)) (fun x6106 h6107 f6108 => ?_)
      refine m_lmul F e_X10_half_132 ?_
      refine Wm.topl (fun x6109 _ => ?_)
      refine m_lload_n F rfl e_X10_half_133 ?_
      refine m_lcmp F e_X10_half_134 ?_
      refine Wm.top (fun x6110 _ => ?_)
      refine m_if_gt F e_X10_half_135 (fun q135 => ?_) (fun q135 => ?_)
      · obtain ⟨n6111, hn6111, rfl⟩ := nI_nn (x := x6110) (fun e => Int32.lt_irrefl (Int32.lt_trans e (Int32.lt_of_le_of_lt (by decide) q135)))
        have c135 : n6111 > 0 := (nI_ltI (a := 0) (b := n6111) (by omega) (by omega)).mp q135
        refine m_iconst F (v := 0) (by decide) e_X10_half_142 ?_
        refine m_istore F (lv' := [(5, .int 0), (0, .ref c), (1, .int (nI a)), (2, .long w1), (4, .int (nI i))]) e_X10_half_143 (by decide) rfl ?_
        refine m_aload_n F rfl e_X10_half_145 ?_
        refine r_callV F e_X10_half_146 (q_X10_back1 (x_l X) V c T Z u h P L1 _ _ L h1.1 (hok1.b) hP ga0) cb_X10_back1 ml_X10_332 im_X10_back1 se_X10_back1 h1 rfl rfl (rest := []) rfl (Nat.le_of_ble_eq_true rfl) ⟨Nat.le_of_ble_eq_true rfl, Nat.le_of_ble_eq_true rfl⟩ ⟨Nat.le_of_ble_eq_true rfl, Nat.le_of_ble_eq_true rfl⟩ (fun r σ6112 hp => ?_)
        obtain ⟨h6113, rfl⟩ := hp
        have h6114 := HS.trans h1 h6113 (by decide)
        have ga6115 := ga0.of (h6113.2 (c + 17) (by rw [kC_at (k := 17) (by decide)]; decide))
        refine m_iload F rfl e_X10_half_149 ?_
        refine m_if_eq F e_X10_half_151 (fun _ => ?_) (fun q => absurd (by decide) q)
        refine m_bipush F (v := (-2)) (by decide) e_X10_half_159 ?_
        exact m_iret F hQ e_X10_half_161 (⟨h6114, _, rfl⟩)
      · refine m_iconst F (v := 1) (by decide) e_X10_half_138 ?_
        refine m_goto F e_X10_half_139 ?_
        refine m_istore F (lv' := [(5, .int 1), (0, .ref c), (1, .int (nI a)), (2, .long w1), (4, .int (nI i))]) e_X10_half_143 (by decide) rfl ?_
        refine m_aload_n F rfl e_X10_half_145 ?_
        refine r_callV F e_X10_half_146 (q_X10_back1 (x_l X) V c T Z u h P L1 _ _ L h1.1 (hok1.b) hP ga0) cb_X10_back1 ml_X10_332 im_X10_back1 se_X10_back1 h1 rfl rfl (rest := []) rfl (Nat.le_of_ble_eq_true rfl) ⟨Nat.le_of_ble_eq_true rfl, Nat.le_of_ble_eq_true rfl⟩ ⟨Nat.le_of_ble_eq_true rfl, Nat.le_of_ble_eq_true rfl⟩ (fun r σ6116 hp => ?_)
        obtain ⟨h6117, rfl⟩ := hp
        have h6118 := HS.trans h1 h6117 (by decide)
        have ga6119 := ga0.of (h6117.2 (c + 17) (by rw [kC_at (k := 17) (by decide)]; decide))
        refine m_iload F rfl e_X10_half_149 ?_
        refine m_if_eq F e_X10_half_151 (fun q => absurd q (by decide)) (fun _ => ?_)
        refine m_iload F rfl e_X10_half_154 ?_
        refine m_goto F e_X10_half_156 ?_
        exact m_iret F hQ e_X10_half_161 (⟨h6118, _, rfl⟩)
    · obtain ⟨n6120, hn6120, rfl⟩ := nI_nn (x := x6105) (fun e => q81 (Int32.le_trans (Int32.le_of_lt e) (by decide)))
      have c81 : n6120 > 0 := by have hh := mt (nI_leI (a := n6120) (b := 0) (by omega) (by omega)).mpr q81; omega
      refine m_iload F rfl e_X10_half_84 ?_
      refine m_bipush F (v := 72) (by decide) e_X10_half_86 ?_
      refine m_icmp_ge F e_X10_half_88 (fun q88 => ?_) (fun q88 => ?_)
      · have c88 : i ≥ 72 := (nI_leI (a := 72) (b := i) (by omega) (by omega)).mp q88
        refine m_ldc2 F kc_X10_234 e_X10_half_116 ?_
        refine m_aload_n F rfl e_X10_half_119 ?_
        refine r_getC F e_X10_half_120 fl_X10_59 h1 (f6100) ?_
        refine m_sipush F (v := 160) (by decide) e_X10_half_123 ?_
        refine m_iload_n F rfl e_X10_half_126 ?_
        refine m_imul F e_X10_half_127 ?_
        refine Wm.topE (w := nI (160 * a)) (pk_mul 160 a) ?_
        refine m_bipush F (v := 6) (by decide) e_X10_half_128 ?_
        refine m_iadd F e_X10_half_130 ?_
        refine Wm.topE (w := nI (160 * a + 6)) (nI_add (160 * a) 6) ?_
        refine r_sld F (j := 160 * a + 6) e_X10_half_131 h1 (nI_clamp (by omega)) (vp_in_nI (by omega) (by decide)) (fun x6121 h6122 f6123 => ?_)
        refine m_lmul F e_X10_half_132 ?_
        refine Wm.topl (fun x6124 _ => ?_)
        refine m_lload_n F rfl e_X10_half_133 ?_
        refine m_lcmp F e_X10_half_134 ?_
        refine Wm.top (fun x6125 _ => ?_)
        refine m_if_gt F e_X10_half_135 (fun q135 => ?_) (fun q135 => ?_)
        · obtain ⟨n6126, hn6126, rfl⟩ := nI_nn (x := x6125) (fun e => Int32.lt_irrefl (Int32.lt_trans e (Int32.lt_of_le_of_lt (by decide) q135)))
          have c135 : n6126 > 0 := (nI_ltI (a := 0) (b := n6126) (by omega) (by omega)).mp q135
          refine m_iconst F (v := 0) (by decide) e_X10_half_142 ?_
          refine m_istore F (lv' := [(5, .int 0), (0, .ref c), (1, .int (nI a)), (2, .long w1), (4, .int (nI i))]) e_X10_half_143 (by decide) rfl ?_
          refine m_aload_n F rfl e_X10_half_145 ?_
          refine r_callV F e_X10_half_146 (q_X10_back1 (x_l X) V c T Z u h P L1 _ _ L h1.1 (hok1.b) hP ga0) cb_X10_back1 ml_X10_332 im_X10_back1 se_X10_back1 h1 rfl rfl (rest := []) rfl (Nat.le_of_ble_eq_true rfl) ⟨Nat.le_of_ble_eq_true rfl, Nat.le_of_ble_eq_true rfl⟩ ⟨Nat.le_of_ble_eq_true rfl, Nat.le_of_ble_eq_true rfl⟩ (fun r σ6127 hp => ?_)
          obtain ⟨h6128, rfl⟩ := hp
          have h6129 := HS.trans h1 h6128 (by decide)
          have ga6130 := ga0.of (h6128.2 (c + 17) (by rw [kC_at (k := 17) (by decide)]; decide))
          refine m_iload F rfl e_X10_half_149 ?_
          refine m_if_eq F e_X10_half_151 (fun _ => ?_) (fun q => absurd (by decide) q)
          refine m_bipush F (v := (-2)) (by decide) e_X10_half_159 ?_
          exact m_iret F hQ e_X10_half_161 (⟨h6129, _, rfl⟩)
        · refine m_iconst F (v := 1) (by decide) e_X10_half_138 ?_
          refine m_goto F e_X10_half_139 ?_
          refine m_istore F (lv' := [(5, .int 1), (0, .ref c), (1, .int (nI a)), (2, .long w1), (4, .int (nI i))]) e_X10_half_143 (by decide) rfl ?_
          refine m_aload_n F rfl e_X10_half_145 ?_
          refine r_callV F e_X10_half_146 (q_X10_back1 (x_l X) V c T Z u h P L1 _ _ L h1.1 (hok1.b) hP ga0) cb_X10_back1 ml_X10_332 im_X10_back1 se_X10_back1 h1 rfl rfl (rest := []) rfl (Nat.le_of_ble_eq_true rfl) ⟨Nat.le_of_ble_eq_true rfl, Nat.le_of_ble_eq_true rfl⟩ ⟨Nat.le_of_ble_eq_true rfl, Nat.le_of_ble_eq_true rfl⟩ (fun r σ6131 hp => ?_)
          obtain ⟨h6132, rfl⟩ := hp
          have h6133 := HS.trans h1 h6132 (by decide)
          have ga6134 := ga0.of (h6132.2 (c + 17) (by rw [kC_at (k := 17) (by decide)]; decide))
          refine m_iload F rfl e_X10_half_149 ?_
          refine m_if_eq F e_X10_half_151 (fun q => absurd q (by decide)) (fun _ => ?_)
          refine m_iload F rfl e_X10_half_154 ?_
          refine m_goto F e_X10_half_156 ?_
          exact m_iret F hQ e_X10_half_161 (⟨h6133, _, rfl⟩)
      · have c88 : i < 72 := by have hh := mt (nI_leI (a := 72) (b := i) (by omega) (by omega)).mpr q88; omega
        refine m_aload_n F rfl e_X10_half_91 ?_
        refine r_getC F e_X10_half_92 fl_X10_59 h1 (f6100) ?_
        refine m_sipush F (v := 744) (by decide) e_X10_half_95 ?_
        refine r_sld F (j := 744) e_X10_half_98 h1 (by decide) (by unfold vp_in; decide) (fun x6135 h6136 f6137 => ?_)
        have hl6138 := hok1.1
        obtain rfl : x6135 = lN (L1 4).1 := EJ_p.mp h6136
        refine m_ldc2 F kc_X10_284 e_X10_half_99 ?_
        refine m_lcmp F e_X10_half_102 ?_
        refine m_if_ge F e_X10_half_103 (fun q103 => ?_) (fun q103 => ?_)
        · have c103 : ((L1 4).1) ≥ 99 := (lN_le (a := 99) (b := ((L1 4).1)) (by omega) (by omega)).mp ((lg_cmp_ge _ _).mp q103)
          refine m_ldc2 F kc_X10_234 e_X10_half_116 ?_
          refine m_aload_n F rfl e_X10_half_119 ?_
          refine r_getC F e_X10_half_120 fl_X10_59 h1 (f6100) ?_
          refine m_sipush F (v := 160) (by decide) e_X10_half_123 ?_
          refine m_iload_n F rfl e_X10_half_126 ?_
          refine m_imul F e_X10_half_127 ?_
          refine Wm.topE (w := nI (160 * a)) (pk_mul 160 a) ?_
          refine m_bipush F (v := 6) (by decide) e_X10_half_128 ?_
          refine m_iadd F e_X10_half_130 ?_
          refine Wm.topE (w := nI (160 * a + 6)) (nI_add (160 * a) 6) ?_
          refine r_sld F (j := 160 * a + 6) e_X10_half_131 h1 (nI_clamp (by omega)) (vp_in_nI (by omega) (by decide)) (fun x6139 h6140 f6141 => ?_)
          refine m_lmul F e_X10_half_132 ?_
          refine Wm.topl (fun x6142 _ => ?_)
          refine m_lload_n F rfl e_X10_half_133 ?_
          refine m_lcmp F e_X10_half_134 ?_
          refine Wm.top (fun x6143 _ => ?_)
          refine m_if_gt F e_X10_half_135 (fun q135 => ?_) (fun q135 => ?_)
          · obtain ⟨n6144, hn6144, rfl⟩ := nI_nn (x := x6143) (fun e => Int32.lt_irrefl (Int32.lt_trans e (Int32.lt_of_le_of_lt (by decide) q135)))
            have c135 : n6144 > 0 := (nI_ltI (a := 0) (b := n6144) (by omega) (by omega)).mp q135
            refine m_iconst F (v := 0) (by decide) e_X10_half_142 ?_
            refine m_istore F (lv' := [(5, .int 0), (0, .ref c), (1, .int (nI a)), (2, .long w1), (4, .int (nI i))]) e_X10_half_143 (by decide) rfl ?_
            refine m_aload_n F rfl e_X10_half_145 ?_
            refine r_callV F e_X10_half_146 (q_X10_back1 (x_l X) V c T Z u h P L1 _ _ L h1.1 (hok1.b) hP ga0) cb_X10_back1 ml_X10_332 im_X10_back1 se_X10_back1 h1 rfl rfl (rest := []) rfl (Nat.le_of_ble_eq_true rfl) ⟨Nat.le_of_ble_eq_true rfl, Nat.le_of_ble_eq_true rfl⟩ ⟨Nat.le_of_ble_eq_true rfl, Nat.le_of_ble_eq_true rfl⟩ (fun r σ6145 hp => ?_)
            obtain ⟨h6146, rfl⟩ := hp
            have h6147 := HS.trans h1 h6146 (by decide)
            have ga6148 := ga0.of (h6146.2 (c + 17) (by rw [kC_at (k := 17) (by decide)]; decide))
            refine m_iload F rfl e_X10_half_149 ?_
            refine m_if_eq F e_X10_half_151 (fun _ => ?_) (fun q => absurd (by decide) q)
            refine m_bipush F (v := (-2)) (by decide) e_X10_half_159 ?_
            exact m_iret F hQ e_X10_half_161 (⟨h6147, _, rfl⟩)
          · refine m_iconst F (v := 1) (by decide) e_X10_half_138 ?_
            refine m_goto F e_X10_half_139 ?_
            refine m_istore F (lv' := [(5, .int 1), (0, .ref c), (1, .int (nI a)), (2, .long w1), (4, .int (nI i))]) e_X10_half_143 (by decide) rfl ?_
            refine m_aload_n F rfl e_X10_half_145 ?_
            refine r_callV F e_X10_half_146 (q_X10_back1 (x_l X) V c T Z u h P L1 _ _ L h1.1 (hok1.b) hP ga0) cb_X10_back1 ml_X10_332 im_X10_back1 se_X10_back1 h1 rfl rfl (rest := []) rfl (Nat.le_of_ble_eq_true rfl) ⟨Nat.le_of_ble_eq_true rfl, Nat.le_of_ble_eq_true rfl⟩ ⟨Nat.le_of_ble_eq_true rfl, Nat.le_of_ble_eq_true rfl⟩ (fun r σ6149 hp => ?_)
            obtain ⟨h6150, rfl⟩ := hp
            have h6151 := HS.trans h1 h6150 (by decide)
            have ga6152 := ga0.of (h6150.2 (c + 17) (by rw [kC_at (k := 17) (by decide)]; decide))
            refine m_iload F rfl e_X10_half_149 ?_
            refine m_if_eq F e_X10_half_151 (fun q => absurd q (by decide)) (fun _ => ?_)
            refine m_iload F rfl e_X10_half_154 ?_
            refine m_goto F e_X10_half_156 ?_
            exact m_iret F hQ e_X10_half_161 (⟨h6151, _, rfl⟩)
        · have c103 : ((L1 4).1) < 99 := by have hh := mt (fun h9 => (lg_cmp_ge (lN ((L1 4).1)) (lN 99)).mpr ((lN_le (a := 99) (b := ((L1 4).1)) (by omega) (by omega)).mpr h9)) q103; omega
          refine m_aload_n F rfl e_X10_half_106 ?_
          refine r_callV F e_X10_half_107 (q_X10_periodGoes (x_l X) V c T Z u h P L1 _ _  h1.1 (hok1) hP (by first | omega | assumption | decide)) cb_X10_periodGoes ml_X10_289 im_X10_periodGoes se_X10_periodGoes h1 rfl rfl (rest := []) rfl (Nat.le_of_ble_eq_true rfl) ⟨Nat.le_of_ble_eq_true rfl, Nat.le_of_ble_eq_true rfl⟩ ⟨Nat.le_of_ble_eq_true rfl, Nat.le_of_ble_eq_true rfl⟩ (fun r σ6153 hp => ?_)
          obtain ⟨L6156, okL6156, r6157, h6154, rfl⟩ := hp
          have h6155 := HS.trans h1 h6154 (by decide)
          have ga6158 := ga0.of (h6154.2 (c + 17) (by rw [kC_at (k := 17) (by decide)]; decide))
          refine m_iinc F (v := nI (i + 1)) (lv' := [(4, .int (nI (i + 1))), (0, .ref c), (1, .int (nI a)), (2, .long w1)]) e_X10_half_110 rfl (nI_add i 1) (by decide) rfl ?_
          refine m_goto F e_X10_half_113 ?_
          refine Wm.lvsub (lv' := [(0, .ref c), (1, .int (nI a)), (2, .long w1), (4, .int (nI (i + 1)))]) ?_ [1, 2, 3, 0] rfl
          exact ih a w1 (i + 1) L6156 _ h6155 okL6156 ⟨by omega, by omega, by assumption⟩ (by omega)
set_option maxRecDepth 20000 in
theorem q_X10_half (l : Launch) (V : VX) (c T Z u h : Nat) (P : NP) (L : Nat → LQ) (N : Nat) (σ : Mem) (x901 : Int32) (h0 : HR V c ⟨T, Z, u, h, P, L⟩ σ) (hok : OKL P.n0 L) (hP : OKP P)  : Ct l V yX10_half cX10_half 6 (some .int) 4 0 0 N σ [.ref c, .int x901] (fun r τ => HS V c (⟨T, Z, u, h, P, L⟩ : RG) [0, 2, 3, 4, 5, 6, 7, 8, 9, 10, 11, 12, 13, 14, 15, 16, 19, 20, 21, 22] σ τ ∧ ∃ x : Int32, r = some (.int x)) := by
  refine Ct.of (by decide) (Nat.le_of_ble_eq_true rfl) [(0, .ref c), (1, .int x901)] rfl (fun X hX F hQ => ?_)
  have hPP := hP
  unfold OKP at hPP
  have h1 : HS V c ⟨T, Z, u, h, P, L⟩ [0, 2, 3, 4, 5, 6, 7, 8, 9, 10, 11, 12, 13, 14, 15, 16, 19, 20, 21, 22] σ σ := HS.start h0
  refine m_aload_n F rfl e_X10_half_0 ?_
  refine m_iconst F (v := 0) (by decide) e_X10_half_1 ?_
  refine r_put F (g' := (⟨T, Z, u, h, P, L⟩ : RG)) e_X10_half_2 fp_X10_91 h1 (by decide) ⟨_, rfl⟩ (fun _ _ _ _ q => q) (fun _ _ _ q => q) rfl rfl (by decide) (fun σ6159 h6160 g6161 g6162 f6163 => ?_)
  refine m_aload_n F rfl e_X10_half_5 ?_
  refine m_iload_n F rfl e_X10_half_6 ?_
  refine r_callV F e_X10_half_7 (q_X10_isLease (x_l X) V c T Z u h P L _ _ x901 h6160.1 (hok.b) hP ) cb_X10_isLease ml_X10_292 im_X10_isLease se_X10_isLease h6160 rfl rfl (rest := []) rfl (Nat.le_of_ble_eq_true rfl) ⟨Nat.le_of_ble_eq_true rfl, Nat.le_of_ble_eq_true rfl⟩ ⟨Nat.le_of_ble_eq_true rfl, Nat.le_of_ble_eq_true rfl⟩ (fun r σ6164 hp => ?_)
  obtain ⟨h6165, c6167⟩ := hp
  have h6166 := HS.trans h6160 h6165 (by decide)
  rcases c6167 with rfl | ⟨n6168, h6169, e6170, rfl⟩
  · refine m_if_eq F e_X10_half_10 (fun _ => ?_) (fun q => absurd (by decide) q)
    refine m_iconst F (v := (-1)) (by decide) e_X10_half_30 ?_
    exact m_iret F hQ e_X10_half_31 (⟨h6166, _, rfl⟩)
  · subst e6170
    refine m_if_eq F e_X10_half_10 (fun q => absurd q (by decide)) (fun _ => ?_)
    refine m_aload_n F rfl e_X10_half_13 ?_
    refine r_get F e_X10_half_14 fl_X10_59 h6166 rfl (fun v hv f6171 => ?_)
    obtain rfl : v = .ref (c + 16) := hv
    refine m_sipush F (v := 160) (by decide) e_X10_half_17 ?_
    refine m_iload_n F rfl e_X10_half_20 ?_
    refine m_imul F e_X10_half_21 ?_
    refine Wm.topE (w := nI (160 * n6168)) (pk_mul 160 n6168) ?_
    refine m_iconst F (v := 0) (by decide) e_X10_half_22 ?_
    refine m_iadd F e_X10_half_23 ?_
    refine Wm.topE (w := nI (160 * n6168)) (nI_add (160 * n6168) 0) ?_
    refine r_sld F (j := 160 * n6168) e_X10_half_24 h6166 (nI_clamp (by omega)) (vp_in_nI (by omega) (by decide)) (fun x6172 h6173 f6174 => ?_)
    have hl6175 := hok.2 n6168 (by omega)
    obtain rfl : x6172 = lN (L n6168).1 := (EJ_l (l := n6168) (r := 0) (by omega) (by decide)).mp h6173
    refine m_lconst F (v := 0) (by decide) e_X10_half_25 ?_
    refine m_lcmp F e_X10_half_26 ?_
    refine m_if_ne F e_X10_half_27 (fun q27 => ?_) (fun q27 => ?_)
    · have c27 : ((L n6168).1) ≠ 0 := by have hh := mt (fun h9 => (lg_cmp_eq (lN ((L n6168).1)) (lN 0)).mpr ((lN_eq (a := ((L n6168).1)) (b := 0) (by omega) (by omega)).mpr h9)) q27; omega
      refine m_aload_n F rfl e_X10_half_32 ?_
      refine r_getC F e_X10_half_33 fl_X10_59 h6166 (f6171) ?_
      refine m_sipush F (v := 160) (by decide) e_X10_half_36 ?_
      refine m_iload_n F rfl e_X10_half_39 ?_
      refine m_imul F e_X10_half_40 ?_
      refine Wm.topE (w := nI (160 * n6168)) (pk_mul 160 n6168) ?_
      refine m_bipush F (v := 6) (by decide) e_X10_half_41 ?_
      refine m_iadd F e_X10_half_43 ?_
      refine Wm.topE (w := nI (160 * n6168 + 6)) (nI_add (160 * n6168) 6) ?_
      refine r_sld F (j := 160 * n6168 + 6) e_X10_half_44 h6166 (nI_clamp (by omega)) (vp_in_nI (by omega) (by decide)) (fun x6176 h6177 f6178 => ?_)
      refine m_lstore_n F (lv' := [(2, .long x6176), (0, .ref c), (1, .int (nI n6168))]) e_X10_half_45 (by decide) rfl ?_
      refine m_aload_n F rfl e_X10_half_46 ?_
      refine r_getC F e_X10_half_47 fl_X10_59 h6166 (f6171) ?_
      refine m_iconst F (v := 0) (by decide) e_X10_half_50 ?_
      refine m_aload_n F rfl e_X10_half_51 ?_
      refine r_get F e_X10_half_52 fl_X10_63 h6166 rfl (fun v hv f6179 => ?_)
      obtain rfl : v = .ref (c + 17) := hv
      refine m_iconst F (v := 0) (by decide) e_X10_half_55 ?_
      obtain ⟨f6180, e6181, te6181⟩ : ∃ f, σ6164 (c + 16) = some (aJ V 1113 f) ∧ ∀ i, i < 1113 → EJ L i (f i) := h6166.1.cell (k := 16) (by decide)
      obtain ⟨g6182, e6183⟩ : ∃ f, σ6164 (c + 17) = some (aJ V 1113 f) := h6166.1.cell (k := 17) (by decide)
      refine m_callS F e_X10_half_56 (q_copies (x_l X) V _ _ (c + 16) (c + 17) 1113 1113 0 0 f6180 g6182 e6181 e6183 (by omega) (by omega) (by omega) (by omega)) cb_X10_copies ml_X10_230 sm_X10_copies rfl (rest := []) rfl (Nat.le_of_ble_eq_true rfl) ⟨Nat.le_of_ble_eq_true rfl, Nat.le_of_ble_eq_true rfl⟩ ⟨Nat.le_of_ble_eq_true rfl, Nat.le_of_ble_eq_true rfl⟩ (k' := 0) (z' := 0) (N' := N) rfl rfl rfl (fun r σ6184 hp => ?_)
      obtain ⟨p6185, rfl⟩ := hp
      have h6186 := HS.cp (k := 17) (g' := (⟨T, Z, u, h, P, L⟩ : RG)) h6166 p6185 (by decide) (by decide) ⟨_, rfl⟩ (fun _ _ _ q => q)
      have ga6187 : GB V c 17 1113 0 L σ6184 := ⟨_, p6185.1, fun i hi => by rw [show 0 + i = i from Nat.zero_add i, cpy_at0 hi, Nat.zero_add]; exact te6181 i hi⟩
      refine m_iconst F (v := 0) (by decide) e_X10_half_59 ?_
      refine m_istore F (lv' := [(4, .int 0), (2, .long x6176), (0, .ref c), (1, .int (nI n6168))]) e_X10_half_60 (by decide) rfl ?_
      refine Wm.lvsub (lv' := [(0, .ref c), (1, .int (nI n6168)), (2, .long x6176), (4, .int 0)]) ?_ [2, 3, 1, 0] rfl
      exact lq_X10_half_62 F hQ hok hP  (72 - 0 + 1) n6168 x6176 0 L _ h6186 hok ⟨by omega, by omega, by assumption⟩ (Nat.lt_succ_self _)
    · have c27 : ((L n6168).1) = 0 := (lN_eq (a := ((L n6168).1)) (b := 0) (by omega) (by omega)).mp ((lg_cmp_eq _ _).mp q27)
      refine m_iconst F (v := (-1)) (by decide) e_X10_half_30 ?_
      exact m_iret F hQ e_X10_half_31 (⟨h6166, _, rfl⟩)
set_option maxRecDepth 20000 in
theorem lq_X10_peak_40 {V : VX} {X : MX} {N : Nat} {σ : Mem} {c T Z u h : Nat} {P : NP} {L : Nat → LQ}   (F : Fx V X yX10_peak cX10_peak 8 (some .long) (rmd 4 0 0)) (hQ : Rt V X 0 0 N (fun r τ => HS V c (⟨T, Z, u, h, P, L⟩ : RG) [0, 2, 3, 4, 5, 6, 7, 8, 9, 10, 11, 12, 13, 14, 15, 16, 19, 20, 21, 22] σ τ ∧ ∃ x : Int64, r = some (.long x))) (hok : OKL P.n0 L) (hP : OKP P)   : ∀ (fuel : Nat) (a : Nat) (w1 : Int64) (b1 : Int32) (i : Nat) (L1 : Nat → LQ) (τ : Mem), HS V c (⟨T, Z, u, h, P, L1⟩ : RG) [0, 2, 3, 4, 5, 6, 7, 8, 9, 10, 11, 12, 13, 14, 15, 16, 19, 20, 21, 22] σ τ → OKL P.n0 L1 → i ≤ 72 ∧ a ≤ 1 ∧ GB V c 17 1113 0 L τ → 72 - i < fuel → Wm V X 8 N τ 0 0 40 [(0, .ref c), (1, .int (nI a)), (2, .long w1), (4, .int b1), (5, .int (nI i))] [] := by
  intro fuel
  induction fuel with
  | zero => intros; rename_i hm; exact absurd hm (Nat.not_lt_zero _)
  | succ fuel ih =>
    intro a w1 b1 i L1 τ h1 hok1 hi hm
    have hPP := hP
    unfold OKP at hPP
    have ga0 := hi.2.2
    refine m_iload F rfl e_X10_peak_40 ?_
    refine m_bipush F (v := 72) (by decide) e_X10_peak_42 ?_
    refine m_icmp_ge F e_X10_peak_44 (fun q44 => ?_) (fun q44 => ?_)
    · have c44 : i ≥ 72 := (nI_leI (a := 72) (b := i) (by omega) (by omega)).mp q44
      refine m_aload_n F rfl e_X10_peak_105 ?_
      refine r_callV F e_X10_peak_106 (q_X10_back1 (x_l X) V c T Z u h P L1 _ _ L h1.1 (hok1.b) hP ga0) cb_X10_back1 ml_X10_332 im_X10_back1 se_X10_back1 h1 rfl rfl (rest := []) rfl (Nat.le_of_ble_eq_true rfl) ⟨Nat.le_of_ble_eq_true rfl, Nat.le_of_ble_eq_true rfl⟩ ⟨Nat.le_of_ble_eq_true rfl, Nat.le_of_ble_eq_true rfl⟩ (fun r σ6188 hp => ?_)
      obtain ⟨h6189, rfl⟩ := hp
      have h6190 := HS.trans h1 h6189 (by decide)
      have ga6191 := ga0.of (h6189.2 (c + 17) (by rw [kC_at (k := 17) (by decide)]; decide))
      refine m_iload F rfl e_X10_peak_109 ?_
      refine m_bipush F (v := (-2)) (by decide) e_X10_peak_111 ?_
      refine m_icmp_eq F e_X10_peak_113 (fun q113 => ?_) (fun q113 => ?_)
      · subst q113
        refine m_iload F rfl e_X10_peak_120 ?_
        refine m_i2l F e_X10_peak_122 ?_
        refine Wm.toplE (w := (-2)) (by decide) ?_
        refine m_goto F e_X10_peak_123 ?_
        exact m_lret F hQ e_X10_peak_127 (⟨h6190, _, rfl⟩)
      · refine m_iload_n F rfl e_X10_peak_116 ?_
        refine m_if_ne F e_X10_peak_117 (fun q117 => ?_) (fun q117 => ?_)
        · have c117 : a ≠ 0 := by have hh := mt (nI_eq (a := a) (b := 0) (by omega) (by omega)).mpr q117; omega
          refine m_lload_n F rfl e_X10_peak_126 ?_
          exact m_lret F hQ e_X10_peak_127 (⟨h6190, _, rfl⟩)
        · have c117 : a = 0 := (nI_eq (a := a) (b := 0) (by omega) (by omega)).mp q117
          refine m_iload F rfl e_X10_peak_120 ?_
          refine m_i2l F e_X10_peak_122 ?_
          refine Wm.topl (fun x6192 _ => ?_)
          refine m_goto F e_X10_peak_123 ?_
          exact m_lret F hQ e_X10_peak_127 (⟨h6190, _, rfl⟩)
    · have c44 : i < 72 := by have hh := mt (nI_leI (a := 72) (b := i) (by omega) (by omega)).mpr q44; omega
      refine m_aload_n F rfl e_X10_peak_47 ?_
      refine r_get F e_X10_peak_48 fl_X10_59 h1 rfl (fun v hv f6193 => ?_)
      obtain rfl : v = .ref (c + 16) := hv
      refine m_sipush F (v := 744) (by decide) e_X10_peak_51 ?_
      refine r_sld F (j := 744) e_X10_peak_54 h1 (by decide) (by unfold vp_in; decide) (fun x6194 h6195 f6196 => ?_)
      have hl6197 := hok1.1
      obtain rfl : x6194 = lN (L1 4).1 := EJ_p.mp h6195
      refine m_ldc2 F kc_X10_284 e_X10_peak_55 ?_
      refine m_lcmp F e_X10_peak_58 ?_
      refine m_if_ge F e_X10_peak_59 (fun q59 => ?_) (fun q59 => ?_)
      · have c59 : ((L1 4).1) ≥ 99 := (lN_le (a := 99) (b := ((L1 4).1)) (by omega) (by omega)).mp ((lg_cmp_ge _ _).mp q59)
        refine m_aload_n F rfl e_X10_peak_105 ?_
        refine r_callV F e_X10_peak_106 (q_X10_back1 (x_l X) V c T Z u h P L1 _ _ L h1.1 (hok1.b) hP ga0) cb_X10_back1 ml_X10_332 im_X10_back1 se_X10_back1 h1 rfl rfl (rest := []) rfl (Nat.le_of_ble_eq_true rfl) ⟨Nat.le_of_ble_eq_true rfl, Nat.le_of_ble_eq_true rfl⟩ ⟨Nat.le_of_ble_eq_true rfl, Nat.le_of_ble_eq_true rfl⟩ (fun r σ6198 hp => ?_)
        obtain ⟨h6199, rfl⟩ := hp
        have h6200 := HS.trans h1 h6199 (by decide)
        have ga6201 := ga0.of (h6199.2 (c + 17) (by rw [kC_at (k := 17) (by decide)]; decide))
        refine m_iload F rfl e_X10_peak_109 ?_
        refine m_bipush F (v := (-2)) (by decide) e_X10_peak_111 ?_
        refine m_icmp_eq F e_X10_peak_113 (fun q113 => ?_) (fun q113 => ?_)
        · subst q113
          refine m_iload F rfl e_X10_peak_120 ?_
          refine m_i2l F e_X10_peak_122 ?_
          refine Wm.toplE (w := (-2)) (by decide) ?_
          refine m_goto F e_X10_peak_123 ?_
          exact m_lret F hQ e_X10_peak_127 (⟨h6200, _, rfl⟩)
        · refine m_iload_n F rfl e_X10_peak_116 ?_
          refine m_if_ne F e_X10_peak_117 (fun q117 => ?_) (fun q117 => ?_)
          · have c117 : a ≠ 0 := by have hh := mt (nI_eq (a := a) (b := 0) (by omega) (by omega)).mpr q117; omega
            refine m_lload_n F rfl e_X10_peak_126 ?_
            exact m_lret F hQ e_X10_peak_127 (⟨h6200, _, rfl⟩)
          · have c117 : a = 0 := (nI_eq (a := a) (b := 0) (by omega) (by omega)).mp q117
            refine m_iload F rfl e_X10_peak_120 ?_
            refine m_i2l F e_X10_peak_122 ?_
            refine Wm.topl (fun x6202 _ => ?_)
            refine m_goto F e_X10_peak_123 ?_
            exact m_lret F hQ e_X10_peak_127 (⟨h6200, _, rfl⟩)
      · have c59 : ((L1 4).1) < 99 := by have hh := mt (fun h9 => (lg_cmp_ge (lN ((L1 4).1)) (lN 99)).mpr ((lN_le (a := 99) (b := ((L1 4).1)) (by omega) (by omega)).mpr h9)) q59; omega
        refine m_aload_n F rfl e_X10_peak_62 ?_
        refine r_callV F e_X10_peak_63 (q_X10_paidAll (x_l X) V c T Z u h P L1 _ _  h1.1 (hok1.b) hP ) cb_X10_paidAll ml_X10_343 im_X10_paidAll se_X10_paidAll h1 rfl rfl (rest := []) rfl (Nat.le_of_ble_eq_true rfl) ⟨Nat.le_of_ble_eq_true rfl, Nat.le_of_ble_eq_true rfl⟩ ⟨Nat.le_of_ble_eq_true rfl, Nat.le_of_ble_eq_true rfl⟩ (fun r σ6203 hp => ?_)
        obtain ⟨h6204, x6206, rfl⟩ := hp
        have h6205 := HS.trans h1 h6204 (by decide)
        have ga6207 := ga0.of (h6204.2 (c + 17) (by rw [kC_at (k := 17) (by decide)]; decide))
        refine m_lstore F (lv' := [(6, .long x6206), (0, .ref c), (1, .int (nI a)), (2, .long w1), (4, .int b1), (5, .int (nI i))]) e_X10_peak_66 (by decide) rfl ?_
        refine m_aload_n F rfl e_X10_peak_68 ?_
        refine r_callV F e_X10_peak_69 (q_X10_periodGoes (x_l X) V c T Z u h P L1 _ _  h6205.1 (hok1) hP (by first | omega | assumption | decide)) cb_X10_periodGoes ml_X10_289 im_X10_periodGoes se_X10_periodGoes h6205 rfl rfl (rest := []) rfl (Nat.le_of_ble_eq_true rfl) ⟨Nat.le_of_ble_eq_true rfl, Nat.le_of_ble_eq_true rfl⟩ ⟨Nat.le_of_ble_eq_true rfl, Nat.le_of_ble_eq_true rfl⟩ (fun r σ6208 hp => ?_)
        obtain ⟨L6211, okL6211, r6212, h6209, rfl⟩ := hp
        have h6210 := HS.trans h6205 h6209 (by decide)
        have ga6213 := ga6207.of (h6209.2 (c + 17) (by rw [kC_at (k := 17) (by decide)]; decide))
        refine m_aload_n F rfl e_X10_peak_72 ?_
        refine r_callV F e_X10_peak_73 (q_X10_paidAll (x_l X) V c T Z u h P L6211 _ _  h6210.1 (okL6211.b) hP ) cb_X10_paidAll ml_X10_343 im_X10_paidAll se_X10_paidAll h6210 rfl rfl (rest := []) rfl (Nat.le_of_ble_eq_true rfl) ⟨Nat.le_of_ble_eq_true rfl, Nat.le_of_ble_eq_true rfl⟩ ⟨Nat.le_of_ble_eq_true rfl, Nat.le_of_ble_eq_true rfl⟩ (fun r σ6214 hp => ?_)
        obtain ⟨h6215, x6217, rfl⟩ := hp
        have h6216 := HS.trans h6210 h6215 (by decide)
        have ga6218 := ga6213.of (h6215.2 (c + 17) (by rw [kC_at (k := 17) (by decide)]; decide))
        refine m_lload F rfl e_X10_peak_76 ?_
        refine m_lsub F e_X10_peak_78 ?_
        refine Wm.topl (fun x6219 _ => ?_)
        refine m_lload_n F rfl e_X10_peak_79 ?_
        refine m_lcmp F e_X10_peak_80 ?_
        refine Wm.top (fun x6220 _ => ?_)
        refine m_if_gt F e_X10_peak_81 (fun q81 => ?_) (fun q81 => ?_)
        · obtain ⟨n6221, hn6221, rfl⟩ := nI_nn (x := x6220) (fun e => Int32.lt_irrefl (Int32.lt_trans e (Int32.lt_of_le_of_lt (by decide) q81)))
          have c81 : n6221 > 0 := (nI_ltI (a := 0) (b := n6221) (by omega) (by omega)).mp q81
          refine m_aload_n F rfl e_X10_peak_87 ?_
          refine r_callV F e_X10_peak_88 (q_X10_paidAll (x_l X) V c T Z u h P L6211 _ _  h6216.1 (okL6211.b) hP ) cb_X10_paidAll ml_X10_343 im_X10_paidAll se_X10_paidAll h6216 rfl rfl (rest := []) rfl (Nat.le_of_ble_eq_true rfl) ⟨Nat.le_of_ble_eq_true rfl, Nat.le_of_ble_eq_true rfl⟩ ⟨Nat.le_of_ble_eq_true rfl, Nat.le_of_ble_eq_true rfl⟩ (fun r σ6222 hp => ?_)
          obtain ⟨h6223, x6225, rfl⟩ := hp
          have h6224 := HS.trans h6216 h6223 (by decide)
          have ga6226 := ga6218.of (h6223.2 (c + 17) (by rw [kC_at (k := 17) (by decide)]; decide))
          refine m_lload F rfl e_X10_peak_91 ?_
          refine m_lsub F e_X10_peak_93 ?_
          refine Wm.topl (fun x6227 _ => ?_)
          refine m_lstore_n F (lv' := [(2, .long x6227), (6, .long x6206), (0, .ref c), (1, .int (nI a)), (4, .int b1), (5, .int (nI i))]) e_X10_peak_94 (by decide) rfl ?_
          refine m_iload F rfl e_X10_peak_95 ?_
          refine m_istore F (lv' := [(4, .int (nI i)), (2, .long x6227), (6, .long x6206), (0, .ref c), (1, .int (nI a)), (5, .int (nI i))]) e_X10_peak_97 (by decide) rfl ?_
          refine m_iinc F (v := nI (i + 1)) (lv' := [(5, .int (nI (i + 1))), (4, .int (nI i)), (2, .long x6227), (6, .long x6206), (0, .ref c), (1, .int (nI a))]) e_X10_peak_99 rfl (nI_add i 1) (by decide) rfl ?_
          refine m_goto F e_X10_peak_102 ?_
          refine Wm.lvsub (lv' := [(0, .ref c), (1, .int (nI a)), (2, .long x6227), (4, .int (nI i)), (5, .int (nI (i + 1)))]) ?_ [4, 5, 2, 1, 0] rfl
          exact ih a x6227 (nI i) (i + 1) L6211 _ h6224 okL6211 ⟨by omega, by omega, by assumption⟩ (by omega)
        · refine m_goto F e_X10_peak_84 ?_
          refine m_iinc F (v := nI (i + 1)) (lv' := [(5, .int (nI (i + 1))), (6, .long x6206), (0, .ref c), (1, .int (nI a)), (2, .long w1), (4, .int b1)]) e_X10_peak_99 rfl (nI_add i 1) (by decide) rfl ?_
          refine m_goto F e_X10_peak_102 ?_
          refine Wm.lvsub (lv' := [(0, .ref c), (1, .int (nI a)), (2, .long w1), (4, .int b1), (5, .int (nI (i + 1)))]) ?_ [2, 3, 4, 5, 0] rfl
          exact ih a w1 b1 (i + 1) L6211 _ h6216 okL6211 ⟨by omega, by omega, by assumption⟩ (by omega)
set_option maxRecDepth 20000 in
theorem q_X10_peak (l : Launch) (V : VX) (c T Z u h : Nat) (P : NP) (L : Nat → LQ) (N : Nat) (σ : Mem) (x901 : Int32) (h0 : HR V c ⟨T, Z, u, h, P, L⟩ σ) (hok : OKL P.n0 L) (hP : OKP P)  : Ct l V yX10_peak cX10_peak 8 (some .long) 4 0 0 N σ [.ref c, .int x901] (fun r τ => HS V c (⟨T, Z, u, h, P, L⟩ : RG) [0, 2, 3, 4, 5, 6, 7, 8, 9, 10, 11, 12, 13, 14, 15, 16, 19, 20, 21, 22] σ τ ∧ ∃ x : Int64, r = some (.long x)) := by
  refine Ct.of (by decide) (Nat.le_of_ble_eq_true rfl) [(0, .ref c), (1, .int x901)] rfl (fun X hX F hQ => ?_)
  have hPP := hP
  unfold OKP at hPP
  have h1 : HS V c ⟨T, Z, u, h, P, L⟩ [0, 2, 3, 4, 5, 6, 7, 8, 9, 10, 11, 12, 13, 14, 15, 16, 19, 20, 21, 22] σ σ := HS.start h0
  refine m_aload_n F rfl e_X10_peak_0 ?_
  refine m_iconst F (v := 0) (by decide) e_X10_peak_1 ?_
  refine r_put F (g' := (⟨T, Z, u, h, P, L⟩ : RG)) e_X10_peak_2 fp_X10_91 h1 (by decide) ⟨_, rfl⟩ (fun _ _ _ _ q => q) (fun _ _ _ q => q) rfl rfl (by decide) (fun σ6228 h6229 g6230 g6231 f6232 => ?_)
  refine m_iload_n F rfl e_X10_peak_5 ?_
  refine m_if_lt F e_X10_peak_6 (fun q6 => ?_) (fun q6 => ?_)
  · refine m_ldc2 F kc_X10_245 e_X10_peak_14 ?_
    exact m_lret F hQ e_X10_peak_17 (⟨h6229, _, rfl⟩)
  · obtain ⟨n6233, hn6233, rfl⟩ := nI_nn (x := x901) (fun e => q6 (Int32.lt_of_lt_of_le e (by decide)))
    have c6 : n6233 ≥ 0 := by have hh := mt (nI_ltI (a := n6233) (b := 0) (by omega) (by omega)).mpr q6; omega
    refine m_iload_n F rfl e_X10_peak_9 ?_
    refine m_iconst F (v := 1) (by decide) e_X10_peak_10 ?_
    refine m_icmp_le F e_X10_peak_11 (fun q11 => ?_) (fun q11 => ?_)
    · have c11 : n6233 ≤ 1 := (nI_leI (a := n6233) (b := 1) (by omega) (by omega)).mp q11
      refine m_aload_n F rfl e_X10_peak_18 ?_
      refine r_get F e_X10_peak_19 fl_X10_59 h6229 rfl (fun v hv f6234 => ?_)
      obtain rfl : v = .ref (c + 16) := hv
      refine m_iconst F (v := 0) (by decide) e_X10_peak_22 ?_
      refine m_aload_n F rfl e_X10_peak_23 ?_
      refine r_get F e_X10_peak_24 fl_X10_63 h6229 rfl (fun v hv f6235 => ?_)
      obtain rfl : v = .ref (c + 17) := hv
      refine m_iconst F (v := 0) (by decide) e_X10_peak_27 ?_
      obtain ⟨f6236, e6237, te6237⟩ : ∃ f, σ6228 (c + 16) = some (aJ V 1113 f) ∧ ∀ i, i < 1113 → EJ L i (f i) := h6229.1.cell (k := 16) (by decide)
      obtain ⟨g6238, e6239⟩ : ∃ f, σ6228 (c + 17) = some (aJ V 1113 f) := h6229.1.cell (k := 17) (by decide)
      refine m_callS F e_X10_peak_28 (q_copies (x_l X) V _ _ (c + 16) (c + 17) 1113 1113 0 0 f6236 g6238 e6237 e6239 (by omega) (by omega) (by omega) (by omega)) cb_X10_copies ml_X10_230 sm_X10_copies rfl (rest := []) rfl (Nat.le_of_ble_eq_true rfl) ⟨Nat.le_of_ble_eq_true rfl, Nat.le_of_ble_eq_true rfl⟩ ⟨Nat.le_of_ble_eq_true rfl, Nat.le_of_ble_eq_true rfl⟩ (k' := 0) (z' := 0) (N' := N) rfl rfl rfl (fun r σ6240 hp => ?_)
      obtain ⟨p6241, rfl⟩ := hp
      have h6242 := HS.cp (k := 17) (g' := (⟨T, Z, u, h, P, L⟩ : RG)) h6229 p6241 (by decide) (by decide) ⟨_, rfl⟩ (fun _ _ _ q => q)
      have ga6243 : GB V c 17 1113 0 L σ6240 := ⟨_, p6241.1, fun i hi => by rw [show 0 + i = i from Nat.zero_add i, cpy_at0 hi, Nat.zero_add]; exact te6237 i hi⟩
      refine m_lconst F (v := 0) (by decide) e_X10_peak_31 ?_
      refine m_lstore_n F (lv' := [(2, .long 0), (0, .ref c), (1, .int (nI n6233))]) e_X10_peak_32 (by decide) rfl ?_
      refine m_bipush F (v := (-2)) (by decide) e_X10_peak_33 ?_
      refine m_istore F (lv' := [(4, .int (-2)), (2, .long 0), (0, .ref c), (1, .int (nI n6233))]) e_X10_peak_35 (by decide) rfl ?_
      refine m_iconst F (v := 0) (by decide) e_X10_peak_37 ?_
      refine m_istore F (lv' := [(5, .int 0), (4, .int (-2)), (2, .long 0), (0, .ref c), (1, .int (nI n6233))]) e_X10_peak_38 (by decide) rfl ?_
      refine Wm.lvsub (lv' := [(0, .ref c), (1, .int (nI n6233)), (2, .long 0), (4, .int (-2)), (5, .int 0)]) ?_ [3, 4, 2, 1, 0] rfl
      exact lq_X10_peak_40 F hQ hok hP  (72 - 0 + 1) n6233 0 (-2) 0 L _ h6242 hok ⟨by omega, by omega, by assumption⟩ (Nat.lt_succ_self _)
    · have c11 : n6233 > 1 := by have hh := mt (nI_leI (a := n6233) (b := 1) (by omega) (by omega)).mpr q11; omega
      refine m_ldc2 F kc_X10_245 e_X10_peak_14 ?_
      exact m_lret F hQ e_X10_peak_17 (⟨h6229, _, rfl⟩)
