theorem nI_nn {x : Int32} (h : ¬ x < 0) : ∃ n : Nat, n < 2147483648 ∧ x = nI n := by
  rcases pk_ix x (n := 2147483647) (by decide) with h1 | h1 | ⟨j, h1, h2⟩
  · exact absurd h1 h
  · have h2 : (nI 2147483647).toInt ≤ x.toInt := Int32.le_iff_toInt_le.mp h1
    have h3 : x.toInt ≤ 2147483647 := by have := Int32.toInt_lt x; omega
    have h4 : (nI 2147483647).toInt = 2147483647 := by decide
    exact ⟨2147483647, by decide, Int32.toInt_inj.mp (by omega)⟩
  · exact ⟨j, by omega, h2⟩
theorem nz1 {n : Nat} (h : n ≤ 1) : narrow .boolean (.int (nI n)) = .int (nI n) := by
  rcases (show n = 0 ∨ n = 1 by omega) with rfl | rfl <;> decide
theorem fz1 {n : Nat} (h : n ≤ 1) : fits .boolean (.int (nI n)) = true := by
  rcases (show n = 0 ∨ n = 1 by omega) with rfl | rfl <;> decide
theorem nI_dec {n : Nat} (h : 0 < n) : nI n + (-1) = nI (n - 1) := by
  obtain ⟨m, rfl⟩ : ∃ m, n = m + 1 := ⟨n - 1, by omega⟩
  exact pk_m1 m
theorem minN {a b : Nat} (ha : a < 2 ^ 31) (hb : b < 2 ^ 31) : (if nI b < nI a then nI b else nI a) = nI (min a b) := by
  by_cases h : b < a
  · rw [if_pos ((nI_ltI hb ha).mpr h), Nat.min_eq_right (Nat.le_of_lt h)]
  · rw [if_neg (fun q => h ((nI_ltI hb ha).mp q)), Nat.min_eq_left (Nat.le_of_not_lt h)]
theorem clampF (x : Int32) : ∃ m : Nat, m ≤ 72 ∧ (if (0 : Int32) < (if (72 : Int32) < x then 72 else x) then (if (72 : Int32) < x then 72 else x) else 0) = nI m := by
  by_cases h : (72 : Int32) < x
  · rw [if_pos h]; exact ⟨72, by decide, by decide⟩
  · rw [if_neg h]
    by_cases h0 : (0 : Int32) < x
    · rw [if_pos h0]
      exact nI_of2 (x := x) (M := 72) (n := 72) (by decide) (fun e => Int32.lt_irrefl (Int32.lt_trans e h0)) (Int32.not_lt.mp h)
    · rw [if_neg h0]; exact ⟨0, by decide, by decide⟩
theorem clampN {n : Nat} (hn : n < 2 ^ 31) (x : Int32) : ∃ m : Nat, m ≤ n ∧ (if (0 : Int32) < (if x < nI n then x else nI n) then (if x < nI n then x else nI n) else 0) = nI m := by
  by_cases h : x < nI n
  · rw [if_pos h]
    by_cases h0 : (0 : Int32) < x
    · rw [if_pos h0]
      obtain ⟨j, h1, h2⟩ := nI_nn (x := x) (fun e => Int32.lt_irrefl (Int32.lt_trans e h0))
      subst h2
      exact ⟨j, Nat.le_of_lt ((nI_ltI (by omega) hn).mp h), rfl⟩
    · rw [if_neg h0]; exact ⟨0, by omega, rfl⟩
  · rw [if_neg h]
    by_cases h0 : (0 : Int32) < nI n
    · rw [if_pos h0]; exact ⟨n, Nat.le_refl _, rfl⟩
    · rw [if_neg h0]; exact ⟨0, by omega, rfl⟩
theorem inc_lt {i w : Int32} (h : i < w) : (i + 1).toInt = i.toInt + 1 := by
  have h1 := Int32.lt_iff_toInt_lt.mp h
  have h2 := Int32.toInt_lt w
  have h3 := Int32.le_toInt i
  rw [Int32.toInt_add]
  have h4 : (1 : Int32).toInt = 1 := by decide
  rw [h4]
  exact Int.bmod_eq_of_le_mul_two (by omega) (by omega)
theorem inc_le {i w : Int32} (h : ¬ w < i) (hw : w.toInt < 1000) : (i + 1).toInt = i.toInt + 1 ∧ i.toInt < 1000 := by
  have h1 := Int32.le_iff_toInt_le.mp (Int32.not_lt.mp h)
  have h2 : i < 1000 := Int32.lt_iff_toInt_lt.mpr (by
    have h3 : (1000 : Int32).toInt = 1000 := by decide
    omega)
  exact ⟨inc_lt h2, by omega⟩
theorem nI_ti {n : Nat} (h : n < 2147483648) : (nI n).toInt = (n : Int) := Int32.toInt_ofNat_of_lt h
theorem nI_0le {n : Nat} (h : n < 2147483648) : (0 : Int32) ≤ nI n := by
  have h1 : (0 : Int32).toInt = 0 := by decide
  have h2 := nI_ti h
  exact Int32.le_iff_toInt_le.mpr (by omega)
theorem mdec0 {fuel : Nat} (h : ((nI 0).toInt + 1).toNat < fuel + 1) : ((-1 : Int32).toInt + 1).toNat < fuel := by
  have h8 : ((nI 0).toInt + 1).toNat = 1 := by decide
  have h9 : ((-1 : Int32).toInt + 1).toNat = 0 := by decide
  omega
theorem mdec {fuel n : Nat} (hn : n < 2147483648) (h0 : 0 < n) (h : ((nI n).toInt + 1).toNat < fuel + 1) : ((nI (n - 1)).toInt + 1).toNat < fuel := by
  rw [nI_ti hn] at h
  rw [nI_ti (by omega)]
  omega
/-! heap typing of the class: every cell by its kind; PE = (where the ledger lies, a bound of Journal.total and Reader.next, 0 if Reader.fault isn't 0, tapeSize) -/
abbrev PE : Type := Nat × Nat × Nat × Nat
def kl (r : Nat) : Nat := if r = 0 then 15 else if r = 1 then 6 else if r = 2 then 6 else if r = 3 then 16 else if r = 6 then 6 else if r = 7 then 16 else if r = 10 then 6 else if r = 11 then 18 else 17
def kb (r : Nat) : Nat := if r = 0 then 7 else if r = 1 then 8 else if r = 2 then 9 else if r = 3 then 10 else if r = 4 then 11 else if r = 5 then 12 else if r = 6 then 13 else if r = 7 then 14 else if r < 11 then 6 else if r < 59 then kl ((r - 11) % 12) else if r < 63 then 19 else 0
def kd (o : Nat) : Nat := if o = 0 then 1 else if o = 1 then 2 else if o < 128 then kb ((o - 2) % 63) else if o = 128 then 3 else if o = 129 then 4 else if o < 193 then kb (o - 130) else if o = 193 then 5 else if o < 197 then 6 else if o < 1457 then kb ((o - 197) % 63) else 0
def kA (b a : Nat) : Nat := if a < b then 0 else kd (a - b)
def TyV (E : PE) (a : Nat) (t : Nat × Nat) (v : Value) : Prop := match t.1 with
  | 0 => ∃ x : Int32, v = .int x
  | 1 => ∃ n : Nat, n ≤ t.2 ∧ v = .int (nI n)
  | 2 => ∃ x : Int64, v = .long x
  | 3 => ∃ r : Nat, kA E.1 r = t.2 ∧ v = .ref r
  | 4 => ∃ n : Nat, n ≤ E.2.1 ∧ v = .int (nI n)
  | 5 => ∃ x : Int32, (E.2.2.1 = 0 → x ≠ 0) ∧ v = .int x
  | 6 => v = .int (nI E.2.2.2)
  | _ => v = .ref (a + t.2)
def TyL (E : PE) (a : Nat) (tys : List (Nat × Nat)) (fs : List Value) : Prop := fs.length = tys.length ∧ ∀ (j : Nat) (t : Nat × Nat), tys[j]? = some t → ∃ v, fs[j]? = some v ∧ TyV E a t v
abbrev oL1 : List (Nat × Nat) := [(3, 2), (6, 0), (3, 7), (3, 7), (3, 3), (3, 7), (1, 1), (3, 5), (1, 19), (1, 20), (3, 6), (3, 6), (3, 6)]
abbrev oL3 : List (Nat × Nat) := [(3, 2), (1, 700), (3, 7), (3, 4), (1, 700), (0, 0), (0, 0), (0, 0), (0, 0), (1, 1), (0, 0), (5, 0), (0, 0)]
abbrev oL6 : List (Nat × Nat) := [(2, 0), (2, 0)]
abbrev oL7 : List (Nat × Nat) := [(7, 1), (7, 2), (7, 3), (7, 4), (7, 5), (7, 8), (7, 9), (7, 10), (1, 4), (1, 4), (1, 8), (4, 0), (0, 0)]
abbrev oL12 : List (Nat × Nat) := [(3, 13), (3, 14), (4, 0)]
abbrev oL15 : List (Nat × Nat) := [(0, 0), (0, 0), (0, 0), (0, 0), (0, 0), (0, 0), (0, 0), (0, 0), (0, 0), (0, 0), (1, 1), (1, 1), (1, 1), (3, 6), (3, 6), (3, 16), (3, 16), (3, 18)]
abbrev oL16 : List (Nat × Nat) := [(3, 17), (3, 17), (3, 6)]
abbrev oL19 : List (Nat × Nat) := [(1, 3), (1, 24), (0, 0), (1, 1)]
def CellTy (V : VX) (E : PE) (a k : Nat) (c : Option va_E) : Prop := match k with
  | 0 => True
  | 1 => ∃ fs, c = some (ob 7 fs) ∧ TyL E a oL1 fs
  | 2 => ∃ f, c = some (aB V 700 f)
  | 3 => ∃ fs, c = some (ob 5 fs) ∧ TyL E a oL3 fs
  | 4 => ∃ f, c = some (aI V 4 f)
  | 5 => ∃ f, c = some (aR 6 V 20 f) ∧ ∀ j, j < 20 → ∃ r, kA E.1 r = 7 ∧ f j = some r
  | 6 => ∃ fs, c = some (ob 0 fs) ∧ TyL E a oL6 fs
  | 7 => ∃ fs, c = some (ob 1 fs) ∧ TyL E a oL7 fs
  | 8 => ∃ f, c = some (aR 4 V 4 f) ∧ ∀ j, j < 4 → f j = some (a + 10 + 12 * j)
  | 9 => ∃ f, c = some (aR 5 V 4 f) ∧ ∀ j, j < 4 → f j = some (a + 57 + j)
  | 10 => ∃ f, c = some (aI V 100 f)
  | 11 => ∃ f, c = some (aI V 8 f)
  | 12 => ∃ fs, c = some (ob 2 fs) ∧ TyL E a oL12 fs
  | 13 => ∃ f, c = some (aJ V 360 f)
  | 14 => ∃ f, c = some (aJ V 6 f)
  | 15 => ∃ fs, c = some (ob 3 fs) ∧ TyL E a oL15 fs
  | 16 => ∃ fs, c = some (ob 6 fs) ∧ TyL E a oL16 fs
  | 17 => ∃ f, c = some (aJ V 72 f)
  | 18 => ∃ f, c = some (aJ V 5 f)
  | 19 => ∃ fs, c = some (ob 4 fs) ∧ TyL E a oL19 fs
  | _ => True
def HT (V : VX) (E : PE) (σ : Mem) : Prop := ∀ a, CellTy V E a (kA E.1 a) (σ a)
theorem TyL.set {E : PE} {a : Nat} {tys : List (Nat × Nat)} {fs : List Value} (h : TyL E a tys fs) {j : Nat} {t : Nat × Nat} {v : Value} (hj : tys[j]? = some t) (hv : TyV E a t v) : TyL E a tys (fs.set j v) := by
  refine ⟨by rw [List.length_set]; exact h.1, fun i u hu => ?_⟩
  by_cases hij : j = i
  · subst hij
    rw [hj] at hu
    cases hu
    have hl : j < fs.length := by rw [h.1]; exact (List.getElem?_eq_some_iff.mp hj).1
    exact ⟨v, by rw [List.getElem?_set_self hl], hv⟩
  · obtain ⟨w, h1, h2⟩ := h.2 i u hu
    exact ⟨w, by rw [List.getElem?_set_ne hij]; exact h1, h2⟩
theorem TyL.to {E E' : PE} {a : Nat} {tys : List (Nat × Nat)} {fs : List Value} (h : TyL E a tys fs) (hv : ∀ t ∈ tys, ∀ v, TyV E a t v → TyV E' a t v) : TyL E' a tys fs :=
  ⟨h.1, fun j t ht => by
    obtain ⟨v, h1, h2⟩ := h.2 j t ht
    exact ⟨v, h1, hv t (List.mem_of_getElem? ht) v h2⟩⟩
theorem HT.up {V : VX} {E : PE} {σ : Mem} (h : HT V E σ) {a : Nat} {e : va_E} (hc : CellTy V E a (kA E.1 a) (some e)) : HT V E (va_up σ a (some e)) := by
  intro q
  by_cases hq : q = a
  · subst hq; rw [va_up_self]; exact hc
  · rw [va_up_ne _ _ hq]; exact h q
theorem CellTy.to {V : VX} {E E' : PE} {a k : Nat} {c : Option va_E} (hb : E.1 = E'.1) (h1 : k = 1 → ∀ t ∈ oL1, ∀ v, TyV E a t v → TyV E' a t v) (h3 : k = 3 → ∀ t ∈ oL3, ∀ v, TyV E a t v → TyV E' a t v) (hv : ∀ t : Nat × Nat, (t.1 < 5 ∨ t.1 = 7) → ∀ v, TyV E a t v → TyV E' a t v) (h : CellTy V E a k c) : CellTy V E' a k c := by
  unfold CellTy at h ⊢
  split at h
  · trivial
  · obtain ⟨fs, e, q⟩ := h; exact ⟨fs, e, q.to (h1 rfl)⟩
  · exact h
  · obtain ⟨fs, e, q⟩ := h; exact ⟨fs, e, q.to (h3 rfl)⟩
  · exact h
  · rw [← hb]; exact h
  · obtain ⟨fs, e, q⟩ := h; exact ⟨fs, e, q.to (fun t ht v => hv t (by revert t; decide) v)⟩
  · obtain ⟨fs, e, q⟩ := h; exact ⟨fs, e, q.to (fun t ht v => hv t (by revert t; decide) v)⟩
  · exact h
  · exact h
  · exact h
  · exact h
  · obtain ⟨fs, e, q⟩ := h; exact ⟨fs, e, q.to (fun t ht v => hv t (by revert t; decide) v)⟩
  · exact h
  · exact h
  · obtain ⟨fs, e, q⟩ := h; exact ⟨fs, e, q.to (fun t ht v => hv t (by revert t; decide) v)⟩
  · obtain ⟨fs, e, q⟩ := h; exact ⟨fs, e, q.to (fun t ht v => hv t (by revert t; decide) v)⟩
  · exact h
  · exact h
  · obtain ⟨fs, e, q⟩ := h; exact ⟨fs, e, q.to (fun t ht v => hv t (by revert t; decide) v)⟩
  · trivial
theorem tyv_M {b M M' Z Z' T a : Nat} (hM : M ≤ M') (hZ : Z' = 0 → Z = 0) {t : Nat × Nat} {v : Value} (h : TyV (b, M, Z, T) a t v) : TyV (b, M', Z', T) a t v := by
  obtain ⟨c, w⟩ := t
  match c with
  | 0 => exact h
  | 1 => exact h
  | 2 => exact h
  | 3 => exact h
  | 4 =>
    obtain ⟨n, h1, h2⟩ := h
    exact ⟨n, Nat.le_trans h1 hM, h2⟩
  | 5 =>
    obtain ⟨x, h1, h2⟩ := h
    exact ⟨x, fun q => h1 (hZ q), h2⟩
  | 6 => exact h
  | c + 7 => exact h
theorem HT.mono {V : VX} {b M M' Z Z' T : Nat} {σ : Mem} (h : HT V (b, M, Z, T) σ) (hM : M ≤ M') (hZ : Z' = 0 → Z = 0) : HT V (b, M', Z', T) σ :=
  fun a => CellTy.to (E := (b, M, Z, T)) (E' := (b, M', Z', T)) rfl (fun _ _ _ _ q => tyv_M hM hZ q) (fun _ _ _ _ q => tyv_M hM hZ q) (fun _ _ _ q => tyv_M hM hZ q) (h a)
theorem kd_big {o : Nat} (h : 1457 ≤ o) : kd o = 0 := by
  unfold kd
  rw [if_neg (by omega), if_neg (by omega), if_neg (by omega), if_neg (by omega), if_neg (by omega), if_neg (by omega), if_neg (by omega), if_neg (by omega), if_neg (by omega)]
theorem kd_one : ∀ o, o < 1457 → (kd o = 1 → o = 0) ∧ (kd o = 3 → o = 128) := by decide +kernel
theorem kA_1 {b a : Nat} (h : kA b a = 1) : a = b := by
  unfold kA at h
  split at h
  · cases h
  · by_cases ho : a - b < 1457
    · have := (kd_one _ ho).1 h; omega
    · rw [kd_big (by omega)] at h; cases h
theorem kA_3 {b a : Nat} (h : kA b a = 3) : a = b + 128 := by
  unfold kA at h
  split at h
  · cases h
  · by_cases ho : a - b < 1457
    · have := (kd_one _ ho).2 h; omega
    · rw [kd_big (by omega)] at h; cases h
def fld (σ : Mem) (a j : Nat) : Option Value := match σ a with
  | some (.inr o) => o.2[j]?
  | _ => none
theorem fld_eq {σ τ : Mem} {a j : Nat} (h : τ a = σ a) : fld τ a j = fld σ a j := by unfold fld; rw [h]
theorem fld_ob {σ : Mem} {a j ci : Nat} {fs : List Value} {v : Value} (h : σ a = some (ob ci fs)) (hf : fld σ a j = some v) : fs[j]? = some v := by
  unfold fld at hf; rw [h] at hf; exact hf
theorem fld_of {σ : Mem} {a j ci : Nat} {fs : List Value} {v : Value} (h : σ a = some (ob ci fs)) (hf : fs[j]? = some v) : fld σ a j = some v := by
  unfold fld; rw [h]; exact hf
def HK (V : VX) (E : PE) (ks : List Nat) (σ0 σ : Mem) : Prop := HT V E σ ∧ ∀ a, kA E.1 a ∈ ks → σ a = σ0 a
theorem HK.start {V : VX} {E : PE} {ks : List Nat} {σ : Mem} (h : HT V E σ) : HK V E ks σ σ := ⟨h, fun _ _ => rfl⟩
theorem HK.trans {V : VX} {b M Z T M' Z' T' : Nat} {ks ks' : List Nat} {σ0 σ τ : Mem} (h : HK V (b, M, Z, T) ks σ0 σ) (h' : HK V (b, M', Z', T') ks' σ τ) (hs : ∀ k ∈ ks, k ∈ ks') : HK V (b, M', Z', T') ks σ0 τ := ⟨h'.1, fun a ha => (h'.2 a (hs _ ha)).trans (h.2 a ha)⟩
theorem HK.sub {V : VX} {E : PE} {ks ks' : List Nat} {σ0 σ : Mem} (h : HK V E ks σ0 σ) (hs : ∀ k ∈ ks', k ∈ ks) : HK V E ks' σ0 σ := ⟨h.1, fun a ha => h.2 a (hs _ ha)⟩
theorem HK.mono {V : VX} {b M M' Z Z' T : Nat} {ks : List Nat} {σ0 σ : Mem} (h : HK V (b, M, Z, T) ks σ0 σ) (hM : M ≤ M') (hZ : Z' = 0 → Z = 0) : HK V (b, M', Z', T) ks σ0 σ := ⟨h.1.mono hM hZ, h.2⟩
theorem HK.up {V : VX} {E : PE} {ks : List Nat} {σ0 σ : Mem} (h : HK V E ks σ0 σ) {a : Nat} {e : va_E} (hc : CellTy V E a (kA E.1 a) (some e)) (hq : kA E.1 a ∉ ks) : HK V E ks σ0 (va_up σ a (some e)) :=
  ⟨h.1.up hc, fun x hx => (va_up_ne _ _ (fun q => hq (by rw [← q]; exact hx))).trans (h.2 x hx)⟩
theorem HK.f {V : VX} {E : PE} {ks : List Nat} {σ0 σ : Mem} (h : HK V E ks σ0 σ) {a j q ci : Nat} {tys : List (Nat × Nat)} {t : Nat × Nat} (hC : ∀ c, CellTy V E a q c ↔ ∃ fs, c = some (ob ci fs) ∧ TyL E a tys fs) (hk : kA E.1 a = q) (hj : tys[j]? = some t) : ∃ v, TyV E a t v ∧ fld σ a j = some v := by
  have h1 := h.1 a
  rw [hk] at h1
  obtain ⟨fs, h2, h3⟩ := (hC _).mp h1
  obtain ⟨v, h4, h5⟩ := h3.2 j t hj
  exact ⟨v, h5, fld_of h2 h4⟩
theorem kne {b a c q : Nat} (h : kA b c = q) (h' : kA b a ≠ q) : a ≠ c := fun e => h' (by rw [e]; exact h)
theorem tyvZ {b M Z Z' T a : Nat} {t : Nat × Nat} (ht : t.1 ≠ 5) {v : Value} (h : TyV (b, M, Z, T) a t v) : TyV (b, M, Z', T) a t v := by
  obtain ⟨c, w⟩ := t
  match c, ht with
  | 0, _ => exact h
  | 1, _ => exact h
  | 2, _ => exact h
  | 3, _ => exact h
  | 4, _ => exact h
  | 5, ht => exact absurd rfl ht
  | 6, _ => exact h
  | c + 7, _ => exact h
theorem tyvT {b M Z T T' a : Nat} {t : Nat × Nat} (ht : t.1 ≠ 6) {v : Value} (h : TyV (b, M, Z, T) a t v) : TyV (b, M, Z, T') a t v := by
  obtain ⟨c, w⟩ := t
  match c, ht with
  | 0, _ => exact h
  | 1, _ => exact h
  | 2, _ => exact h
  | 3, _ => exact h
  | 4, _ => exact h
  | 5, _ => exact h
  | 6, ht => exact absurd rfl ht
  | c + 7, _ => exact h
theorem tyl_swap {E E' : PE} {a : Nat} {tys : List (Nat × Nat)} {fs : List Value} {j0 : Nat} {v : Value} (h : TyL E a tys fs) (ho : ∀ j, j < tys.length → j ≠ j0 → ∀ w, TyV E a (tys.getD j (0, 0)) w → TyV E' a (tys.getD j (0, 0)) w) (hv : TyV E' a (tys.getD j0 (0, 0)) v) (hj0 : j0 < tys.length) : TyL E' a tys (fs.set j0 v) := by
  refine ⟨by rw [List.length_set]; exact h.1, fun i u hu => ?_⟩
  have hu' : tys.getD i (0, 0) = u := by rw [List.getD_eq_getElem?_getD, hu]; rfl
  have hi : i < tys.length := (List.getElem?_eq_some_iff.mp hu).1
  by_cases hij : j0 = i
  · subst hij
    exact ⟨v, by rw [List.getElem?_set_self (by rw [h.1]; exact hj0)], by rw [← hu']; exact hv⟩
  · obtain ⟨w, h1, h2⟩ := h.2 i u hu
    refine ⟨w, by rw [List.getElem?_set_ne hij]; exact h1, ?_⟩
    rw [← hu'] at h2 ⊢
    exact ho i hi (fun e => hij e.symm) w h2
theorem ht_special {V : VX} {b M Z T Z' T' a k0 : Nat} {σ : Mem} {e : va_E} (h : HT V (b, M, Z, T) σ) (hk : kA b a = k0) (hu : ∀ x, kA b x = k0 → x = a) (ho : ∀ x, kA b x ≠ k0 → CellTy V (b, M, Z, T) x (kA b x) (σ x) → CellTy V (b, M, Z', T') x (kA b x) (σ x)) (hn : CellTy V (b, M, Z', T') a k0 (some e)) : HT V (b, M, Z', T') (va_up σ a (some e)) := by
  intro x
  by_cases hx : x = a
  · subst hx
    rw [va_up_self, show kA (b, M, Z', T').1 x = k0 from hk]
    exact hn
  · rw [va_up_ne _ _ hx]
    exact ho x (fun q => hx (hu x q)) (h x)
theorem o1 {V : VX} {E : PE} {a : Nat} {c : Option va_E} : CellTy V E a 1 c ↔ ∃ fs, c = some (ob 7 fs) ∧ TyL E a oL1 fs := Iff.rfl
theorem o3 {V : VX} {E : PE} {a : Nat} {c : Option va_E} : CellTy V E a 3 c ↔ ∃ fs, c = some (ob 5 fs) ∧ TyL E a oL3 fs := Iff.rfl
theorem o6 {V : VX} {E : PE} {a : Nat} {c : Option va_E} : CellTy V E a 6 c ↔ ∃ fs, c = some (ob 0 fs) ∧ TyL E a oL6 fs := Iff.rfl
theorem o7 {V : VX} {E : PE} {a : Nat} {c : Option va_E} : CellTy V E a 7 c ↔ ∃ fs, c = some (ob 1 fs) ∧ TyL E a oL7 fs := Iff.rfl
theorem o12 {V : VX} {E : PE} {a : Nat} {c : Option va_E} : CellTy V E a 12 c ↔ ∃ fs, c = some (ob 2 fs) ∧ TyL E a oL12 fs := Iff.rfl
theorem o15 {V : VX} {E : PE} {a : Nat} {c : Option va_E} : CellTy V E a 15 c ↔ ∃ fs, c = some (ob 3 fs) ∧ TyL E a oL15 fs := Iff.rfl
theorem o16 {V : VX} {E : PE} {a : Nat} {c : Option va_E} : CellTy V E a 16 c ↔ ∃ fs, c = some (ob 6 fs) ∧ TyL E a oL16 fs := Iff.rfl
theorem o19 {V : VX} {E : PE} {a : Nat} {c : Option va_E} : CellTy V E a 19 c ↔ ∃ fs, c = some (ob 4 fs) ∧ TyL E a oL19 fs := Iff.rfl
theorem o2 {V : VX} {E : PE} {a : Nat} {c : Option va_E} : CellTy V E a 2 c ↔ ∃ f, c = some (aB V 700 f) := Iff.rfl
theorem o4 {V : VX} {E : PE} {a : Nat} {c : Option va_E} : CellTy V E a 4 c ↔ ∃ f, c = some (aI V 4 f) := Iff.rfl
theorem o10 {V : VX} {E : PE} {a : Nat} {c : Option va_E} : CellTy V E a 10 c ↔ ∃ f, c = some (aI V 100 f) := Iff.rfl
theorem o11 {V : VX} {E : PE} {a : Nat} {c : Option va_E} : CellTy V E a 11 c ↔ ∃ f, c = some (aI V 8 f) := Iff.rfl
theorem o13 {V : VX} {E : PE} {a : Nat} {c : Option va_E} : CellTy V E a 13 c ↔ ∃ f, c = some (aJ V 360 f) := Iff.rfl
theorem o14 {V : VX} {E : PE} {a : Nat} {c : Option va_E} : CellTy V E a 14 c ↔ ∃ f, c = some (aJ V 6 f) := Iff.rfl
theorem o17 {V : VX} {E : PE} {a : Nat} {c : Option va_E} : CellTy V E a 17 c ↔ ∃ f, c = some (aJ V 72 f) := Iff.rfl
theorem o18 {V : VX} {E : PE} {a : Nat} {c : Option va_E} : CellTy V E a 18 c ↔ ∃ f, c = some (aJ V 5 f) := Iff.rfl
theorem o5 {V : VX} {E : PE} {a : Nat} {c : Option va_E} : CellTy V E a 5 c ↔ ∃ f, c = some (aR 6 V 20 f) ∧ ∀ j, j < 20 → ∃ r, kA E.1 r = 7 ∧ f j = some r := Iff.rfl
theorem o8 {V : VX} {E : PE} {a : Nat} {c : Option va_E} : CellTy V E a 8 c ↔ ∃ f, c = some (aR 4 V 4 f) ∧ ∀ j, j < 4 → f j = some (a + 10 + 12 * j) := Iff.rfl
theorem o9 {V : VX} {E : PE} {a : Nat} {c : Option va_E} : CellTy V E a 9 c ↔ ∃ f, c = some (aR 5 V 4 f) ∧ ∀ j, j < 4 → f j = some (a + 57 + j) := Iff.rfl
theorem HK.z0 {V : VX} {b M Z T : Nat} {ks : List Nat} {σ0 σ : Mem} (h : HK V (b, M, Z, T) ks σ0 σ) {a : Nat} {x : Int32} (hk : kA b a = 3) (hf : fld σ a 11 = some (.int x)) (hx : x ≠ 0) : HK V (b, M, 0, T) ks σ0 σ := by
  refine ⟨fun y => ?_, h.2⟩
  by_cases hy : y = a
  · subst hy
    have h1 := h.1 y
    rw [show kA (b, M, Z, T).1 y = 3 from hk] at h1
    rw [show kA (b, M, 0, T).1 y = 3 from hk]
    obtain ⟨fs, h2, h3⟩ := h1
    have h4 := fld_ob h2 hf
    have h5 : fs.set 11 (.int x) = fs := by
      apply List.ext_getElem?
      intro i
      by_cases hi : 11 = i
      · subst hi
        rw [List.getElem?_set_self (by rw [h3.1]; decide), h4]
      · rw [List.getElem?_set_ne hi]
    refine ⟨fs, h2, ?_⟩
    rw [← h5]
    exact tyl_swap h3 (fun j hj hne w q => tyvZ (by clear q; revert j; decide) q) ⟨x, fun _ => hx, rfl⟩ (by decide)
  · have h3' : kA b y ≠ 3 := fun q => hy ((kA_3 q).trans (kA_3 hk).symm)
    exact CellTy.to (E := (b, M, Z, T)) rfl (fun _ t ht v q => tyvZ (by clear q; revert t; decide) q) (fun e => absurd e h3') (fun t ht v q => tyvZ (by omega) q) (h.1 y)
section TROWS
variable {V : VX} {X : MX} {y : MethodName} {cc : ByteArray} {nL N k z pc n : Nat} {ret : Option FieldType} {R : Room} {σ : Mem} {lv : List (Nat × Value)} {st : List Value} {E : PE} {q : Nat} {ks : List Nat} {σ0 : Mem}
theorem t_get (F : Fx V X y cc nL ret R) {index ci j a : Nat} {tys : List (Nat × Nat)} {t : Nat × Nat} (d : DC cc pc 3 n (.getfield index)) (fl : FL y.cls index ci j) (hC : ∀ c, CellTy V E a q c ↔ ∃ fs, c = some (ob ci fs) ∧ TyL E a tys fs) (h : HK V E ks σ0 σ) (hk : kA E.1 a = q) (hj : tys[j]? = some t) (kk : ∀ v, TyV E a t v → fld σ a j = some v → Wm V X nL N σ k z n lv (v :: st)) : Wm V X nL N σ k z pc lv (.ref a :: st) := by
  have h1 := h.1 a
  rw [hk] at h1
  obtain ⟨fs, h2, h3⟩ := (hC _).mp h1
  obtain ⟨v, h4, h5⟩ := h3.2 j t hj
  exact m_get F d fl h2 h4 (kk v h5 (fld_of h2 h4))
theorem t_put (F : Fx V X y cc nL ret R) {index ci j a : Nat} {tys : List (Nat × Nat)} {t : Nat × Nat} {ty : FieldType} {v : Value} (d : DC cc pc 3 n (.putfield index)) (fp : FP y.cls index ci j false ty) (hC : ∀ c, CellTy V E a q c ↔ ∃ fs, c = some (ob ci fs) ∧ TyL E a tys fs) (h : HK V E ks σ0 σ) (hk : kA E.1 a = q) (hj : tys[j]? = some t) (hv : TyV E a t v) (hn : narrow ty v = v) (hf : fits ty v = true) (hq : q ∉ ks) (kk : ∀ σ' : Mem, HK V E ks σ0 σ' → (∀ x i, kA E.1 x ≠ q → fld σ' x i = fld σ x i) → (∀ i, i ≠ j → fld σ' a i = fld σ a i) → fld σ' a j = some v → Wm V X nL N σ' k z n lv st) : Wm V X nL N σ k z pc lv (v :: .ref a :: st) := by
  have h1 := h.1 a
  rw [hk] at h1
  obtain ⟨fs, h2, h3⟩ := (hC _).mp h1
  refine m_put F d fp h2 hn hf (by rw [h3.1]; exact (List.getElem?_eq_some_iff.mp hj).1) rfl rfl (kk _ (h.up ?_ (by rw [hk]; exact hq)) (fun x i hx => fld_eq (va_up_ne _ _ (kne hk hx))) (fun i hi => ?_) (fld_of (va_up_self _ _ _) (List.getElem?_set_self (by rw [h3.1]; exact (List.getElem?_eq_some_iff.mp hj).1))))
  · rw [hk]
    exact (hC _).mpr ⟨_, rfl, h3.set hj hv⟩
  · unfold fld
    rw [va_up_self, h2]
    show (fs.set j v)[i]? = fs[i]?
    exact List.getElem?_set_ne (fun e => hi e.symm)
theorem t_putF (F : Fx V X y cc nL ret R) {index a b M Z T : Nat} {x : Int32} (d : DC cc pc 3 n (.putfield index)) (fp : FP y.cls index 5 11 false .int) (h : HK V (b, M, Z, T) ks σ0 σ) (hk : kA b a = 3) (hx : x ≠ 0) (hq : 3 ∉ ks) (kk : ∀ σ' : Mem, HK V (b, M, 0, T) ks σ0 σ' → (∀ x i, kA b x ≠ 3 → fld σ' x i = fld σ x i) → (∀ i, i ≠ 11 → fld σ' a i = fld σ a i) → fld σ' a 11 = some (.int x) → Wm V X nL N σ' k z n lv st) : Wm V X nL N σ k z pc lv (.int x :: .ref a :: st) := by
  have h1 := h.1 a
  rw [show kA (b, M, Z, T).1 a = 3 from hk] at h1
  obtain ⟨fs, h2, h3⟩ := h1
  have hH : HT V (b, M, 0, T) (va_up σ a (some (ob 5 (fs.set 11 (.int x))))) := by
    refine ht_special (Z := Z) (T := T) h.1 hk (fun y hy => (kA_3 hy).trans (kA_3 hk).symm) (fun y hy q => ?_) ⟨_, rfl, tyl_swap h3 (fun j hj hne w q => tyvZ (by clear q; revert j; decide) q) ⟨x, fun _ => hx, rfl⟩ (by decide)⟩
    exact CellTy.to (E := (b, M, Z, T)) rfl (fun _ t ht v q => tyvZ (by clear q; revert t; decide) q) (fun e => absurd e hy) (fun t ht v q => tyvZ (by omega) q) q
  refine m_put F d fp h2 rfl rfl (by rw [h3.1]; decide) rfl rfl (kk _ ⟨hH, fun y hy => (va_up_ne _ _ (fun e => hq (by rw [e] at hy; rw [← hk]; exact hy))).trans (h.2 y hy)⟩ (fun y i hy => fld_eq (va_up_ne _ _ (kne hk hy))) (fun i hi => ?_) (fld_of (va_up_self _ _ _) (List.getElem?_set_self (by rw [h3.1]; decide))))
  unfold fld
  rw [va_up_self, h2]
  show (fs.set 11 (.int x))[i]? = fs[i]?
  exact List.getElem?_set_ne (fun e => hi e.symm)
theorem t_putT (F : Fx V X y cc nL ret R) {index a b M Z T T' : Nat} (d : DC cc pc 3 n (.putfield index)) (fp : FP y.cls index 7 1 false .int) (h : HK V (b, M, Z, T) ks σ0 σ) (hk : kA b a = 1) (hq : 1 ∉ ks) (kk : ∀ σ' : Mem, HK V (b, M, Z, T') ks σ0 σ' → (∀ x i, kA b x ≠ 1 → fld σ' x i = fld σ x i) → (∀ i, i ≠ 1 → fld σ' a i = fld σ a i) → fld σ' a 1 = some (.int (nI T')) → Wm V X nL N σ' k z n lv st) : Wm V X nL N σ k z pc lv (.int (nI T') :: .ref a :: st) := by
  have h1 := h.1 a
  rw [show kA (b, M, Z, T).1 a = 1 from hk] at h1
  obtain ⟨fs, h2, h3⟩ := h1
  have hH : HT V (b, M, Z, T') (va_up σ a (some (ob 7 (fs.set 1 (.int (nI T')))))) := by
    refine ht_special (Z := Z) (T := T) h.1 hk (fun y hy => (kA_1 hy).trans (kA_1 hk).symm) (fun y hy q => ?_) ⟨_, rfl, tyl_swap h3 (fun j hj hne w q => tyvT (by clear q; revert j; decide) q) rfl (by decide)⟩
    exact CellTy.to (E := (b, M, Z, T)) rfl (fun e => absurd e hy) (fun _ t ht v q => tyvT (by clear q; revert t; decide) q) (fun t ht v q => tyvT (by omega) q) q
  refine m_put F d fp h2 rfl rfl (by rw [h3.1]; decide) rfl rfl (kk _ ⟨hH, fun y hy => (va_up_ne _ _ (fun e => hq (by rw [e] at hy; rw [← hk]; exact hy))).trans (h.2 y hy)⟩ (fun y i hy => fld_eq (va_up_ne _ _ (kne hk hy))) (fun i hi => ?_) (fld_of (va_up_self _ _ _) (List.getElem?_set_self (by rw [h3.1]; decide))))
  unfold fld
  rw [va_up_self, h2]
  show (fs.set 1 (.int (nI T')))[i]? = fs[i]?
  exact List.getElem?_set_ne (fun e => hi e.symm)
theorem t_getC (F : Fx V X y cc nL ret R) {index ci j a : Nat} {tys : List (Nat × Nat)} {v : Value} (d : DC cc pc 3 n (.getfield index)) (fl : FL y.cls index ci j) (hC : ∀ c, CellTy V E a q c ↔ ∃ fs, c = some (ob ci fs) ∧ TyL E a tys fs) (h : HK V E ks σ0 σ) (hk : kA E.1 a = q) (hf : fld σ a j = some v) (kk : Wm V X nL N σ k z n lv (v :: st)) : Wm V X nL N σ k z pc lv (.ref a :: st) := by
  have h1 := h.1 a
  rw [hk] at h1
  obtain ⟨fs, h2, h3⟩ := (hC _).mp h1
  exact m_get F d fl h2 (fld_ob h2 hf) kk
theorem t_iald (F : Fx V X y cc nL ret R) {a len j : Nat} {i : Int32} (d : DC cc pc 1 n .iaload) (hC : ∀ c, CellTy V E a q c ↔ ∃ f, c = some (aI V len f)) (h : HK V E ks σ0 σ) (hk : kA E.1 a = q) (hj : i.toNatClampNeg = j) (hin : vp_in i len) (kk : ∀ x : Int32, Wm V X nL N σ k z n lv (.int x :: st)) : Wm V X nL N σ k z pc lv (.int i :: .ref a :: st) := by
  have h1 := h.1 a
  rw [hk] at h1
  obtain ⟨f, h2⟩ := (hC _).mp h1
  exact m_iald F d h2 hj hin (kk _)
theorem t_bald (F : Fx V X y cc nL ret R) {a len j : Nat} {i : Int32} (d : DC cc pc 1 n .baload) (hC : ∀ c, CellTy V E a q c ↔ ∃ f, c = some (aB V len f)) (h : HK V E ks σ0 σ) (hk : kA E.1 a = q) (hj : i.toNatClampNeg = j) (hin : vp_in i len) (kk : ∀ x : Int32, Wm V X nL N σ k z n lv (.int x :: st)) : Wm V X nL N σ k z pc lv (.int i :: .ref a :: st) := by
  have h1 := h.1 a
  rw [hk] at h1
  obtain ⟨f, h2⟩ := (hC _).mp h1
  exact m_bald F d h2 hj hin (kk _)
theorem t_lald (F : Fx V X y cc nL ret R) {a len j : Nat} {i : Int32} (d : DC cc pc 1 n .laload) (hC : ∀ c, CellTy V E a q c ↔ ∃ f, c = some (aJ V len f)) (h : HK V E ks σ0 σ) (hk : kA E.1 a = q) (hj : i.toNatClampNeg = j) (hin : vp_in i len) (kk : ∀ x : Int64, Wm V X nL N σ k z n lv (.long x :: st)) : Wm V X nL N σ k z pc lv (.int i :: .ref a :: st) := by
  have h1 := h.1 a
  rw [hk] at h1
  obtain ⟨f, h2⟩ := (hC _).mp h1
  exact m_lald F d h2 hj hin (kk _)
theorem t_aald (F : Fx V X y cc nL ret R) {a len j ti ke : Nat} {C : String} {i : Int32} (d : DC cc pc 1 n .aaload) (hC : ∀ c, CellTy V E a q c ↔ ∃ f, c = some (aR ti V len f) ∧ ∀ j, j < len → ∃ r, kA E.1 r = ke ∧ f j = some r) (ht : (tysOf V.2.1)[ti]? = some (V.2.1 ti, .object C)) (h : HK V E ks σ0 σ) (hk : kA E.1 a = q) (hj : i.toNatClampNeg = j) (hin : vp_in i len) (kk : ∀ r : Nat, kA E.1 r = ke → Wm V X nL N σ k z n lv (.ref r :: st)) : Wm V X nL N σ k z pc lv (.int i :: .ref a :: st) := by
  have h1 := h.1 a
  rw [hk] at h1
  obtain ⟨f, h2, h3⟩ := (hC _).mp h1
  obtain ⟨r, h4, h5⟩ := h3 j (by rw [← hj]; exact Nat.not_le.mp fun w => hin (Or.inr w))
  refine m_aald F d h2 ht hj hin ?_
  rw [h5]
  exact kk r h4
theorem t_iast (F : Fx V X y cc nL ret R) {a len j : Nat} {i x : Int32} (d : DC cc pc 1 n .iastore) (hC : ∀ c, CellTy V E a q c ↔ ∃ f, c = some (aI V len f)) (h : HK V E ks σ0 σ) (hk : kA E.1 a = q) (hj : i.toNatClampNeg = j) (hin : vp_in i len) (hq : q ∉ ks) (kk : ∀ σ' : Mem, HK V E ks σ0 σ' → (∀ x i, kA E.1 x ≠ q → fld σ' x i = fld σ x i) → Wm V X nL N σ' k z n lv st) : Wm V X nL N σ k z pc lv (.int x :: .int i :: .ref a :: st) := by
  have h1 := h.1 a
  rw [hk] at h1
  obtain ⟨f, h2⟩ := (hC _).mp h1
  refine m_iast F d h2 hj hin rfl rfl (kk _ (h.up ?_ (by rw [hk]; exact hq)) (fun x i hx => fld_eq (va_up_ne _ _ (kne hk hx))))
  rw [hk]; exact (hC _).mpr ⟨_, rfl⟩
theorem t_last (F : Fx V X y cc nL ret R) {a len j : Nat} {i : Int32} {x : Int64} (d : DC cc pc 1 n .lastore) (hC : ∀ c, CellTy V E a q c ↔ ∃ f, c = some (aJ V len f)) (h : HK V E ks σ0 σ) (hk : kA E.1 a = q) (hj : i.toNatClampNeg = j) (hin : vp_in i len) (hq : q ∉ ks) (kk : ∀ σ' : Mem, HK V E ks σ0 σ' → (∀ x i, kA E.1 x ≠ q → fld σ' x i = fld σ x i) → Wm V X nL N σ' k z n lv st) : Wm V X nL N σ k z pc lv (.long x :: .int i :: .ref a :: st) := by
  have h1 := h.1 a
  rw [hk] at h1
  obtain ⟨f, h2⟩ := (hC _).mp h1
  refine m_last F d h2 hj hin rfl rfl (kk _ (h.up ?_ (by rw [hk]; exact hq)) (fun x i hx => fld_eq (va_up_ne _ _ (kne hk hx))))
  rw [hk]; exact (hC _).mpr ⟨_, rfl⟩
theorem t_bast (F : Fx V X y cc nL ret R) {a len j : Nat} {i x x' : Int32} (d : DC cc pc 1 n .bastore) (hC : ∀ c, CellTy V E a q c ↔ ∃ f, c = some (aB V len f)) (h : HK V E ks σ0 σ) (hk : kA E.1 a = q) (hj : i.toNatClampNeg = j) (hin : vp_in i len) (hx : narrow .byte (.int x) = .int x') (hq : q ∉ ks) (kk : ∀ σ' : Mem, HK V E ks σ0 σ' → (∀ x i, kA E.1 x ≠ q → fld σ' x i = fld σ x i) → Wm V X nL N σ' k z n lv st) : Wm V X nL N σ k z pc lv (.int x :: .int i :: .ref a :: st) := by
  have h1 := h.1 a
  rw [hk] at h1
  obtain ⟨f, h2⟩ := (hC _).mp h1
  refine m_bast F d h2 hj hin hx rfl rfl (kk _ (h.up ?_ (by rw [hk]; exact hq)) (fun x i hx => fld_eq (va_up_ne _ _ (kne hk hx))))
  rw [hk]; exact (hC _).mpr ⟨_, rfl⟩
theorem t_alenB (F : Fx V X y cc nL ret R) {a len : Nat} {v : Int32} (d : DC cc pc 1 n .arraylength) (hC : ∀ c, CellTy V E a q c ↔ ∃ f, c = some (aB V len f)) (h : HK V E ks σ0 σ) (hk : kA E.1 a = q) (hv : Int32.ofNat len = v) (kk : Wm V X nL N σ k z n lv (.int v :: st)) : Wm V X nL N σ k z pc lv (.ref a :: st) := by
  have h1 := h.1 a
  rw [hk] at h1
  obtain ⟨f, h2⟩ := (hC _).mp h1
  exact m_alen F d h2 (ti := 2) rfl hv kk
theorem t_alenI (F : Fx V X y cc nL ret R) {a len : Nat} {v : Int32} (d : DC cc pc 1 n .arraylength) (hC : ∀ c, CellTy V E a q c ↔ ∃ f, c = some (aI V len f)) (h : HK V E ks σ0 σ) (hk : kA E.1 a = q) (hv : Int32.ofNat len = v) (kk : Wm V X nL N σ k z n lv (.int v :: st)) : Wm V X nL N σ k z pc lv (.ref a :: st) := by
  have h1 := h.1 a
  rw [hk] at h1
  obtain ⟨f, h2⟩ := (hC _).mp h1
  exact m_alen F d h2 (ti := 0) rfl hv kk
theorem t_alenJ (F : Fx V X y cc nL ret R) {a len : Nat} {v : Int32} (d : DC cc pc 1 n .arraylength) (hC : ∀ c, CellTy V E a q c ↔ ∃ f, c = some (aJ V len f)) (h : HK V E ks σ0 σ) (hk : kA E.1 a = q) (hv : Int32.ofNat len = v) (kk : Wm V X nL N σ k z n lv (.int v :: st)) : Wm V X nL N σ k z pc lv (.ref a :: st) := by
  have h1 := h.1 a
  rw [hk] at h1
  obtain ⟨f, h2⟩ := (hC _).mp h1
  exact m_alen F d h2 (ti := 1) rfl hv kk
theorem t_copyI (F : Fx V X y cc nL ret R) {index a b len q2 : Nat} {isp idp im : Int32} (d : DC cc pc 3 n (.invokestatic index)) (ac : AC y.cls index) (hC : ∀ c, CellTy V E a q c ↔ ∃ f, c = some (aI V len f)) (hC2 : ∀ c, CellTy V E b q2 c ↔ ∃ f, c = some (aI V len f)) (h : HK V E ks σ0 σ) (hk : kA E.1 a = q) (hk2 : kA E.1 b = q2) (h1 : isp = 0) (h2 : idp = 0) (h3 : ¬ im < 0) (e3 : im.toNatClampNeg = len) (hfr : 1 ≤ R.frames) (hlo : (st.map fun v => v.category).sum + (nativeFrameWords "java/lang/System" "arraycopy" 5 + 11) ≤ R.locals) (hq : q2 ∉ ks) (kk : ∀ σ' : Mem, HK V E ks σ0 σ' → (∀ x i, kA E.1 x ≠ q2 → fld σ' x i = fld σ x i) → Wm V X nL N σ' k z n lv st) : Wm V X nL N σ k z pc lv (.int im :: .int idp :: .ref b :: .int isp :: .ref a :: st) := by
  have g1 := h.1 a
  have g2 := h.1 b
  rw [hk] at g1
  rw [hk2] at g2
  obtain ⟨f, g3⟩ := (hC _).mp g1
  obtain ⟨g, g4⟩ := (hC2 _).mp g2
  subst h1; subst h2
  refine m_copyI F d ac g3 g4 (by decide) (by decide) h3 (sp := 0) (dp := 0) (by decide) (by decide) e3 (by omega) (by omega) hfr hlo rfl rfl (kk _ (h.up ?_ (by rw [hk2]; exact hq)) (fun x i hx => fld_eq (va_up_ne _ _ (kne hk2 hx))))
  rw [hk2]; exact (hC2 _).mpr ⟨_, rfl⟩
theorem t_copyJ (F : Fx V X y cc nL ret R) {index a b len q2 : Nat} {isp idp im : Int32} (d : DC cc pc 3 n (.invokestatic index)) (ac : AC y.cls index) (hC : ∀ c, CellTy V E a q c ↔ ∃ f, c = some (aJ V len f)) (hC2 : ∀ c, CellTy V E b q2 c ↔ ∃ f, c = some (aJ V len f)) (h : HK V E ks σ0 σ) (hk : kA E.1 a = q) (hk2 : kA E.1 b = q2) (h1 : isp = 0) (h2 : idp = 0) (h3 : ¬ im < 0) (e3 : im.toNatClampNeg = len) (hfr : 1 ≤ R.frames) (hlo : (st.map fun v => v.category).sum + (nativeFrameWords "java/lang/System" "arraycopy" 5 + 11) ≤ R.locals) (hq : q2 ∉ ks) (kk : ∀ σ' : Mem, HK V E ks σ0 σ' → (∀ x i, kA E.1 x ≠ q2 → fld σ' x i = fld σ x i) → Wm V X nL N σ' k z n lv st) : Wm V X nL N σ k z pc lv (.int im :: .int idp :: .ref b :: .int isp :: .ref a :: st) := by
  have g1 := h.1 a
  have g2 := h.1 b
  rw [hk] at g1
  rw [hk2] at g2
  obtain ⟨f, g3⟩ := (hC _).mp g1
  obtain ⟨g, g4⟩ := (hC2 _).mp g2
  subst h1; subst h2
  refine m_copyJ F d ac g3 g4 (by decide) (by decide) h3 (sp := 0) (dp := 0) (by decide) (by decide) e3 (by omega) (by omega) hfr hlo rfl rfl (kk _ (h.up ?_ (by rw [hk2]; exact hq)) (fun x i hx => fld_eq (va_up_ne _ _ (kne hk2 hx))))
  rw [hk2]; exact (hC2 _).mpr ⟨_, rfl⟩
theorem t_callV (F : Fx V X y cc nL ret R) {index ci a dd maxL cn : Nat} {tys : List (Nat × Nat)} {Post : Option Value → Mem → Prop} {y2 : MethodName} {c2 : ByteArray} {r2 : Option FieldType} {As rest : List Value} (d : DC cc pc 3 n (.invokevirtual index)) (hM : Ct (x_l X) V y2 c2 maxL r2 dd 0 0 N σ (.ref a :: As) Post) (cb : CB y2 c2 maxL r2 cn) (hlink : Cond.methodLink y.cls index y2 ∈ tb) (hin : Cond.instanceMethod y2 ∈ tb) (hse : Cond.selects y2.cls y2 y2 ∈ tb) (hC : ∀ c, CellTy V E a q c ↔ ∃ fs, c = some (ob ci fs) ∧ TyL E a tys fs) (h : HK V E ks σ0 σ) (hk : kA E.1 a = q) (hci : (classes[ci]?).map (·.1) = some y2.cls) (hn : As.length = cn) (hst : st = As.reverse ++ .ref a :: rest) (hw : (rest.map fun v => v.category).sum ≤ 8) (hR : dd + 1 ≤ R.frames ∧ 8 + (maxL + 11) + 41 * dd ≤ R.locals) (hf : k ≤ R.cells ∧ z ≤ R.slots) (kk : ∀ r τ, Post r τ → Wm V X nL N τ k z n lv (r.toList ++ rest)) : Wm V X nL N σ k z pc lv st := by
  have h1 := h.1 a
  rw [hk] at h1
  obtain ⟨fs, h2, h3⟩ := (hC _).mp h1
  exact m_callV F d hM cb hlink hin hse h2 hci hn hst hw hR hf (k' := k) (z' := z) (N' := N) rfl rfl rfl kk
end TROWS
theorem kd_7 : ∀ o, o < 1457 → kd o = 7 → (o = 2 ∨ o = 65 ∨ o = 130 ∨ (197 ≤ o ∧ (o - 197) % 63 = 0)) := by decide +kernel
theorem kd_8 : ∀ o, o < 1457 → kd o = 8 → ∀ j, j < 4 → kd (o + 10 + 12 * j) = 15 := by decide +kernel
theorem kd_9 : ∀ o, o < 1457 → kd o = 9 → ∀ j, j < 4 → kd (o + 57 + j) = 19 := by decide +kernel
theorem kd_bk : ∀ o, o < 1457 → kd o = 7 → ∀ r, r < 63 → kd (o + r) = kb r := by decide +kernel
theorem kA_in {b a q : Nat} (h : kA b a = q) (hq : q ≠ 0) : b ≤ a ∧ a - b < 1457 ∧ kd (a - b) = q := by
  unfold kA at h
  split at h
  · exact absurd h.symm hq
  · refine ⟨by omega, Nat.not_le.mp fun e => hq (by rw [← h, kd_big e]), h⟩
theorem kA_7 {b a r : Nat} (h : kA b a = 7) (hr : r < 63) : kA b (a + r) = kb r := by
  obtain ⟨h1, h2, h3⟩ := kA_in h (by decide)
  unfold kA
  rw [if_neg (by omega), show a + r - b = a - b + r by omega]
  exact kd_bk _ h2 h3 r hr
theorem kA_8 {b a j : Nat} (h : kA b a = 8) (hj : j < 4) : kA b (a + 10 + 12 * j) = 15 := by
  obtain ⟨h1, h2, h3⟩ := kA_in h (by decide)
  unfold kA
  rw [if_neg (by omega), show a + 10 + 12 * j - b = a - b + 10 + 12 * j by omega]
  exact kd_8 _ h2 h3 j hj
theorem kA_9 {b a j : Nat} (h : kA b a = 9) (hj : j < 4) : kA b (a + 57 + j) = 19 := by
  obtain ⟨h1, h2, h3⟩ := kA_in h (by decide)
  unfold kA
  rw [if_neg (by omega), show a + 57 + j - b = a - b + 57 + j by omega]
  exact kd_9 _ h2 h3 j hj
theorem t_aald8 {V : VX} {X : MX} {y : MethodName} {cc : ByteArray} {nL N k z pc n : Nat} {ret : Option FieldType} {R : Room} {σ : Mem} {lv : List (Nat × Value)} {st : List Value} {E : PE} {ks : List Nat} {σ0 : Mem} (F : Fx V X y cc nL ret R) {a j : Nat} {C : String} {i : Int32} (d : DC cc pc 1 n .aaload) (ht : (tysOf V.2.1)[4]? = some (V.2.1 4, .object C)) (h : HK V E ks σ0 σ) (hk : kA E.1 a = 8) (hj : i.toNatClampNeg = j) (hin : vp_in i 4) (kk : Wm V X nL N σ k z n lv (.ref (a + 10 + 12 * j) :: st)) : Wm V X nL N σ k z pc lv (.int i :: .ref a :: st) := by
  have h1 := h.1 a
  rw [hk] at h1
  obtain ⟨f, h2, h3⟩ := h1
  refine m_aald F d h2 ht hj hin ?_
  rw [h3 j (by rw [← hj]; exact Nat.not_le.mp fun w => hin (Or.inr w))]
  exact kk
theorem t_aald9 {V : VX} {X : MX} {y : MethodName} {cc : ByteArray} {nL N k z pc n : Nat} {ret : Option FieldType} {R : Room} {σ : Mem} {lv : List (Nat × Value)} {st : List Value} {E : PE} {ks : List Nat} {σ0 : Mem} (F : Fx V X y cc nL ret R) {a j : Nat} {C : String} {i : Int32} (d : DC cc pc 1 n .aaload) (ht : (tysOf V.2.1)[5]? = some (V.2.1 5, .object C)) (h : HK V E ks σ0 σ) (hk : kA E.1 a = 9) (hj : i.toNatClampNeg = j) (hin : vp_in i 4) (kk : Wm V X nL N σ k z n lv (.ref (a + 57 + j) :: st)) : Wm V X nL N σ k z pc lv (.int i :: .ref a :: st) := by
  have h1 := h.1 a
  rw [hk] at h1
  obtain ⟨f, h2, h3⟩ := h1
  refine m_aald F d h2 ht hj hin ?_
  rw [h3 j (by rw [← hj]; exact Nat.not_le.mp fun w => hin (Or.inr w))]
  exact kk
