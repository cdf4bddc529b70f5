theorem nI_nn {x : Int32} (h : ¬ x < 0) : ∃ n : Nat, n < 2147483648 ∧ x = nI n := by
  rcases pk_ix x (n := 2147483647) (by decide) with h1 | h1 | ⟨j, h1, h2⟩
  · exact absurd h1 h
  · have h2 : (nI 2147483647).toInt ≤ x.toInt := Int32.le_iff_toInt_le.mp h1
    have h3 : x.toInt ≤ 2147483647 := by have := Int32.toInt_lt x; omega
    have h4 : (nI 2147483647).toInt = 2147483647 := by decide
    exact ⟨2147483647, by decide, Int32.toInt_inj.mp (by omega)⟩
  · exact ⟨j, by omega, h2⟩
theorem nz1 {n : Nat} (h : n ≤ 1) : narrow .boolean (.int (nI n)) = .int (nI n) := by
  rcases (show n = 0 ∨ n = 1 by omega) with rfl | rfl <;> decide
theorem fz1 {n : Nat} (h : n ≤ 1) : fits .boolean (.int (nI n)) = true := by
  rcases (show n = 0 ∨ n = 1 by omega) with rfl | rfl <;> decide
theorem nI_dec {n : Nat} (h : 0 < n) : nI n + (-1) = nI (n - 1) := by
  obtain ⟨m, rfl⟩ : ∃ m, n = m + 1 := ⟨n - 1, by omega⟩
  exact pk_m1 m
theorem minN {a b : Nat} (ha : a < 2 ^ 31) (hb : b < 2 ^ 31) : (if nI b < nI a then nI b else nI a) = nI (min a b) := by
  by_cases h : b < a
  · rw [if_pos ((nI_ltI hb ha).mpr h), Nat.min_eq_right (Nat.le_of_lt h)]
  · rw [if_neg (fun q => h ((nI_ltI hb ha).mp q)), Nat.min_eq_left (Nat.le_of_not_lt h)]
theorem clampF (x : Int32) : ∃ m : Nat, m ≤ 72 ∧ (if (0 : Int32) < (if (72 : Int32) < x then 72 else x) then (if (72 : Int32) < x then 72 else x) else 0) = nI m := by
  by_cases h : (72 : Int32) < x
  · rw [if_pos h]; exact ⟨72, by decide, by decide⟩
  · rw [if_neg h]
    by_cases h0 : (0 : Int32) < x
    · rw [if_pos h0]
      exact nI_of2 (x := x) (M := 72) (n := 72) (by decide) (fun e => Int32.lt_irrefl (Int32.lt_trans e h0)) (Int32.not_lt.mp h)
    · rw [if_neg h0]; exact ⟨0, by decide, by decide⟩
theorem clampN {n : Nat} (hn : n < 2 ^ 31) (x : Int32) : ∃ m : Nat, m ≤ n ∧ (if (0 : Int32) < (if x < nI n then x else nI n) then (if x < nI n then x else nI n) else 0) = nI m := by
  by_cases h : x < nI n
  · rw [if_pos h]
    by_cases h0 : (0 : Int32) < x
    · rw [if_pos h0]
      obtain ⟨j, h1, h2⟩ := nI_nn (x := x) (fun e => Int32.lt_irrefl (Int32.lt_trans e h0))
      subst h2
      exact ⟨j, Nat.le_of_lt ((nI_ltI (by omega) hn).mp h), rfl⟩
    · rw [if_neg h0]; exact ⟨0, by omega, rfl⟩
  · rw [if_neg h]
    by_cases h0 : (0 : Int32) < nI n
    · rw [if_pos h0]; exact ⟨n, Nat.le_refl _, rfl⟩
    · rw [if_neg h0]; exact ⟨0, by omega, rfl⟩
theorem inc_lt {i w : Int32} (h : i < w) : (i + 1).toInt = i.toInt + 1 := by
  have h1 := Int32.lt_iff_toInt_lt.mp h
  have h2 := Int32.toInt_lt w
  have h3 := Int32.le_toInt i
  rw [Int32.toInt_add]
  have h4 : (1 : Int32).toInt = 1 := by decide
  rw [h4]
  exact Int.bmod_eq_of_le_mul_two (by omega) (by omega)
theorem inc_le {i w : Int32} (h : ¬ w < i) (hw : w.toInt < 1000) : (i + 1).toInt = i.toInt + 1 ∧ i.toInt < 1000 := by
  have h1 := Int32.le_iff_toInt_le.mp (Int32.not_lt.mp h)
  have h2 : i < 1000 := Int32.lt_iff_toInt_lt.mpr (by
    have h3 : (1000 : Int32).toInt = 1000 := by decide
    omega)
  exact ⟨inc_lt h2, by omega⟩
theorem nI_ti {n : Nat} (h : n < 2147483648) : (nI n).toInt = (n : Int) := Int32.toInt_ofNat_of_lt h
theorem nI_0le {n : Nat} (h : n < 2147483648) : (0 : Int32) ≤ nI n := by
  have h1 : (0 : Int32).toInt = 0 := by decide
  have h2 := nI_ti h
  exact Int32.le_iff_toInt_le.mpr (by omega)
theorem mdec0 {fuel : Nat} (h : ((nI 0).toInt + 1).toNat < fuel + 1) : ((-1 : Int32).toInt + 1).toNat < fuel := by
  have h8 : ((nI 0).toInt + 1).toNat = 1 := by decide
  have h9 : ((-1 : Int32).toInt + 1).toNat = 0 := by decide
  omega
theorem mdec {fuel n : Nat} (hn : n < 2147483648) (h0 : 0 < n) (h : ((nI n).toInt + 1).toNat < fuel + 1) : ((nI (n - 1)).toInt + 1).toNat < fuel := by
  rw [nI_ti hn] at h
  rw [nI_ti (by omega)]
  omega
/-! heap typing of the class: every cell by its kind; PE = (where the ledger lies, a bound of Journal.total and Reader.next, 0 if Reader.fault isn't 0, tapeSize) -/
abbrev PE : Type := Nat × Nat × Nat × Nat
/-- ghosts of the names: which books bear them (gd), how many and which they are (n0, nm); which of the two books is the ledger's, which the spare; imageKept, pastFirst, pastCount -/
abbrev GH : Type := (Nat → Nat) × Nat × (Nat → Int32) × Nat × Nat × Nat × Nat × Nat
abbrev GH.gd (g : GH) : Nat → Nat := g.1
abbrev GH.n0 (g : GH) : Nat := g.2.1
abbrev GH.nm (g : GH) : Nat → Int32 := g.2.2.1
abbrev GH.bk (g : GH) : Nat := g.2.2.2.1
abbrev GH.sp (g : GH) : Nat := g.2.2.2.2.1
abbrev GH.ik (g : GH) : Nat := g.2.2.2.2.2.1
abbrev GH.pf (g : GH) : Nat := g.2.2.2.2.2.2.1
abbrev GH.pc (g : GH) : Nat := g.2.2.2.2.2.2.2
def blk (o : Nat) : Nat := if o < 128 then (o - 2) / 63 else if o < 193 then 2 else 3 + (o - 197) / 63
def lix (o : Nat) : Nat := ((if o < 128 then (o - 2) % 63 else if o < 193 then o - 130 else (o - 197) % 63) - 11) / 12
def kl (r : Nat) : Nat := if r = 0 then 15 else if r = 1 then 6 else if r = 2 then 6 else if r = 3 then 16 else if r = 6 then 6 else if r = 7 then 16 else if r = 10 then 6 else if r = 11 then 18 else 17
def kb (r : Nat) : Nat := if r = 0 then 7 else if r = 1 then 8 else if r = 2 then 9 else if r = 3 then 10 else if r = 4 then 11 else if r = 5 then 12 else if r = 6 then 13 else if r = 7 then 14 else if r < 11 then 6 else if r < 59 then kl ((r - 11) % 12) else if r < 63 then 19 else 0
def kd (o : Nat) : Nat := if o = 0 then 1 else if o = 1 then 2 else if o < 128 then kb ((o - 2) % 63) else if o = 128 then 3 else if o = 129 then 4 else if o < 193 then kb (o - 130) else if o = 193 then 5 else if o < 197 then 6 else if o < 1457 then kb ((o - 197) % 63) else 0
def kA (b a : Nat) : Nat := if a < b then 0 else kd (a - b)
def TyV (G : GH) (E : PE) (a : Nat) (t : Nat × Nat) (v : Value) : Prop := match t.1 with
  | 0 => ∃ x : Int32, v = .int x
  | 1 => ∃ n : Nat, n ≤ t.2 ∧ v = .int (nI n)
  | 2 => ∃ x : Int64, v = .long x
  | 3 => ∃ r : Nat, kA E.1 r = t.2 ∧ v = .ref r
  | 4 => ∃ n : Nat, n ≤ E.2.1 ∧ v = .int (nI n)
  | 5 => ∃ x : Int32, (E.2.2.1 = 0 → x ≠ 0) ∧ v = .int x
  | 6 => v = .int (nI E.2.2.2)
  | 7 => v = .ref (a + t.2)
  | 8 => ∃ n : Nat, (n ≤ 4 ∧ (G.gd (blk (a - E.1)) = 1 → n = G.n0)) ∧ v = .int (nI n)
  | 9 => ∃ x : Int32, (G.gd (blk (a - E.1)) = 1 → lix (a - E.1) < G.n0 → x = G.nm (lix (a - E.1))) ∧ v = .int x
  | 10 => ∃ r : Nat, (kA E.1 r = 7 ∧ r = E.1 + 2 + 63 * G.bk) ∧ v = .ref r
  | 11 => ∃ r : Nat, (kA E.1 r = 7 ∧ r = E.1 + 2 + 63 * G.sp) ∧ v = .ref r
  | 12 => ∃ r : Nat, (kA E.1 r = 7 ∧ r = E.1 + 130) ∧ v = .ref r
  | 13 => ∃ n : Nat, (n ≤ 1 ∧ n = G.ik) ∧ v = .int (nI n)
  | 14 => ∃ n : Nat, (n ≤ 19 ∧ n = G.pf) ∧ v = .int (nI n)
  | 15 => ∃ n : Nat, (n ≤ 20 ∧ n = G.pc) ∧ v = .int (nI n)
  | _ => False
def TyL (G : GH) (E : PE) (a : Nat) (tys : List (Nat × Nat)) (fs : List Value) : Prop := fs.length = tys.length ∧ ∀ (j : Nat) (t : Nat × Nat), tys[j]? = some t → ∃ v, fs[j]? = some v ∧ TyV G E a t v
abbrev oL1 : List (Nat × Nat) := [(3, 2), (6, 0), (10, 7), (11, 7), (3, 3), (12, 7), (13, 0), (3, 5), (14, 0), (15, 0), (3, 6), (3, 6), (3, 6)]
abbrev oL3 : List (Nat × Nat) := [(3, 2), (1, 700), (3, 7), (3, 4), (1, 700), (0, 0), (0, 0), (0, 0), (0, 0), (1, 1), (0, 0), (5, 0), (0, 0)]
abbrev oL6 : List (Nat × Nat) := [(2, 0), (2, 0)]
abbrev oL7 : List (Nat × Nat) := [(7, 1), (7, 2), (7, 3), (7, 4), (7, 5), (7, 8), (7, 9), (7, 10), (8, 0), (1, 4), (1, 8), (4, 0), (0, 0)]
abbrev oL12 : List (Nat × Nat) := [(3, 13), (3, 14), (4, 0)]
abbrev oL15 : List (Nat × Nat) := [(9, 0), (0, 0), (0, 0), (0, 0), (0, 0), (0, 0), (0, 0), (0, 0), (0, 0), (0, 0), (1, 1), (1, 1), (1, 1), (3, 6), (3, 6), (3, 16), (3, 16), (3, 18)]
abbrev oL16 : List (Nat × Nat) := [(3, 17), (3, 17), (3, 6)]
abbrev oL19 : List (Nat × Nat) := [(1, 3), (1, 24), (0, 0), (1, 1)]
def CellTy (V : VX) (G : GH) (E : PE) (a k : Nat) (c : Option va_E) : Prop := match k with
  | 0 => True
  | 1 => ∃ fs, c = some (ob 7 fs) ∧ TyL G E a oL1 fs
  | 2 => ∃ f, c = some (aB V 700 f)
  | 3 => ∃ fs, c = some (ob 5 fs) ∧ TyL G E a oL3 fs
  | 4 => ∃ f, c = some (aI V 4 f)
  | 5 => ∃ f, c = some (aR 6 V 20 f) ∧ ∀ j, j < 20 → f j = some (E.1 + 197 + 63 * j)
  | 6 => ∃ fs, c = some (ob 0 fs) ∧ TyL G E a oL6 fs
  | 7 => ∃ fs, c = some (ob 1 fs) ∧ TyL G E a oL7 fs
  | 8 => ∃ f, c = some (aR 4 V 4 f) ∧ ∀ j, j < 4 → f j = some (a + 10 + 12 * j)
  | 9 => ∃ f, c = some (aR 5 V 4 f) ∧ ∀ j, j < 4 → f j = some (a + 57 + j)
  | 10 => ∃ f, c = some (aI V 100 f)
  | 11 => ∃ f, c = some (aI V 8 f)
  | 12 => ∃ fs, c = some (ob 2 fs) ∧ TyL G E a oL12 fs
  | 13 => ∃ f, c = some (aJ V 360 f)
  | 14 => ∃ f, c = some (aJ V 6 f)
  | 15 => ∃ fs, c = some (ob 3 fs) ∧ TyL G E a oL15 fs
  | 16 => ∃ fs, c = some (ob 6 fs) ∧ TyL G E a oL16 fs
  | 17 => ∃ f, c = some (aJ V 72 f)
  | 18 => ∃ f, c = some (aJ V 5 f)
  | 19 => ∃ fs, c = some (ob 4 fs) ∧ TyL G E a oL19 fs
  | _ => True
def HT (V : VX) (G : GH) (E : PE) (σ : Mem) : Prop := ∀ a, CellTy V G E a (kA E.1 a) (σ a)
theorem TyL.set {G : GH} {E : PE} {a : Nat} {tys : List (Nat × Nat)} {fs : List Value} (h : TyL G E a tys fs) {j : Nat} {t : Nat × Nat} {v : Value} (hj : tys[j]? = some t) (hv : TyV G E a t v) : TyL G E a tys (fs.set j v) := by
  refine ⟨by rw [List.length_set]; exact h.1, fun i u hu => ?_⟩
  by_cases hij : j = i
  · subst hij
    rw [hj] at hu
    cases hu
    have hl : j < fs.length := by rw [h.1]; exact (List.getElem?_eq_some_iff.mp hj).1
    exact ⟨v, by rw [List.getElem?_set_self hl], hv⟩
  · obtain ⟨w, h1, h2⟩ := h.2 i u hu
    exact ⟨w, by rw [List.getElem?_set_ne hij]; exact h1, h2⟩
theorem TyL.to {G G' : GH} {E E' : PE} {a : Nat} {tys : List (Nat × Nat)} {fs : List Value} (h : TyL G E a tys fs) (hv : ∀ t ∈ tys, ∀ v, TyV G E a t v → TyV G' E' a t v) : TyL G' E' a tys fs :=
  ⟨h.1, fun j t ht => by
    obtain ⟨v, h1, h2⟩ := h.2 j t ht
    exact ⟨v, h1, hv t (List.mem_of_getElem? ht) v h2⟩⟩
theorem HT.up {V : VX} {G : GH} {E : PE} {σ : Mem} (h : HT V G E σ) {a : Nat} {e : va_E} (hc : CellTy V G E a (kA E.1 a) (some e)) : HT V G E (va_up σ a (some e)) := by
  intro q
  by_cases hq : q = a
  · subst hq; rw [va_up_self]; exact hc
  · rw [va_up_ne _ _ hq]; exact h q
theorem CellTy.to {V : VX} {G : GH} {E E' : PE} {a k : Nat} {c : Option va_E} (hb : E.1 = E'.1) (h1 : k = 1 → ∀ t ∈ oL1, ∀ v, TyV G E a t v → TyV G E' a t v) (h3 : k = 3 → ∀ t ∈ oL3, ∀ v, TyV G E a t v → TyV G E' a t v) (hv : ∀ t : Nat × Nat, (t.1 < 5 ∨ (7 ≤ t.1 ∧ t.1 ≤ 9)) → ∀ v, TyV G E a t v → TyV G E' a t v) (h : CellTy V G E a k c) : CellTy V G E' a k c := by
  unfold CellTy at h ⊢
  split at h
  · trivial
  · obtain ⟨fs, e, q⟩ := h; exact ⟨fs, e, q.to (h1 rfl)⟩
  · exact h
  · obtain ⟨fs, e, q⟩ := h; exact ⟨fs, e, q.to (h3 rfl)⟩
  · exact h
  · rw [← hb]; exact h
  · obtain ⟨fs, e, q⟩ := h; exact ⟨fs, e, q.to (fun t ht v => hv t (by revert t; decide) v)⟩
  · obtain ⟨fs, e, q⟩ := h; exact ⟨fs, e, q.to (fun t ht v => hv t (by revert t; decide) v)⟩
  · exact h
  · exact h
  · exact h
  · exact h
  · obtain ⟨fs, e, q⟩ := h; exact ⟨fs, e, q.to (fun t ht v => hv t (by revert t; decide) v)⟩
  · exact h
  · exact h
  · obtain ⟨fs, e, q⟩ := h; exact ⟨fs, e, q.to (fun t ht v => hv t (by revert t; decide) v)⟩
  · obtain ⟨fs, e, q⟩ := h; exact ⟨fs, e, q.to (fun t ht v => hv t (by revert t; decide) v)⟩
  · exact h
  · exact h
  · obtain ⟨fs, e, q⟩ := h; exact ⟨fs, e, q.to (fun t ht v => hv t (by revert t; decide) v)⟩
  · trivial
theorem tyv_M {G : GH} {b M M' Z Z' T a : Nat} (hM : M ≤ M') (hZ : Z' = 0 → Z = 0) {t : Nat × Nat} {v : Value} (h : TyV G (b, M, Z, T) a t v) : TyV G (b, M', Z', T) a t v := by
  obtain ⟨c, w⟩ := t
  match c with
  | 0 => exact h
  | 1 => exact h
  | 2 => exact h
  | 3 => exact h
  | 4 =>
    obtain ⟨n, h1, h2⟩ := h
    exact ⟨n, Nat.le_trans h1 hM, h2⟩
  | 5 =>
    obtain ⟨x, h1, h2⟩ := h
    exact ⟨x, fun q => h1 (hZ q), h2⟩
  | 6 => exact h
  | 7 => exact h
  | 8 => exact h
  | 9 => exact h
  | 10 => exact h
  | 11 => exact h
  | 12 => exact h
  | 13 => exact h
  | 14 => exact h
  | 15 => exact h
  | c + 16 => exact h
theorem HT.mono {V : VX} {G : GH} {b M M' Z Z' T : Nat} {σ : Mem} (h : HT V G (b, M, Z, T) σ) (hM : M ≤ M') (hZ : Z' = 0 → Z = 0) : HT V G (b, M', Z', T) σ :=
  fun a => CellTy.to (E := (b, M, Z, T)) (E' := (b, M', Z', T)) rfl (fun _ _ _ _ q => tyv_M hM hZ q) (fun _ _ _ _ q => tyv_M hM hZ q) (fun _ _ _ q => tyv_M hM hZ q) (h a)
theorem kd_big {o : Nat} (h : 1457 ≤ o) : kd o = 0 := by
  unfold kd
  rw [if_neg (by omega), if_neg (by omega), if_neg (by omega), if_neg (by omega), if_neg (by omega), if_neg (by omega), if_neg (by omega), if_neg (by omega), if_neg (by omega)]
theorem kd_one : ∀ o, o < 1457 → (kd o = 1 → o = 0) ∧ (kd o = 3 → o = 128) := by decide +kernel
theorem kA_1 {b a : Nat} (h : kA b a = 1) : a = b := by
  unfold kA at h
  split at h
  · cases h
  · by_cases ho : a - b < 1457
    · have := (kd_one _ ho).1 h; omega
    · rw [kd_big (by omega)] at h; cases h
theorem kA_3 {b a : Nat} (h : kA b a = 3) : a = b + 128 := by
  unfold kA at h
  split at h
  · cases h
  · by_cases ho : a - b < 1457
    · have := (kd_one _ ho).2 h; omega
    · rw [kd_big (by omega)] at h; cases h
def fld (σ : Mem) (a j : Nat) : Option Value := match σ a with
  | some (.inr o) => o.2[j]?
  | _ => none
theorem fld_eq {σ τ : Mem} {a j : Nat} (h : τ a = σ a) : fld τ a j = fld σ a j := by unfold fld; rw [h]
theorem fld_ob {σ : Mem} {a j ci : Nat} {fs : List Value} {v : Value} (h : σ a = some (ob ci fs)) (hf : fld σ a j = some v) : fs[j]? = some v := by
  unfold fld at hf; rw [h] at hf; exact hf
theorem fld_of {σ : Mem} {a j ci : Nat} {fs : List Value} {v : Value} (h : σ a = some (ob ci fs)) (hf : fs[j]? = some v) : fld σ a j = some v := by
  unfold fld; rw [h]; exact hf
def HK (V : VX) (G : GH) (E : PE) (ks : List Nat) (σ0 σ : Mem) : Prop := HT V G E σ ∧ ∀ a, kA E.1 a ∈ ks → σ a = σ0 a
theorem HK.start {V : VX} {G : GH} {E : PE} {ks : List Nat} {σ : Mem} (h : HT V G E σ) : HK V G E ks σ σ := ⟨h, fun _ _ => rfl⟩
theorem HK.trans {V : VX} {G G' : GH} {b M Z T M' Z' T' : Nat} {ks ks' : List Nat} {σ0 σ τ : Mem} (h : HK V G (b, M, Z, T) ks σ0 σ) (h' : HK V G' (b, M', Z', T') ks' σ τ) (hs : ∀ k ∈ ks, k ∈ ks') : HK V G' (b, M', Z', T') ks σ0 τ := ⟨h'.1, fun a ha => (h'.2 a (hs _ ha)).trans (h.2 a ha)⟩
theorem HK.sub {V : VX} {G : GH} {E : PE} {ks ks' : List Nat} {σ0 σ : Mem} (h : HK V G E ks σ0 σ) (hs : ∀ k ∈ ks', k ∈ ks) : HK V G E ks' σ0 σ := ⟨h.1, fun a ha => h.2 a (hs _ ha)⟩
theorem HK.mono {V : VX} {G : GH} {b M M' Z Z' T : Nat} {ks : List Nat} {σ0 σ : Mem} (h : HK V G (b, M, Z, T) ks σ0 σ) (hM : M ≤ M') (hZ : Z' = 0 → Z = 0) : HK V G (b, M', Z', T) ks σ0 σ := ⟨h.1.mono hM hZ, h.2⟩
theorem HK.up {V : VX} {G : GH} {E : PE} {ks : List Nat} {σ0 σ : Mem} (h : HK V G E ks σ0 σ) {a : Nat} {e : va_E} (hc : CellTy V G E a (kA E.1 a) (some e)) (hq : kA E.1 a ∉ ks) : HK V G E ks σ0 (va_up σ a (some e)) :=
  ⟨h.1.up hc, fun x hx => (va_up_ne _ _ (fun q => hq (by rw [← q]; exact hx))).trans (h.2 x hx)⟩
theorem HK.f {V : VX} {G : GH} {E : PE} {ks : List Nat} {σ0 σ : Mem} (h : HK V G E ks σ0 σ) {a j q ci : Nat} {tys : List (Nat × Nat)} {t : Nat × Nat} (hC : ∀ c, CellTy V G E a q c ↔ ∃ fs, c = some (ob ci fs) ∧ TyL G E a tys fs) (hk : kA E.1 a = q) (hj : tys[j]? = some t) : ∃ v, TyV G E a t v ∧ fld σ a j = some v := by
  have h1 := h.1 a
  rw [hk] at h1
  obtain ⟨fs, h2, h3⟩ := (hC _).mp h1
  obtain ⟨v, h4, h5⟩ := h3.2 j t hj
  exact ⟨v, h5, fld_of h2 h4⟩
theorem kne {b a c q : Nat} (h : kA b c = q) (h' : kA b a ≠ q) : a ≠ c := fun e => h' (by rw [e]; exact h)
theorem tyvZ {G : GH} {b M Z Z' T a : Nat} {t : Nat × Nat} (ht : t.1 ≠ 5) {v : Value} (h : TyV G (b, M, Z, T) a t v) : TyV G (b, M, Z', T) a t v := by
  obtain ⟨c, w⟩ := t
  match c, ht with
  | 0, _ => exact h
  | 1, _ => exact h
  | 2, _ => exact h
  | 3, _ => exact h
  | 4, _ => exact h
  | 5, ht => exact absurd rfl ht
  | 6, _ => exact h
  | 7, _ => exact h
  | 8, _ => exact h
  | 9, _ => exact h
  | 10, _ => exact h
  | 11, _ => exact h
  | 12, _ => exact h
  | 13, _ => exact h
  | 14, _ => exact h
  | 15, _ => exact h
  | c + 16, _ => exact h
theorem tyvT {G : GH} {b M Z T T' a : Nat} {t : Nat × Nat} (ht : t.1 ≠ 6) {v : Value} (h : TyV G (b, M, Z, T) a t v) : TyV G (b, M, Z, T') a t v := by
  obtain ⟨c, w⟩ := t
  match c, ht with
  | 0, _ => exact h
  | 1, _ => exact h
  | 2, _ => exact h
  | 3, _ => exact h
  | 4, _ => exact h
  | 5, _ => exact h
  | 6, ht => exact absurd rfl ht
  | 7, _ => exact h
  | 8, _ => exact h
  | 9, _ => exact h
  | 10, _ => exact h
  | 11, _ => exact h
  | 12, _ => exact h
  | 13, _ => exact h
  | 14, _ => exact h
  | 15, _ => exact h
  | c + 16, _ => exact h
theorem tyl_swap {G G' : GH} {E E' : PE} {a : Nat} {tys : List (Nat × Nat)} {fs : List Value} {j0 : Nat} {v : Value} (h : TyL G E a tys fs) (ho : ∀ j, j < tys.length → j ≠ j0 → ∀ w, TyV G E a (tys.getD j (0, 0)) w → TyV G' E' a (tys.getD j (0, 0)) w) (hv : TyV G' E' a (tys.getD j0 (0, 0)) v) (hj0 : j0 < tys.length) : TyL G' E' a tys (fs.set j0 v) := by
  refine ⟨by rw [List.length_set]; exact h.1, fun i u hu => ?_⟩
  have hu' : tys.getD i (0, 0) = u := by rw [List.getD_eq_getElem?_getD, hu]; rfl
  have hi : i < tys.length := (List.getElem?_eq_some_iff.mp hu).1
  by_cases hij : j0 = i
  · subst hij
    exact ⟨v, by rw [List.getElem?_set_self (by rw [h.1]; exact hj0)], by rw [← hu']; exact hv⟩
  · obtain ⟨w, h1, h2⟩ := h.2 i u hu
    refine ⟨w, by rw [List.getElem?_set_ne hij]; exact h1, ?_⟩
    rw [← hu'] at h2 ⊢
    exact ho i hi (fun e => hij e.symm) w h2
theorem ht_special {V : VX} {G : GH} {b M Z T Z' T' a k0 : Nat} {σ : Mem} {e : va_E} (h : HT V G (b, M, Z, T) σ) (hk : kA b a = k0) (hu : ∀ x, kA b x = k0 → x = a) (ho : ∀ x, kA b x ≠ k0 → CellTy V G (b, M, Z, T) x (kA b x) (σ x) → CellTy V G (b, M, Z', T') x (kA b x) (σ x)) (hn : CellTy V G (b, M, Z', T') a k0 (some e)) : HT V G (b, M, Z', T') (va_up σ a (some e)) := by
  intro x
  by_cases hx : x = a
  · subst hx
    rw [va_up_self, show kA (b, M, Z', T').1 x = k0 from hk]
    exact hn
  · rw [va_up_ne _ _ hx]
    exact ho x (fun q => hx (hu x q)) (h x)
theorem o1 {V : VX} {G : GH} {E : PE} {a : Nat} {c : Option va_E} : CellTy V G E a 1 c ↔ ∃ fs, c = some (ob 7 fs) ∧ TyL G E a oL1 fs := Iff.rfl
theorem o3 {V : VX} {G : GH} {E : PE} {a : Nat} {c : Option va_E} : CellTy V G E a 3 c ↔ ∃ fs, c = some (ob 5 fs) ∧ TyL G E a oL3 fs := Iff.rfl
theorem o6 {V : VX} {G : GH} {E : PE} {a : Nat} {c : Option va_E} : CellTy V G E a 6 c ↔ ∃ fs, c = some (ob 0 fs) ∧ TyL G E a oL6 fs := Iff.rfl
theorem o7 {V : VX} {G : GH} {E : PE} {a : Nat} {c : Option va_E} : CellTy V G E a 7 c ↔ ∃ fs, c = some (ob 1 fs) ∧ TyL G E a oL7 fs := Iff.rfl
theorem o12 {V : VX} {G : GH} {E : PE} {a : Nat} {c : Option va_E} : CellTy V G E a 12 c ↔ ∃ fs, c = some (ob 2 fs) ∧ TyL G E a oL12 fs := Iff.rfl
theorem o15 {V : VX} {G : GH} {E : PE} {a : Nat} {c : Option va_E} : CellTy V G E a 15 c ↔ ∃ fs, c = some (ob 3 fs) ∧ TyL G E a oL15 fs := Iff.rfl
theorem o16 {V : VX} {G : GH} {E : PE} {a : Nat} {c : Option va_E} : CellTy V G E a 16 c ↔ ∃ fs, c = some (ob 6 fs) ∧ TyL G E a oL16 fs := Iff.rfl
theorem o19 {V : VX} {G : GH} {E : PE} {a : Nat} {c : Option va_E} : CellTy V G E a 19 c ↔ ∃ fs, c = some (ob 4 fs) ∧ TyL G E a oL19 fs := Iff.rfl
theorem o2 {V : VX} {G : GH} {E : PE} {a : Nat} {c : Option va_E} : CellTy V G E a 2 c ↔ ∃ f, c = some (aB V 700 f) := Iff.rfl
theorem o4 {V : VX} {G : GH} {E : PE} {a : Nat} {c : Option va_E} : CellTy V G E a 4 c ↔ ∃ f, c = some (aI V 4 f) := Iff.rfl
theorem o10 {V : VX} {G : GH} {E : PE} {a : Nat} {c : Option va_E} : CellTy V G E a 10 c ↔ ∃ f, c = some (aI V 100 f) := Iff.rfl
theorem o11 {V : VX} {G : GH} {E : PE} {a : Nat} {c : Option va_E} : CellTy V G E a 11 c ↔ ∃ f, c = some (aI V 8 f) := Iff.rfl
theorem o13 {V : VX} {G : GH} {E : PE} {a : Nat} {c : Option va_E} : CellTy V G E a 13 c ↔ ∃ f, c = some (aJ V 360 f) := Iff.rfl
theorem o14 {V : VX} {G : GH} {E : PE} {a : Nat} {c : Option va_E} : CellTy V G E a 14 c ↔ ∃ f, c = some (aJ V 6 f) := Iff.rfl
theorem o17 {V : VX} {G : GH} {E : PE} {a : Nat} {c : Option va_E} : CellTy V G E a 17 c ↔ ∃ f, c = some (aJ V 72 f) := Iff.rfl
theorem o18 {V : VX} {G : GH} {E : PE} {a : Nat} {c : Option va_E} : CellTy V G E a 18 c ↔ ∃ f, c = some (aJ V 5 f) := Iff.rfl
theorem o5 {V : VX} {G : GH} {E : PE} {a : Nat} {c : Option va_E} : CellTy V G E a 5 c ↔ ∃ f, c = some (aR 6 V 20 f) ∧ ∀ j, j < 20 → f j = some (E.1 + 197 + 63 * j) := Iff.rfl
theorem o8 {V : VX} {G : GH} {E : PE} {a : Nat} {c : Option va_E} : CellTy V G E a 8 c ↔ ∃ f, c = some (aR 4 V 4 f) ∧ ∀ j, j < 4 → f j = some (a + 10 + 12 * j) := Iff.rfl
theorem o9 {V : VX} {G : GH} {E : PE} {a : Nat} {c : Option va_E} : CellTy V G E a 9 c ↔ ∃ f, c = some (aR 5 V 4 f) ∧ ∀ j, j < 4 → f j = some (a + 57 + j) := Iff.rfl
theorem HK.z0 {V : VX} {G : GH} {b M Z T : Nat} {ks : List Nat} {σ0 σ : Mem} (h : HK V G (b, M, Z, T) ks σ0 σ) {a : Nat} {x : Int32} (hk : kA b a = 3) (hf : fld σ a 11 = some (.int x)) (hx : x ≠ 0) : HK V G (b, M, 0, T) ks σ0 σ := by
  refine ⟨fun y => ?_, h.2⟩
  by_cases hy : y = a
  · subst hy
    have h1 := h.1 y
    rw [show kA (b, M, Z, T).1 y = 3 from hk] at h1
    rw [show kA (b, M, 0, T).1 y = 3 from hk]
    obtain ⟨fs, h2, h3⟩ := h1
    have h4 := fld_ob h2 hf
    have h5 : fs.set 11 (.int x) = fs := by
      apply List.ext_getElem?
      intro i
      by_cases hi : 11 = i
      · subst hi
        rw [List.getElem?_set_self (by rw [h3.1]; decide), h4]
      · rw [List.getElem?_set_ne hi]
    refine ⟨fs, h2, ?_⟩
    rw [← h5]
    exact tyl_swap h3 (fun j hj hne w q => tyvZ (by clear q; revert j; decide) q) ⟨x, fun _ => hx, rfl⟩ (by decide)
  · have h3' : kA b y ≠ 3 := fun q => hy ((kA_3 q).trans (kA_3 hk).symm)
    exact CellTy.to (E := (b, M, Z, T)) rfl (fun _ t ht v q => tyvZ (by clear q; revert t; decide) q) (fun e => absurd e h3') (fun t ht v q => tyvZ (by omega) q) (h.1 y)
section TROWS
variable {V : VX} {X : MX} {y : MethodName} {cc : ByteArray} {nL N k z pc n : Nat} {ret : Option FieldType} {R : Room} {σ : Mem} {lv : List (Nat × Value)} {st : List Value} {E : PE} {q : Nat} {ks : List Nat} {σ0 : Mem}
theorem t_get {G : GH} (F : Fx V X y cc nL ret R) {index ci j a : Nat} {tys : List (Nat × Nat)} {t : Nat × Nat} (d : DC cc pc 3 n (.getfield index)) (fl : FL y.cls index ci j) (hC : ∀ c, CellTy V G E a q c ↔ ∃ fs, c = some (ob ci fs) ∧ TyL G E a tys fs) (h : HK V G E ks σ0 σ) (hk : kA E.1 a = q) (hj : tys[j]? = some t) (kk : ∀ v, TyV G E a t v → fld σ a j = some v → Wm V X nL N σ k z n lv (v :: st)) : Wm V X nL N σ k z pc lv (.ref a :: st) := by
  have h1 := h.1 a
  rw [hk] at h1
  obtain ⟨fs, h2, h3⟩ := (hC _).mp h1
  obtain ⟨v, h4, h5⟩ := h3.2 j t hj
  exact m_get F d fl h2 h4 (kk v h5 (fld_of h2 h4))
theorem t_put {G : GH} (F : Fx V X y cc nL ret R) {index ci j a : Nat} {tys : List (Nat × Nat)} {t : Nat × Nat} {ty : FieldType} {v : Value} (d : DC cc pc 3 n (.putfield index)) (fp : FP y.cls index ci j false ty) (hC : ∀ c, CellTy V G E a q c ↔ ∃ fs, c = some (ob ci fs) ∧ TyL G E a tys fs) (h : HK V G E ks σ0 σ) (hk : kA E.1 a = q) (hj : tys[j]? = some t) (hv : TyV G E a t v) (hn : narrow ty v = v) (hf : fits ty v = true) (hq : q ∉ ks) (kk : ∀ σ' : Mem, HK V G E ks σ0 σ' → (∀ x i, kA E.1 x ≠ q → fld σ' x i = fld σ x i) → (∀ i, i ≠ j → fld σ' a i = fld σ a i) → fld σ' a j = some v → Wm V X nL N σ' k z n lv st) : Wm V X nL N σ k z pc lv (v :: .ref a :: st) := by
  have h1 := h.1 a
  rw [hk] at h1
  obtain ⟨fs, h2, h3⟩ := (hC _).mp h1
  refine m_put F d fp h2 hn hf (by rw [h3.1]; exact (List.getElem?_eq_some_iff.mp hj).1) rfl rfl (kk _ (h.up ?_ (by rw [hk]; exact hq)) (fun x i hx => fld_eq (va_up_ne _ _ (kne hk hx))) (fun i hi => ?_) (fld_of (va_up_self _ _ _) (List.getElem?_set_self (by rw [h3.1]; exact (List.getElem?_eq_some_iff.mp hj).1))))
  · rw [hk]
    exact (hC _).mpr ⟨_, rfl, h3.set hj hv⟩
  · unfold fld
    rw [va_up_self, h2]
    show (fs.set j v)[i]? = fs[i]?
    exact List.getElem?_set_ne (fun e => hi e.symm)
theorem t_putF {G : GH} (F : Fx V X y cc nL ret R) {index a b M Z T : Nat} {x : Int32} (d : DC cc pc 3 n (.putfield index)) (fp : FP y.cls index 5 11 false .int) (h : HK V G (b, M, Z, T) ks σ0 σ) (hk : kA b a = 3) (hx : x ≠ 0) (hq : 3 ∉ ks) (kk : ∀ σ' : Mem, HK V G (b, M, 0, T) ks σ0 σ' → (∀ x i, kA b x ≠ 3 → fld σ' x i = fld σ x i) → (∀ i, i ≠ 11 → fld σ' a i = fld σ a i) → fld σ' a 11 = some (.int x) → Wm V X nL N σ' k z n lv st) : Wm V X nL N σ k z pc lv (.int x :: .ref a :: st) := by
  have h1 := h.1 a
  rw [show kA (b, M, Z, T).1 a = 3 from hk] at h1
  obtain ⟨fs, h2, h3⟩ := h1
  have hH : HT V G (b, M, 0, T) (va_up σ a (some (ob 5 (fs.set 11 (.int x))))) := by
    refine ht_special (Z := Z) (T := T) h.1 hk (fun y hy => (kA_3 hy).trans (kA_3 hk).symm) (fun y hy q => ?_) ⟨_, rfl, tyl_swap h3 (fun j hj hne w q => tyvZ (by clear q; revert j; decide) q) ⟨x, fun _ => hx, rfl⟩ (by decide)⟩
    exact CellTy.to (E := (b, M, Z, T)) rfl (fun _ t ht v q => tyvZ (by clear q; revert t; decide) q) (fun e => absurd e hy) (fun t ht v q => tyvZ (by omega) q) q
  refine m_put F d fp h2 rfl rfl (by rw [h3.1]; decide) rfl rfl (kk _ ⟨hH, fun y hy => (va_up_ne _ _ (fun e => hq (by rw [e] at hy; rw [← hk]; exact hy))).trans (h.2 y hy)⟩ (fun y i hy => fld_eq (va_up_ne _ _ (kne hk hy))) (fun i hi => ?_) (fld_of (va_up_self _ _ _) (List.getElem?_set_self (by rw [h3.1]; decide))))
  unfold fld
  rw [va_up_self, h2]
  show (fs.set 11 (.int x))[i]? = fs[i]?
  exact List.getElem?_set_ne (fun e => hi e.symm)
theorem t_putT {G : GH} (F : Fx V X y cc nL ret R) {index a b M Z T T' : Nat} (d : DC cc pc 3 n (.putfield index)) (fp : FP y.cls index 7 1 false .int) (h : HK V G (b, M, Z, T) ks σ0 σ) (hk : kA b a = 1) (hq : 1 ∉ ks) (kk : ∀ σ' : Mem, HK V G (b, M, Z, T') ks σ0 σ' → (∀ x i, kA b x ≠ 1 → fld σ' x i = fld σ x i) → (∀ i, i ≠ 1 → fld σ' a i = fld σ a i) → fld σ' a 1 = some (.int (nI T')) → Wm V X nL N σ' k z n lv st) : Wm V X nL N σ k z pc lv (.int (nI T') :: .ref a :: st) := by
  have h1 := h.1 a
  rw [show kA (b, M, Z, T).1 a = 1 from hk] at h1
  obtain ⟨fs, h2, h3⟩ := h1
  have hH : HT V G (b, M, Z, T') (va_up σ a (some (ob 7 (fs.set 1 (.int (nI T')))))) := by
    refine ht_special (Z := Z) (T := T) h.1 hk (fun y hy => (kA_1 hy).trans (kA_1 hk).symm) (fun y hy q => ?_) ⟨_, rfl, tyl_swap h3 (fun j hj hne w q => tyvT (by clear q; revert j; decide) q) rfl (by decide)⟩
    exact CellTy.to (E := (b, M, Z, T)) rfl (fun e => absurd e hy) (fun _ t ht v q => tyvT (by clear q; revert t; decide) q) (fun t ht v q => tyvT (by omega) q) q
  refine m_put F d fp h2 rfl rfl (by rw [h3.1]; decide) rfl rfl (kk _ ⟨hH, fun y hy => (va_up_ne _ _ (fun e => hq (by rw [e] at hy; rw [← hk]; exact hy))).trans (h.2 y hy)⟩ (fun y i hy => fld_eq (va_up_ne _ _ (kne hk hy))) (fun i hi => ?_) (fld_of (va_up_self _ _ _) (List.getElem?_set_self (by rw [h3.1]; decide))))
  unfold fld
  rw [va_up_self, h2]
  show (fs.set 1 (.int (nI T')))[i]? = fs[i]?
  exact List.getElem?_set_ne (fun e => hi e.symm)
theorem t_getC {G : GH} (F : Fx V X y cc nL ret R) {index ci j a : Nat} {tys : List (Nat × Nat)} {v : Value} (d : DC cc pc 3 n (.getfield index)) (fl : FL y.cls index ci j) (hC : ∀ c, CellTy V G E a q c ↔ ∃ fs, c = some (ob ci fs) ∧ TyL G E a tys fs) (h : HK V G E ks σ0 σ) (hk : kA E.1 a = q) (hf : fld σ a j = some v) (kk : Wm V X nL N σ k z n lv (v :: st)) : Wm V X nL N σ k z pc lv (.ref a :: st) := by
  have h1 := h.1 a
  rw [hk] at h1
  obtain ⟨fs, h2, h3⟩ := (hC _).mp h1
  exact m_get F d fl h2 (fld_ob h2 hf) kk
theorem t_iald {G : GH} (F : Fx V X y cc nL ret R) {a len j : Nat} {i : Int32} (d : DC cc pc 1 n .iaload) (hC : ∀ c, CellTy V G E a q c ↔ ∃ f, c = some (aI V len f)) (h : HK V G E ks σ0 σ) (hk : kA E.1 a = q) (hj : i.toNatClampNeg = j) (hin : vp_in i len) (kk : ∀ x : Int32, Wm V X nL N σ k z n lv (.int x :: st)) : Wm V X nL N σ k z pc lv (.int i :: .ref a :: st) := by
  have h1 := h.1 a
  rw [hk] at h1
  obtain ⟨f, h2⟩ := (hC _).mp h1
  exact m_iald F d h2 hj hin (kk _)
theorem t_bald {G : GH} (F : Fx V X y cc nL ret R) {a len j : Nat} {i : Int32} (d : DC cc pc 1 n .baload) (hC : ∀ c, CellTy V G E a q c ↔ ∃ f, c = some (aB V len f)) (h : HK V G E ks σ0 σ) (hk : kA E.1 a = q) (hj : i.toNatClampNeg = j) (hin : vp_in i len) (kk : ∀ x : Int32, Wm V X nL N σ k z n lv (.int x :: st)) : Wm V X nL N σ k z pc lv (.int i :: .ref a :: st) := by
  have h1 := h.1 a
  rw [hk] at h1
  obtain ⟨f, h2⟩ := (hC _).mp h1
  exact m_bald F d h2 hj hin (kk _)
theorem t_lald {G : GH} (F : Fx V X y cc nL ret R) {a len j : Nat} {i : Int32} (d : DC cc pc 1 n .laload) (hC : ∀ c, CellTy V G E a q c ↔ ∃ f, c = some (aJ V len f)) (h : HK V G E ks σ0 σ) (hk : kA E.1 a = q) (hj : i.toNatClampNeg = j) (hin : vp_in i len) (kk : ∀ x : Int64, Wm V X nL N σ k z n lv (.long x :: st)) : Wm V X nL N σ k z pc lv (.int i :: .ref a :: st) := by
  have h1 := h.1 a
  rw [hk] at h1
  obtain ⟨f, h2⟩ := (hC _).mp h1
  exact m_lald F d h2 hj hin (kk _)
theorem t_aald {G : GH} (F : Fx V X y cc nL ret R) {a len j ti ke : Nat} {C : String} {i : Int32} (d : DC cc pc 1 n .aaload) (hC : ∀ c, CellTy V G E a q c ↔ ∃ f, c = some (aR ti V len f) ∧ ∀ j, j < len → ∃ r, kA E.1 r = ke ∧ f j = some r) (ht : (tysOf V.2.1)[ti]? = some (V.2.1 ti, .object C)) (h : HK V G E ks σ0 σ) (hk : kA E.1 a = q) (hj : i.toNatClampNeg = j) (hin : vp_in i len) (kk : ∀ r : Nat, kA E.1 r = ke → Wm V X nL N σ k z n lv (.ref r :: st)) : Wm V X nL N σ k z pc lv (.int i :: .ref a :: st) := by
  have h1 := h.1 a
  rw [hk] at h1
  obtain ⟨f, h2, h3⟩ := (hC _).mp h1
  obtain ⟨r, h4, h5⟩ := h3 j (by rw [← hj]; exact Nat.not_le.mp fun w => hin (Or.inr w))
  refine m_aald F d h2 ht hj hin ?_
  rw [h5]
  exact kk r h4
theorem t_iast {G : GH} (F : Fx V X y cc nL ret R) {a len j : Nat} {i x : Int32} (d : DC cc pc 1 n .iastore) (hC : ∀ c, CellTy V G E a q c ↔ ∃ f, c = some (aI V len f)) (h : HK V G E ks σ0 σ) (hk : kA E.1 a = q) (hj : i.toNatClampNeg = j) (hin : vp_in i len) (hq : q ∉ ks) (kk : ∀ σ' : Mem, HK V G E ks σ0 σ' → (∀ x i, kA E.1 x ≠ q → fld σ' x i = fld σ x i) → Wm V X nL N σ' k z n lv st) : Wm V X nL N σ k z pc lv (.int x :: .int i :: .ref a :: st) := by
  have h1 := h.1 a
  rw [hk] at h1
  obtain ⟨f, h2⟩ := (hC _).mp h1
  refine m_iast F d h2 hj hin rfl rfl (kk _ (h.up ?_ (by rw [hk]; exact hq)) (fun x i hx => fld_eq (va_up_ne _ _ (kne hk hx))))
  rw [hk]; exact (hC _).mpr ⟨_, rfl⟩
theorem t_last {G : GH} (F : Fx V X y cc nL ret R) {a len j : Nat} {i : Int32} {x : Int64} (d : DC cc pc 1 n .lastore) (hC : ∀ c, CellTy V G E a q c ↔ ∃ f, c = some (aJ V len f)) (h : HK V G E ks σ0 σ) (hk : kA E.1 a = q) (hj : i.toNatClampNeg = j) (hin : vp_in i len) (hq : q ∉ ks) (kk : ∀ σ' : Mem, HK V G E ks σ0 σ' → (∀ x i, kA E.1 x ≠ q → fld σ' x i = fld σ x i) → Wm V X nL N σ' k z n lv st) : Wm V X nL N σ k z pc lv (.long x :: .int i :: .ref a :: st) := by
  have h1 := h.1 a
  rw [hk] at h1
  obtain ⟨f, h2⟩ := (hC _).mp h1
  refine m_last F d h2 hj hin rfl rfl (kk _ (h.up ?_ (by rw [hk]; exact hq)) (fun x i hx => fld_eq (va_up_ne _ _ (kne hk hx))))
  rw [hk]; exact (hC _).mpr ⟨_, rfl⟩
theorem t_bast {G : GH} (F : Fx V X y cc nL ret R) {a len j : Nat} {i x x' : Int32} (d : DC cc pc 1 n .bastore) (hC : ∀ c, CellTy V G E a q c ↔ ∃ f, c = some (aB V len f)) (h : HK V G E ks σ0 σ) (hk : kA E.1 a = q) (hj : i.toNatClampNeg = j) (hin : vp_in i len) (hx : narrow .byte (.int x) = .int x') (hq : q ∉ ks) (kk : ∀ σ' : Mem, HK V G E ks σ0 σ' → (∀ x i, kA E.1 x ≠ q → fld σ' x i = fld σ x i) → Wm V X nL N σ' k z n lv st) : Wm V X nL N σ k z pc lv (.int x :: .int i :: .ref a :: st) := by
  have h1 := h.1 a
  rw [hk] at h1
  obtain ⟨f, h2⟩ := (hC _).mp h1
  refine m_bast F d h2 hj hin hx rfl rfl (kk _ (h.up ?_ (by rw [hk]; exact hq)) (fun x i hx => fld_eq (va_up_ne _ _ (kne hk hx))))
  rw [hk]; exact (hC _).mpr ⟨_, rfl⟩
theorem t_alenB {G : GH} (F : Fx V X y cc nL ret R) {a len : Nat} {v : Int32} (d : DC cc pc 1 n .arraylength) (hC : ∀ c, CellTy V G E a q c ↔ ∃ f, c = some (aB V len f)) (h : HK V G E ks σ0 σ) (hk : kA E.1 a = q) (hv : Int32.ofNat len = v) (kk : Wm V X nL N σ k z n lv (.int v :: st)) : Wm V X nL N σ k z pc lv (.ref a :: st) := by
  have h1 := h.1 a
  rw [hk] at h1
  obtain ⟨f, h2⟩ := (hC _).mp h1
  exact m_alen F d h2 (ti := 2) rfl hv kk
theorem t_alenI {G : GH} (F : Fx V X y cc nL ret R) {a len : Nat} {v : Int32} (d : DC cc pc 1 n .arraylength) (hC : ∀ c, CellTy V G E a q c ↔ ∃ f, c = some (aI V len f)) (h : HK V G E ks σ0 σ) (hk : kA E.1 a = q) (hv : Int32.ofNat len = v) (kk : Wm V X nL N σ k z n lv (.int v :: st)) : Wm V X nL N σ k z pc lv (.ref a :: st) := by
  have h1 := h.1 a
  rw [hk] at h1
  obtain ⟨f, h2⟩ := (hC _).mp h1
  exact m_alen F d h2 (ti := 0) rfl hv kk
theorem t_alenJ {G : GH} (F : Fx V X y cc nL ret R) {a len : Nat} {v : Int32} (d : DC cc pc 1 n .arraylength) (hC : ∀ c, CellTy V G E a q c ↔ ∃ f, c = some (aJ V len f)) (h : HK V G E ks σ0 σ) (hk : kA E.1 a = q) (hv : Int32.ofNat len = v) (kk : Wm V X nL N σ k z n lv (.int v :: st)) : Wm V X nL N σ k z pc lv (.ref a :: st) := by
  have h1 := h.1 a
  rw [hk] at h1
  obtain ⟨f, h2⟩ := (hC _).mp h1
  exact m_alen F d h2 (ti := 1) rfl hv kk
theorem t_copyI {G : GH} (F : Fx V X y cc nL ret R) {index a b len q2 : Nat} {isp idp im : Int32} (d : DC cc pc 3 n (.invokestatic index)) (ac : AC y.cls index) (hC : ∀ c, CellTy V G E a q c ↔ ∃ f, c = some (aI V len f)) (hC2 : ∀ c, CellTy V G E b q2 c ↔ ∃ f, c = some (aI V len f)) (h : HK V G E ks σ0 σ) (hk : kA E.1 a = q) (hk2 : kA E.1 b = q2) (h1 : isp = 0) (h2 : idp = 0) (h3 : ¬ im < 0) (e3 : im.toNatClampNeg = len) (hfr : 1 ≤ R.frames) (hlo : (st.map fun v => v.category).sum + (nativeFrameWords "java/lang/System" "arraycopy" 5 + 11) ≤ R.locals) (hq : q2 ∉ ks) (kk : ∀ σ' : Mem, HK V G E ks σ0 σ' → (∀ x i, kA E.1 x ≠ q2 → fld σ' x i = fld σ x i) → Wm V X nL N σ' k z n lv st) : Wm V X nL N σ k z pc lv (.int im :: .int idp :: .ref b :: .int isp :: .ref a :: st) := by
  have g1 := h.1 a
  have g2 := h.1 b
  rw [hk] at g1
  rw [hk2] at g2
  obtain ⟨f, g3⟩ := (hC _).mp g1
  obtain ⟨g, g4⟩ := (hC2 _).mp g2
  subst h1; subst h2
  refine m_copyI F d ac g3 g4 (by decide) (by decide) h3 (sp := 0) (dp := 0) (by decide) (by decide) e3 (by omega) (by omega) hfr hlo rfl rfl (kk _ (h.up ?_ (by rw [hk2]; exact hq)) (fun x i hx => fld_eq (va_up_ne _ _ (kne hk2 hx))))
  rw [hk2]; exact (hC2 _).mpr ⟨_, rfl⟩
theorem t_copyJ {G : GH} (F : Fx V X y cc nL ret R) {index a b len q2 : Nat} {isp idp im : Int32} (d : DC cc pc 3 n (.invokestatic index)) (ac : AC y.cls index) (hC : ∀ c, CellTy V G E a q c ↔ ∃ f, c = some (aJ V len f)) (hC2 : ∀ c, CellTy V G E b q2 c ↔ ∃ f, c = some (aJ V len f)) (h : HK V G E ks σ0 σ) (hk : kA E.1 a = q) (hk2 : kA E.1 b = q2) (h1 : isp = 0) (h2 : idp = 0) (h3 : ¬ im < 0) (e3 : im.toNatClampNeg = len) (hfr : 1 ≤ R.frames) (hlo : (st.map fun v => v.category).sum + (nativeFrameWords "java/lang/System" "arraycopy" 5 + 11) ≤ R.locals) (hq : q2 ∉ ks) (kk : ∀ σ' : Mem, HK V G E ks σ0 σ' → (∀ x i, kA E.1 x ≠ q2 → fld σ' x i = fld σ x i) → Wm V X nL N σ' k z n lv st) : Wm V X nL N σ k z pc lv (.int im :: .int idp :: .ref b :: .int isp :: .ref a :: st) := by
  have g1 := h.1 a
  have g2 := h.1 b
  rw [hk] at g1
  rw [hk2] at g2
  obtain ⟨f, g3⟩ := (hC _).mp g1
  obtain ⟨g, g4⟩ := (hC2 _).mp g2
  subst h1; subst h2
  refine m_copyJ F d ac g3 g4 (by decide) (by decide) h3 (sp := 0) (dp := 0) (by decide) (by decide) e3 (by omega) (by omega) hfr hlo rfl rfl (kk _ (h.up ?_ (by rw [hk2]; exact hq)) (fun x i hx => fld_eq (va_up_ne _ _ (kne hk2 hx))))
  rw [hk2]; exact (hC2 _).mpr ⟨_, rfl⟩
theorem t_callV {G : GH} (F : Fx V X y cc nL ret R) {index ci a dd maxL cn : Nat} {tys : List (Nat × Nat)} {Post : Option Value → Mem → Prop} {y2 : MethodName} {c2 : ByteArray} {r2 : Option FieldType} {As rest : List Value} (d : DC cc pc 3 n (.invokevirtual index)) (hM : Ct (x_l X) V y2 c2 maxL r2 dd 0 0 N σ (.ref a :: As) Post) (cb : CB y2 c2 maxL r2 cn) (hlink : Cond.methodLink y.cls index y2 ∈ tb) (hin : Cond.instanceMethod y2 ∈ tb) (hse : Cond.selects y2.cls y2 y2 ∈ tb) (hC : ∀ c, CellTy V G E a q c ↔ ∃ fs, c = some (ob ci fs) ∧ TyL G E a tys fs) (h : HK V G E ks σ0 σ) (hk : kA E.1 a = q) (hci : (classes[ci]?).map (·.1) = some y2.cls) (hn : As.length = cn) (hst : st = As.reverse ++ .ref a :: rest) (hw : (rest.map fun v => v.category).sum ≤ 8) (hR : dd + 1 ≤ R.frames ∧ 8 + (maxL + 11) + 41 * dd ≤ R.locals) (hf : k ≤ R.cells ∧ z ≤ R.slots) (kk : ∀ r τ, Post r τ → Wm V X nL N τ k z n lv (r.toList ++ rest)) : Wm V X nL N σ k z pc lv st := by
  have h1 := h.1 a
  rw [hk] at h1
  obtain ⟨fs, h2, h3⟩ := (hC _).mp h1
  exact m_callV F d hM cb hlink hin hse h2 hci hn hst hw hR hf (k' := k) (z' := z) (N' := N) rfl rfl rfl kk
end TROWS
theorem kd_7 : ∀ o, o < 1457 → kd o = 7 → (o = 2 ∨ o = 65 ∨ o = 130 ∨ (197 ≤ o ∧ (o - 197) % 63 = 0)) := by decide +kernel
theorem kd_8 : ∀ o, o < 1457 → kd o = 8 → ∀ j, j < 4 → kd (o + 10 + 12 * j) = 15 := by decide +kernel
theorem kd_9 : ∀ o, o < 1457 → kd o = 9 → ∀ j, j < 4 → kd (o + 57 + j) = 19 := by decide +kernel
theorem kd_bk : ∀ o, o < 1457 → kd o = 7 → ∀ r, r < 63 → kd (o + r) = kb r := by decide +kernel
theorem kA_in {b a q : Nat} (h : kA b a = q) (hq : q ≠ 0) : b ≤ a ∧ a - b < 1457 ∧ kd (a - b) = q := by
  unfold kA at h
  split at h
  · exact absurd h.symm hq
  · refine ⟨by omega, Nat.not_le.mp fun e => hq (by rw [← h, kd_big e]), h⟩
theorem kA_7 {b a r : Nat} (h : kA b a = 7) (hr : r < 63) : kA b (a + r) = kb r := by
  obtain ⟨h1, h2, h3⟩ := kA_in h (by decide)
  unfold kA
  rw [if_neg (by omega), show a + r - b = a - b + r by omega]
  exact kd_bk _ h2 h3 r hr
theorem kA_8 {b a j : Nat} (h : kA b a = 8) (hj : j < 4) : kA b (a + 10 + 12 * j) = 15 := by
  obtain ⟨h1, h2, h3⟩ := kA_in h (by decide)
  unfold kA
  rw [if_neg (by omega), show a + 10 + 12 * j - b = a - b + 10 + 12 * j by omega]
  exact kd_8 _ h2 h3 j hj
theorem kA_9 {b a j : Nat} (h : kA b a = 9) (hj : j < 4) : kA b (a + 57 + j) = 19 := by
  obtain ⟨h1, h2, h3⟩ := kA_in h (by decide)
  unfold kA
  rw [if_neg (by omega), show a + 57 + j - b = a - b + 57 + j by omega]
  exact kd_9 _ h2 h3 j hj
theorem t_aald8 {V : VX} {G : GH} {X : MX} {y : MethodName} {cc : ByteArray} {nL N k z pc n : Nat} {ret : Option FieldType} {R : Room} {σ : Mem} {lv : List (Nat × Value)} {st : List Value} {E : PE} {ks : List Nat} {σ0 : Mem} (F : Fx V X y cc nL ret R) {a j : Nat} {C : String} {i : Int32} (d : DC cc pc 1 n .aaload) (ht : (tysOf V.2.1)[4]? = some (V.2.1 4, .object C)) (h : HK V G E ks σ0 σ) (hk : kA E.1 a = 8) (hj : i.toNatClampNeg = j) (hin : vp_in i 4) (kk : Wm V X nL N σ k z n lv (.ref (a + 10 + 12 * j) :: st)) : Wm V X nL N σ k z pc lv (.int i :: .ref a :: st) := by
  have h1 := h.1 a
  rw [hk] at h1
  obtain ⟨f, h2, h3⟩ := h1
  refine m_aald F d h2 ht hj hin ?_
  rw [h3 j (by rw [← hj]; exact Nat.not_le.mp fun w => hin (Or.inr w))]
  exact kk
theorem t_aald9 {V : VX} {G : GH} {X : MX} {y : MethodName} {cc : ByteArray} {nL N k z pc n : Nat} {ret : Option FieldType} {R : Room} {σ : Mem} {lv : List (Nat × Value)} {st : List Value} {E : PE} {ks : List Nat} {σ0 : Mem} (F : Fx V X y cc nL ret R) {a j : Nat} {C : String} {i : Int32} (d : DC cc pc 1 n .aaload) (ht : (tysOf V.2.1)[5]? = some (V.2.1 5, .object C)) (h : HK V G E ks σ0 σ) (hk : kA E.1 a = 9) (hj : i.toNatClampNeg = j) (hin : vp_in i 4) (kk : Wm V X nL N σ k z n lv (.ref (a + 57 + j) :: st)) : Wm V X nL N σ k z pc lv (.int i :: .ref a :: st) := by
  have h1 := h.1 a
  rw [hk] at h1
  obtain ⟨f, h2, h3⟩ := h1
  refine m_aald F d h2 ht hj hin ?_
  rw [h3 j (by rw [← hj]; exact Nat.not_le.mp fun w => hin (Or.inr w))]
  exact kk
theorem kd_p : ∀ j, j < 20 → kd (197 + 63 * j) = 7 := by decide +kernel
theorem kA_p {b j : Nat} (hj : j < 20) : kA b (b + 197 + 63 * j) = 7 := by
  unfold kA
  rw [if_neg (by omega), show b + 197 + 63 * j - b = 197 + 63 * j by omega]
  exact kd_p j hj
theorem t_aald5 {V : VX} {G : GH} {X : MX} {y : MethodName} {cc : ByteArray} {nL N k z pc n : Nat} {ret : Option FieldType} {R : Room} {σ : Mem} {lv : List (Nat × Value)} {st : List Value} {b M Z T : Nat} {ks : List Nat} {σ0 : Mem} (F : Fx V X y cc nL ret R) {a j : Nat} {C : String} {i : Int32} (d : DC cc pc 1 n .aaload) (ht : (tysOf V.2.1)[6]? = some (V.2.1 6, .object C)) (h : HK V G (b, M, Z, T) ks σ0 σ) (hk : kA b a = 5) (hj : i.toNatClampNeg = j) (hin : vp_in i 20) (kk : Wm V X nL N σ k z n lv (.ref (b + 197 + 63 * j) :: st)) : Wm V X nL N σ k z pc lv (.int i :: .ref a :: st) := by
  have h1 := h.1 a
  rw [show kA (b, M, Z, T).1 a = 5 from hk] at h1
  obtain ⟨f, h2, h3⟩ := h1
  refine m_aald F d h2 ht hj hin ?_
  rw [h3 j (by rw [← hj]; exact Nat.not_le.mp fun w => hin (Or.inr w))]
  exact kk
/-! where a book's cells lie -/
theorem bk_at {b r : Nat} (h : kA b r = 7) : b ≤ r ∧ r - b < 1457 ∧ (r - b = 2 ∨ r - b = 65 ∨ r - b = 130 ∨ (197 ≤ r - b ∧ (r - b - 197) % 63 = 0)) := by
  obtain ⟨h1, h2, h3⟩ := kA_in h (by decide)
  exact ⟨h1, h2, kd_7 _ h2 h3⟩
theorem blk_in {b r q : Nat} (h : kA b r = 7) (hq : q < 63) : blk (r + q - b) = blk (r - b) := by
  obtain ⟨h1, h2, h3⟩ := bk_at h
  rw [show r + q - b = r - b + q by omega]
  generalize r - b = o at h2 h3
  unfold blk
  rcases h3 with rfl | rfl | rfl | ⟨h3, h4⟩
  · rw [if_pos (by omega), if_pos (by omega)]; omega
  · rw [if_pos (by omega), if_pos (by omega)]; omega
  · rw [if_neg (by omega), if_pos (by omega), if_neg (by omega), if_pos (by omega)]
  · rw [if_neg (by omega), if_neg (by omega), if_neg (by omega), if_neg (by omega)]; omega
theorem lix_in {b r i : Nat} (h : kA b r = 7) (hi : i < 4) : lix (r + 1 + 10 + 12 * i - b) = i := by
  obtain ⟨h1, h2, h3⟩ := bk_at h
  rw [show r + 1 + 10 + 12 * i - b = r - b + 11 + 12 * i by omega]
  generalize r - b = o at h2 h3
  unfold lix
  rcases h3 with rfl | rfl | rfl | ⟨h3, h4⟩
  · rcases (show i = 0 ∨ i = 1 ∨ i = 2 ∨ i = 3 by omega) with rfl | rfl | rfl | rfl <;> rfl
  · rcases (show i = 0 ∨ i = 1 ∨ i = 2 ∨ i = 3 by omega) with rfl | rfl | rfl | rfl <;> rfl
  · rcases (show i = 0 ∨ i = 1 ∨ i = 2 ∨ i = 3 by omega) with rfl | rfl | rfl | rfl <;> rfl
  · rw [if_neg (by omega), if_neg (by omega)]
    rcases (show i = 0 ∨ i = 1 ∨ i = 2 ∨ i = 3 by omega) with rfl | rfl | rfl | rfl <;> omega
theorem blk_injO {o p : Nat} (h3 : o = 2 ∨ o = 65 ∨ o = 130 ∨ (197 ≤ o ∧ (o - 197) % 63 = 0)) (h3' : p = 2 ∨ p = 65 ∨ p = 130 ∨ (197 ≤ p ∧ (p - 197) % 63 = 0)) (e : blk o = blk p) : o = p := by
  unfold blk at e
  by_cases a1 : o < 128
  · rw [if_pos a1] at e
    by_cases b1 : p < 128
    · rw [if_pos b1] at e; omega
    · rw [if_neg b1] at e
      by_cases b2 : p < 193
      · rw [if_pos b2] at e; omega
      · rw [if_neg b2] at e; omega
  · rw [if_neg a1] at e
    by_cases a2 : o < 193
    · rw [if_pos a2] at e
      by_cases b1 : p < 128
      · rw [if_pos b1] at e; omega
      · rw [if_neg b1] at e
        by_cases b2 : p < 193
        · omega
        · rw [if_neg b2] at e; omega
    · rw [if_neg a2] at e
      by_cases b1 : p < 128
      · rw [if_pos b1] at e; omega
      · rw [if_neg b1] at e
        by_cases b2 : p < 193
        · rw [if_pos b2] at e; omega
        · rw [if_neg b2] at e; omega
theorem blk_inj {b r r' : Nat} (h : kA b r = 7) (h' : kA b r' = 7) (e : blk (r - b) = blk (r' - b)) : r = r' := by
  obtain ⟨h1, h2, h3⟩ := bk_at h
  obtain ⟨h1', h2', h3'⟩ := bk_at h'
  have e2 := blk_injO h3 h3' e
  omega
theorem kd_15 : ∀ o, o < 1457 → kd o = 15 → kd (o - 11 - 12 * lix o) = 7 ∧ lix o < 4 ∧ 11 + 12 * lix o ≤ o := by decide +kernel
theorem le_at {b a : Nat} (h : kA b a = 15) : ∃ r i, kA b r = 7 ∧ i < 4 ∧ a = r + 1 + 10 + 12 * i := by
  obtain ⟨h1, h2, h3⟩ := kA_in h (by decide)
  obtain ⟨h4, h5, h6⟩ := kd_15 _ h2 h3
  refine ⟨a - 11 - 12 * lix (a - b), lix (a - b), ?_, h5, by omega⟩
  unfold kA
  rw [if_neg (by omega), show a - 11 - 12 * lix (a - b) - b = a - b - 11 - 12 * lix (a - b) by omega]
  exact h4
theorem kA_bk {b k : Nat} (hk : k ≤ 1) : kA b (b + 2 + 63 * k) = 7 := by
  unfold kA
  rw [if_neg (by omega), show b + 2 + 63 * k - b = 2 + 63 * k by omega]
  rcases (show k = 0 ∨ k = 1 by omega) with rfl | rfl <;> decide
theorem blk_bk {b k : Nat} (hk : k ≤ 1) : blk (b + 2 + 63 * k - b) = k := by
  rw [show b + 2 + 63 * k - b = 2 + 63 * k by omega]
  unfold blk
  rw [if_pos (by omega)]; omega
theorem blk_im {b : Nat} : blk (b + 130 - b) = 2 := by
  rw [show b + 130 - b = 130 by omega]; rfl
theorem blk_p {b j : Nat} (hj : j < 20) : blk (b + 197 + 63 * j - b) = 3 + j := by
  rw [show b + 197 + 63 * j - b = 197 + 63 * j by omega]
  unfold blk
  rw [if_neg (by omega), if_neg (by omega)]; omega
/-- a book bears the names of G -/
def BN (σ : Mem) (G : GH) (r : Nat) : Prop := fld σ r 8 = some (.int (nI G.n0)) ∧ ∀ i, i < G.n0 → fld σ (r + 1 + 10 + 12 * i) 0 = some (.int (G.nm i))
theorem HT.bn {V : VX} {G : GH} {b M Z T r : Nat} {σ : Mem} (h : HT V G (b, M, Z, T) σ) (hr : kA b r = 7) (hg : G.gd (blk (r - b)) = 1) : G.n0 ≤ 4 ∧ BN σ G r := by
  have h1 := h r
  rw [show kA (b, M, Z, T).1 r = 7 from hr] at h1
  obtain ⟨fs, h2, h3⟩ := h1
  obtain ⟨v, h4, n, ⟨h5, h6⟩, rfl⟩ := h3.2 8 (8, 0) rfl
  have h7 : n = G.n0 := h6 hg
  subst h7
  refine ⟨h5, fld_of h2 h4, fun i hi => ?_⟩
  have h9 : kA b (r + 1 + 10 + 12 * i) = 15 := kA_8 (kA_7 hr (r := 1) (by decide)) (j := i) (by omega)
  have g1 := h (r + 1 + 10 + 12 * i)
  rw [show kA (b, M, Z, T).1 (r + 1 + 10 + 12 * i) = 15 from h9] at g1
  obtain ⟨gs, g2, g3⟩ := g1
  obtain ⟨v, g4, x, g5, rfl⟩ := g3.2 0 (9, 0) rfl
  have e1 : blk (r + 1 + 10 + 12 * i - b) = blk (r - b) := by
    have := blk_in hr (q := 11 + 12 * i) (by omega)
    rw [show r + (11 + 12 * i) - b = r + 1 + 10 + 12 * i - b by omega] at this
    exact this
  have g6 : G.gd (blk (r + 1 + 10 + 12 * i - b)) = 1 → lix (r + 1 + 10 + 12 * i - b) < G.n0 → x = G.nm (lix (r + 1 + 10 + 12 * i - b)) := g5
  rw [e1, lix_in hr (by omega)] at g6
  rw [← g6 hg hi]
  exact fld_of g2 g4
theorem nI_injT {a b : Nat} (ha : a < 2147483648) (hb : b < 2147483648) (h : nI a = nI b) : a = b := by
  have h1 := congrArg Int32.toInt h
  rw [nI_ti ha, nI_ti hb] at h1
  omega
theorem tyvG {G G' : GH} {E : PE} {a : Nat} {t : Nat × Nat} {v : Value} (h8 : t.1 ≠ 8) (h9 : t.1 ≠ 9) (e1 : G'.bk = G.bk) (e2 : G'.sp = G.sp) (e3 : G'.ik = G.ik) (e4 : G'.pf = G.pf) (e5 : G'.pc = G.pc) (h : TyV G E a t v) : TyV G' E a t v := by
  obtain ⟨c, w⟩ := t
  match c, h8, h9 with
  | 0, _, _ => exact h
  | 1, _, _ => exact h
  | 2, _, _ => exact h
  | 3, _, _ => exact h
  | 4, _, _ => exact h
  | 5, _, _ => exact h
  | 6, _, _ => exact h
  | 7, _, _ => exact h
  | 8, h8, _ => exact absurd rfl h8
  | 9, _, h9 => exact absurd rfl h9
  | 10, _, _ =>
    obtain ⟨r, ⟨q1, q2⟩, q3⟩ := h
    exact ⟨r, ⟨q1, by rw [e1]; exact q2⟩, q3⟩
  | 11, _, _ =>
    obtain ⟨r, ⟨q1, q2⟩, q3⟩ := h
    exact ⟨r, ⟨q1, by rw [e2]; exact q2⟩, q3⟩
  | 12, _, _ => exact h
  | 13, _, _ =>
    obtain ⟨r, ⟨q1, q2⟩, q3⟩ := h
    exact ⟨r, ⟨q1, by rw [e3]; exact q2⟩, q3⟩
  | 14, _, _ =>
    obtain ⟨r, ⟨q1, q2⟩, q3⟩ := h
    exact ⟨r, ⟨q1, by rw [e4]; exact q2⟩, q3⟩
  | 15, _, _ =>
    obtain ⟨r, ⟨q1, q2⟩, q3⟩ := h
    exact ⟨r, ⟨q1, by rw [e5]; exact q2⟩, q3⟩
  | c + 16, _, _ => exact h
/-- a cell that is neither a book nor a LEASE, by other ghosts -/
theorem CellTy.toG {V : VX} {G G' : GH} {E : PE} {a k : Nat} {c : Option va_E} (h7 : k ≠ 7) (h15 : k ≠ 15) (hv : ∀ t : Nat × Nat, t.1 ≠ 8 → t.1 ≠ 9 → ∀ v, TyV G E a t v → TyV G' E a t v) (h : CellTy V G E a k c) : CellTy V G' E a k c := by
  unfold CellTy at h ⊢
  split at h
  · trivial
  · obtain ⟨fs, e, q⟩ := h; exact ⟨fs, e, q.to (fun t ht v => hv t (by revert t; decide) (by revert t; decide) v)⟩
  · exact h
  · obtain ⟨fs, e, q⟩ := h; exact ⟨fs, e, q.to (fun t ht v => hv t (by revert t; decide) (by revert t; decide) v)⟩
  · exact h
  · exact h
  · obtain ⟨fs, e, q⟩ := h; exact ⟨fs, e, q.to (fun t ht v => hv t (by revert t; decide) (by revert t; decide) v)⟩
  · exact absurd rfl h7
  · exact h
  · exact h
  · exact h
  · exact h
  · obtain ⟨fs, e, q⟩ := h; exact ⟨fs, e, q.to (fun t ht v => hv t (by revert t; decide) (by revert t; decide) v)⟩
  · exact h
  · exact h
  · exact absurd rfl h15
  · obtain ⟨fs, e, q⟩ := h; exact ⟨fs, e, q.to (fun t ht v => hv t (by revert t; decide) (by revert t; decide) v)⟩
  · exact h
  · exact h
  · obtain ⟨fs, e, q⟩ := h; exact ⟨fs, e, q.to (fun t ht v => hv t (by revert t; decide) (by revert t; decide) v)⟩
  · trivial
/-- the ghosts change, the memory doesn't: what is said of books by the new ones must hold -/
theorem HT.chG {V : VX} {G G' : GH} {b M Z T : Nat} {σ : Mem} (h : HT V G (b, M, Z, T) σ) (hn : G'.n0 ≤ 4) (hb : ∀ r, kA b r = 7 → G'.gd (blk (r - b)) = 1 → BN σ G' r) (e1 : G'.bk = G.bk) (e2 : G'.sp = G.sp) (e3 : G'.ik = G.ik) (e4 : G'.pf = G.pf) (e5 : G'.pc = G.pc) : HT V G' (b, M, Z, T) σ := by
  intro a
  have h1 := h a
  show CellTy V G' (b, M, Z, T) a (kA b a) (σ a)
  replace h1 : CellTy V G (b, M, Z, T) a (kA b a) (σ a) := h1
  by_cases h7 : kA b a = 7
  · rw [h7] at h1 ⊢
    obtain ⟨fs, h2, h3⟩ := h1
    refine ⟨fs, h2, h3.1, fun j t ht => ?_⟩
    obtain ⟨v, h4, h5⟩ := h3.2 j t ht
    refine ⟨v, h4, ?_⟩
    by_cases hj : j = 8
    · subst hj
      cases ht
      obtain ⟨n, ⟨h6, -⟩, rfl⟩ := h5
      refine ⟨n, ⟨h6, fun hg => ?_⟩, rfl⟩
      have h8 := (hb a h7 hg).1
      exact nI_injT (by omega) (by omega) (Value.int.inj (Option.some.inj ((fld_of h2 h4).symm.trans h8)))
    · have key : ∀ i, i < 13 → i ≠ 8 → (oL7.getD i (0, 0)).1 ≠ 8 ∧ (oL7.getD i (0, 0)).1 ≠ 9 := by decide
      have hu' : oL7.getD j (0, 0) = t := by rw [List.getD_eq_getElem?_getD, ht]; rfl
      have hk := key j (List.getElem?_eq_some_iff.mp ht).1 hj
      rw [hu'] at hk
      exact tyvG hk.1 hk.2 e1 e2 e3 e4 e5 h5
  · by_cases h15 : kA b a = 15
    · obtain ⟨r, i, hr, hi, rfl⟩ := le_at h15
      rw [h15] at h1 ⊢
      obtain ⟨fs, h2, h3⟩ := h1
      refine ⟨fs, h2, h3.1, fun j t ht => ?_⟩
      obtain ⟨v, h4, h5⟩ := h3.2 j t ht
      refine ⟨v, h4, ?_⟩
      by_cases hj : j = 0
      · subst hj
        cases ht
        obtain ⟨x, -, rfl⟩ := h5
        have e9 : blk (r + 1 + 10 + 12 * i - b) = blk (r - b) := by
          have := blk_in hr (q := 11 + 12 * i) (by omega)
          rw [show r + (11 + 12 * i) - b = r + 1 + 10 + 12 * i - b by omega] at this
          exact this
        refine ⟨x, ?_, rfl⟩
        show G'.gd (blk (r + 1 + 10 + 12 * i - b)) = 1 → lix (r + 1 + 10 + 12 * i - b) < G'.n0 → x = G'.nm (lix (r + 1 + 10 + 12 * i - b))
        rw [e9, lix_in hr hi]
        intro hg hl
        exact Value.int.inj (Option.some.inj ((fld_of h2 h4).symm.trans ((hb r hr hg).2 i hl)))
      · have key : ∀ i, i < 18 → i ≠ 0 → (oL15.getD i (0, 0)).1 ≠ 8 ∧ (oL15.getD i (0, 0)).1 ≠ 9 := by decide
        have hu' : oL15.getD j (0, 0) = t := by rw [List.getD_eq_getElem?_getD, ht]; rfl
        have hk := key j (List.getElem?_eq_some_iff.mp ht).1 hj
        rw [hu'] at hk
        exact tyvG hk.1 hk.2 e1 e2 e3 e4 e5 h5
    · exact CellTy.toG h7 h15 (fun t h8 h9 v q => tyvG h8 h9 e1 e2 e3 e4 e5 q) h1
abbrev mkG (gd : Nat → Nat) (n0 : Nat) (nm : Nat → Int32) (bk sp ik pf pc : Nat) : GH := (gd, n0, nm, bk, sp, ik, pf, pc)
def upG (f : Nat → Nat) (k v : Nat) : Nat → Nat := fun i => if i = k then v else f i
theorem upG_e {f : Nat → Nat} {k v : Nat} : upG f k v k = v := if_pos rfl
theorem upG_n {f : Nat → Nat} {k v i : Nat} (h : i ≠ k) : upG f k v i = f i := if_neg h
abbrev setG (G : GH) (k v : Nat) : GH := mkG (upG G.gd k v) G.n0 G.nm G.bk G.sp G.ik G.pf G.pc
/-- a book that bears the names no more (or is not asked to), one that does -/
theorem HT.off {V : VX} {G : GH} {b M Z T k : Nat} {σ : Mem} (h : HT V G (b, M, Z, T) σ) (hn : G.n0 ≤ 4) : HT V (setG G k 0) (b, M, Z, T) σ :=
  h.chG hn (fun r hr hg => by
    by_cases e : blk (r - b) = k
    · rw [show (setG G k 0).gd = upG G.gd k 0 from rfl, e, upG_e] at hg; exact absurd hg (by decide)
    · rw [show (setG G k 0).gd = upG G.gd k 0 from rfl, upG_n e] at hg; exact (h.bn hr hg).2) rfl rfl rfl rfl rfl
theorem HT.on {V : VX} {G : GH} {b M Z T k r0 : Nat} {σ : Mem} (h : HT V G (b, M, Z, T) σ) (hn : G.n0 ≤ 4) (h0 : kA b r0 = 7) (hk : blk (r0 - b) = k) (hB : BN σ G r0) : HT V (setG G k 1) (b, M, Z, T) σ :=
  h.chG hn (fun r hr hg => by
    by_cases e : blk (r - b) = k
    · obtain rfl := blk_inj hr h0 (e.trans hk.symm); exact hB
    · rw [show (setG G k 1).gd = upG G.gd k 1 from rfl, upG_n e] at hg; exact (h.bn hr hg).2) rfl rfl rfl rfl rfl
theorem CellTy.byG {V : VX} {G G' : GH} {b M Z T a k : Nat} {c : Option va_E} (e1 : G'.gd = G.gd) (e2 : G'.n0 = G.n0) (e3 : G'.nm = G.nm) (hk : k ≠ 1) (h : CellTy V G (b, M, Z, T) a k c) : CellTy V G' (b, M, Z, T) a k c := by
  have hv : ∀ t : Nat × Nat, t.1 < 10 → ∀ v, TyV G (b, M, Z, T) a t v → TyV G' (b, M, Z, T) a t v := by
    intro t ht v q
    obtain ⟨tc, tw⟩ := t
    replace ht : tc < 10 := ht
    unfold TyV at q ⊢
    rcases (show tc = 0 ∨ tc = 1 ∨ tc = 2 ∨ tc = 3 ∨ tc = 4 ∨ tc = 5 ∨ tc = 6 ∨ tc = 7 ∨ tc = 8 ∨ tc = 9 by omega) with rfl | rfl | rfl | rfl | rfl | rfl | rfl | rfl | rfl | rfl
    · exact q
    · exact q
    · exact q
    · exact q
    · exact q
    · exact q
    · exact q
    · exact q
    · show ∃ n : Nat, (n ≤ 4 ∧ (G'.gd (blk (a - b)) = 1 → n = G'.n0)) ∧ v = .int (nI n)
      rw [e1, e2]; exact q
    · show ∃ x : Int32, (G'.gd (blk (a - b)) = 1 → lix (a - b) < G'.n0 → x = G'.nm (lix (a - b))) ∧ v = .int x
      rw [e1, e2, e3]; exact q
  unfold CellTy at h ⊢
  split at h
  · trivial
  · exact absurd rfl hk
  · exact h
  · obtain ⟨fs, e, q⟩ := h; exact ⟨fs, e, q.to (fun t ht v => hv t (by revert t; decide) v)⟩
  · exact h
  · exact h
  · obtain ⟨fs, e, q⟩ := h; exact ⟨fs, e, q.to (fun t ht v => hv t (by revert t; decide) v)⟩
  · obtain ⟨fs, e, q⟩ := h; exact ⟨fs, e, q.to (fun t ht v => hv t (by revert t; decide) v)⟩
  · exact h
  · exact h
  · exact h
  · exact h
  · obtain ⟨fs, e, q⟩ := h; exact ⟨fs, e, q.to (fun t ht v => hv t (by revert t; decide) v)⟩
  · exact h
  · exact h
  · obtain ⟨fs, e, q⟩ := h; exact ⟨fs, e, q.to (fun t ht v => hv t (by revert t; decide) v)⟩
  · obtain ⟨fs, e, q⟩ := h; exact ⟨fs, e, q.to (fun t ht v => hv t (by revert t; decide) v)⟩
  · exact h
  · exact h
  · obtain ⟨fs, e, q⟩ := h; exact ⟨fs, e, q.to (fun t ht v => hv t (by revert t; decide) v)⟩
  · trivial
/-- a field of the ledger is written, and with it its ghost -/
theorem t_putG {V : VX} {G G' : GH} {X : MX} {y : MethodName} {cc : ByteArray} {nL N k z pc n : Nat} {ret : Option FieldType} {R : Room} {σ : Mem} {lv : List (Nat × Value)} {st : List Value} {ks : List Nat} {σ0 : Mem} (F : Fx V X y cc nL ret R) {index j a b M Z T : Nat} {ty : FieldType} {v : Value} (d : DC cc pc 3 n (.putfield index)) (fp : FP y.cls index 7 j false ty) (h : HK V G (b, M, Z, T) ks σ0 σ) (hk : kA b a = 1) (hj : j < 13) (e1 : G'.gd = G.gd) (e2 : G'.n0 = G.n0) (e3 : G'.nm = G.nm) (hv : TyV G' (b, M, Z, T) a (oL1.getD j (0, 0)) v) (ho : ∀ i, i < 13 → i ≠ j → ∀ w, TyV G (b, M, Z, T) a (oL1.getD i (0, 0)) w → TyV G' (b, M, Z, T) a (oL1.getD i (0, 0)) w) (hn : narrow ty v = v) (hf : fits ty v = true) (hq : 1 ∉ ks) (kk : ∀ σ' : Mem, HK V G' (b, M, Z, T) ks σ0 σ' → (∀ x i, kA b x ≠ 1 → fld σ' x i = fld σ x i) → (∀ i, i ≠ j → fld σ' a i = fld σ a i) → fld σ' a j = some v → Wm V X nL N σ' k z n lv st) : Wm V X nL N σ k z pc lv (v :: .ref a :: st) := by
  have h1 := h.1 a
  rw [show kA (b, M, Z, T).1 a = 1 from hk] at h1
  obtain ⟨fs, h2, h3⟩ := h1
  have hH : HT V G' (b, M, Z, T) (va_up σ a (some (ob 7 (fs.set j v)))) := by
    intro x
    by_cases hx : x = a
    · subst hx
      rw [va_up_self, show kA (b, M, Z, T).1 x = 1 from hk]
      exact ⟨_, rfl, tyl_swap h3 (fun i hi hne w q => ho i hi hne w q) hv hj⟩
    · rw [va_up_ne _ _ hx]
      have h9 := h.1 x
      have hx1 : kA b x ≠ 1 := fun q => hx ((kA_1 q).trans (kA_1 hk).symm)
      exact CellTy.byG e1 e2 e3 hx1 h9
  refine m_put F d fp h2 hn hf (by rw [h3.1]; exact hj) rfl rfl (kk _ ⟨hH, fun y hy => (va_up_ne _ _ (fun e => hq (by rw [e] at hy; rw [← hk]; exact hy))).trans (h.2 y hy)⟩ (fun y i hy => fld_eq (va_up_ne _ _ (kne hk hy))) (fun i hi => ?_) (fld_of (va_up_self _ _ _) (List.getElem?_set_self (by rw [h3.1]; exact hj))))
  unfold fld
  rw [va_up_self, h2]
  show (fs.set j v)[i]? = fs[i]?
  exact List.getElem?_set_ne (fun e => hi e.symm)
/-- the ghosts as a run has them: the ledger's book bears the names, the spare isn't said to; so do the image, if kept, and what may be undone -/
def okG (G : GH) : Prop := G.n0 ≤ 4 ∧ G.bk ≤ 1 ∧ G.sp = 1 - G.bk ∧ G.gd G.bk = 1 ∧ (¬ G.gd G.sp = 1) ∧ (G.ik = 1 → G.gd 2 = 1) ∧ G.pf ≤ 19 ∧ G.pc ≤ 20 ∧ ((∀ p, p < 20 → G.gd (3 + p) = 1) ∨ (G.pf = 0 ∧ ∀ p, p < G.pc → G.gd (3 + p) = 1))
def GRel (G G' : GH) : Prop := okG G' ∧ G'.n0 = G.n0 ∧ G'.nm = G.nm ∧ G'.bk = G.bk
theorem GRel.refl {G : GH} (h : okG G) : GRel G G := ⟨h, rfl, rfl, rfl⟩
theorem GRel.trans {G G' G2 : GH} (h : GRel G G') (h' : GRel G' G2) : GRel G G2 := ⟨h'.1, h'.2.1.trans h.2.1, h'.2.2.1.trans h.2.2.1, h'.2.2.2.trans h.2.2.2⟩
theorem gd_le {G : GH} {b r j : Nat} (hr : kA b r = 7) (hj : j < 4) (h : ¬ G.gd (blk (r - b)) = 1) : ¬ G.gd (blk (r + 1 + 10 + 12 * j - b)) = 1 := by
  have e := blk_in hr (q := 11 + 12 * j) (by omega)
  rw [show r + (11 + 12 * j) - b = r + 1 + 10 + 12 * j - b by omega] at e
  rw [e]; exact h
theorem gd_sp {G : GH} {b r : Nat} (hG : okG G) (e : r = b + 2 + 63 * G.sp) : ¬ G.gd (blk (r - b)) = 1 := by
  obtain ⟨h1, h2, h3, h4, h5, h6⟩ := hG
  rw [e, blk_bk (by omega)]; exact h5
theorem gd_bk {G : GH} {b r : Nat} (hG : okG G) (e : r = b + 2 + 63 * G.bk) : G.gd (blk (r - b)) = 1 := by
  obtain ⟨h1, h2, h3, h4, h5, h6⟩ := hG
  rw [e, blk_bk (by omega)]; exact h4
theorem gd_off {G : GH} {b r k : Nat} (e : blk (r - b) = k) : ¬ (setG G k 0).gd (blk (r - b)) = 1 := by
  rw [e, show (setG G k 0).gd k = upG G.gd k 0 k from rfl, upG_e]; decide
theorem gd_oth {G : GH} {b r k : Nat} (e : blk (r - b) ≠ k) (h : G.gd (blk (r - b)) = 1) : (setG G k 0).gd (blk (r - b)) = 1 := (upG_n e).trans h
/-- off, and on again -/
abbrev onG (G : GH) (k : Nat) : GH := setG (setG G k 0) k 1
theorem onG_e {G : GH} {k : Nat} : (onG G k).gd k = 1 := upG_e
theorem onG_n {G : GH} {k i : Nat} (h : i ≠ k) : (onG G k).gd i = G.gd i := (upG_n h).trans (upG_n h)
theorem onG_1 {G : GH} {k i : Nat} (h : G.gd i = 1) : (onG G k).gd i = 1 := by
  by_cases e : i = k
  · rw [e]; exact onG_e
  · rw [onG_n e]; exact h
theorem okG.ring {G : GH} (h : okG G) (h1 : 1 ≤ G.pc) : G.gd (3 + (G.pf + G.pc - 1) % 20) = 1 := by
  obtain ⟨-, -, -, -, -, -, a7, a8, a9⟩ := h
  rcases a9 with a | ⟨a, a'⟩
  · exact a _ (Nat.mod_lt _ (by decide))
  · exact a' _ (by rw [a]; omega)
theorem okG.rem1 {G : GH} {n1 n2 : Nat} (h : okG G) (e1 : n1 = G.pf) (e2 : n2 = G.pc) (hn : n2 < 20) : GRel G (mkG (onG G (3 + (n1 + n2) % 20)).gd G.n0 G.nm G.bk G.sp G.ik G.pf (n2 + 1)) := by
  obtain ⟨a1, a2, a3, a4, a5, a6, a7, a8, a9⟩ := h
  refine ⟨⟨a1, a2, a3, onG_1 a4, ?_, fun e => onG_1 (a6 e), a7, hn, ?_⟩, rfl, rfl, rfl⟩
  · show ¬ (onG G (3 + (n1 + n2) % 20)).gd G.sp = 1
    rw [onG_n (by omega)]; exact a5
  · rcases a9 with a | ⟨a, a'⟩
    · exact Or.inl (fun p hp => onG_1 (a p hp))
    · refine Or.inr ⟨a, fun p hp => ?_⟩
      replace hp : p < n2 + 1 := hp
      by_cases e : p = n2
      · show (onG G (3 + (n1 + n2) % 20)).gd (3 + p) = 1
        rw [show 3 + p = 3 + (n1 + n2) % 20 by rw [e1, a]; omega]; exact onG_e
      · exact onG_1 (a' p (by omega))
theorem okG.rem2 {G : GH} {n1 n2 : Nat} (h : okG G) (e1 : n1 = G.pf) (e2 : n2 = G.pc) (hn : ¬ n2 < 20) : GRel G (mkG (onG G (3 + (n1 + n2) % 20)).gd G.n0 G.nm G.bk G.sp G.ik ((n1 + 1) % 20) G.pc) := by
  obtain ⟨a1, a2, a3, a4, a5, a6, a7, a8, a9⟩ := h
  refine ⟨⟨a1, a2, a3, onG_1 a4, ?_, fun e => onG_1 (a6 e), by show (n1 + 1) % 20 ≤ 19; omega, a8, ?_⟩, rfl, rfl, rfl⟩
  · show ¬ (onG G (3 + (n1 + n2) % 20)).gd G.sp = 1
    rw [onG_n (by omega)]; exact a5
  · refine Or.inl (fun p hp => onG_1 ?_)
    rcases a9 with a | ⟨a, a'⟩
    · exact a p hp
    · exact a' p (by omega)
theorem okG.undo {G : GH} {n2 : Nat} (h : okG G) (e2 : n2 = G.pc) : GRel G (mkG (onG G G.bk).gd G.n0 G.nm G.bk G.sp G.ik G.pf (n2 - 1)) := by
  obtain ⟨a1, a2, a3, a4, a5, a6, a7, a8, a9⟩ := h
  refine ⟨⟨a1, a2, a3, onG_1 a4, ?_, fun e => onG_1 (a6 e), a7, by show n2 - 1 ≤ 20; omega, ?_⟩, rfl, rfl, rfl⟩
  · show ¬ (onG G G.bk).gd G.sp = 1
    rw [onG_n (by omega)]; exact a5
  · rcases a9 with a | ⟨a, a'⟩
    · exact Or.inl (fun p hp => onG_1 (a p hp))
    · exact Or.inr ⟨a, fun p hp => onG_1 (a' p (by replace hp : p < n2 - 1 := hp; omega))⟩
theorem okG.same {G : GH} (h : okG G) : GRel G (onG G G.bk) := by
  obtain ⟨a1, a2, a3, a4, a5, a6, a7, a8, a9⟩ := h
  refine ⟨⟨a1, a2, a3, onG_1 a4, ?_, fun e => onG_1 (a6 e), a7, a8, ?_⟩, rfl, rfl, rfl⟩
  · show ¬ (onG G G.bk).gd G.sp = 1
    rw [onG_n (by omega)]; exact a5
  · rcases a9 with a | ⟨a, a'⟩
    · exact Or.inl (fun p hp => onG_1 (a p hp))
    · exact Or.inr ⟨a, fun p hp => onG_1 (a' p hp)⟩
theorem okG.keep {G : GH} (h : okG G) : GRel G (mkG (onG G 2).gd G.n0 G.nm G.bk G.sp 1 G.pf G.pc) := by
  obtain ⟨a1, a2, a3, a4, a5, a6, a7, a8, a9⟩ := h
  refine ⟨⟨a1, a2, a3, onG_1 a4, ?_, fun _ => (onG_e (G := G) (k := 2)), a7, a8, ?_⟩, rfl, rfl, rfl⟩
  · show ¬ (onG G 2).gd G.sp = 1
    rw [onG_n (by omega)]; exact a5
  · rcases a9 with a | ⟨a, a'⟩
    · exact Or.inl (fun p hp => onG_1 (a p hp))
    · exact Or.inr ⟨a, fun p hp => onG_1 (a' p hp)⟩
theorem okG.forget {G : GH} (h : okG G) : GRel G (mkG G.gd G.n0 G.nm G.bk G.sp G.ik 0 0) := by
  obtain ⟨a1, a2, a3, a4, a5, a6, a7, a8, a9⟩ := h
  exact ⟨⟨a1, a2, a3, a4, a5, a6, Nat.zero_le _, Nat.zero_le _, Or.inr ⟨rfl, fun p hp => absurd hp (Nat.not_lt_zero _)⟩⟩, rfl, rfl, rfl⟩
theorem BN.hk {V : VX} {G G' : GH} {b M Z T r : Nat} {ks : List Nat} {σ τ : Mem} (h : BN σ G r) (hn : G.n0 ≤ 4) (hr : kA b r = 7) (hh : HK V G' (b, M, Z, T) ks σ τ) (h7 : 7 ∈ ks) (h15 : 15 ∈ ks) : BN τ G r :=
  ⟨(fld_eq (hh.2 r (by rw [show kA (b, M, Z, T).1 r = 7 from hr]; exact h7))).trans h.1, fun i hi => (fld_eq (hh.2 _ (by rw [show kA (b, M, Z, T).1 (r + 1 + 10 + 12 * i) = 15 from kA_8 (kA_7 hr (r := 1) (by decide)) (j := i) (by omega)]; exact h15))).trans (h.2 i hi)⟩
theorem kdnT {b x y p q : Nat} (h1 : kA b x = p) (h2 : kA b y = q) (h : p ≠ q) : x ≠ y := fun e => h (by rw [← h1, ← h2, e])
theorem ctlG_bk {G : GH} {b M Z T a x : Nat} : ∀ i, i < 13 → i ≠ 2 → ∀ w, TyV G (b, M, Z, T) a (oL1.getD i (0, 0)) w → TyV (mkG G.gd G.n0 G.nm x G.sp G.ik G.pf G.pc) (b, M, Z, T) a (oL1.getD i (0, 0)) w := by
  intro i hi hne w hw
  rcases (show i = 0 ∨ i = 1 ∨ i = 2 ∨ i = 3 ∨ i = 4 ∨ i = 5 ∨ i = 6 ∨ i = 7 ∨ i = 8 ∨ i = 9 ∨ i = 10 ∨ i = 11 ∨ i = 12 by omega) with rfl | rfl | rfl | rfl | rfl | rfl | rfl | rfl | rfl | rfl | rfl | rfl | rfl
  · exact hw
  · exact hw
  · exact absurd rfl hne
  · exact hw
  · exact hw
  · exact hw
  · exact hw
  · exact hw
  · exact hw
  · exact hw
  · exact hw
  · exact hw
  · exact hw
theorem ctlG_sp {G : GH} {b M Z T a x : Nat} : ∀ i, i < 13 → i ≠ 3 → ∀ w, TyV G (b, M, Z, T) a (oL1.getD i (0, 0)) w → TyV (mkG G.gd G.n0 G.nm G.bk x G.ik G.pf G.pc) (b, M, Z, T) a (oL1.getD i (0, 0)) w := by
  intro i hi hne w hw
  rcases (show i = 0 ∨ i = 1 ∨ i = 2 ∨ i = 3 ∨ i = 4 ∨ i = 5 ∨ i = 6 ∨ i = 7 ∨ i = 8 ∨ i = 9 ∨ i = 10 ∨ i = 11 ∨ i = 12 by omega) with rfl | rfl | rfl | rfl | rfl | rfl | rfl | rfl | rfl | rfl | rfl | rfl | rfl
  · exact hw
  · exact hw
  · exact hw
  · exact absurd rfl hne
  · exact hw
  · exact hw
  · exact hw
  · exact hw
  · exact hw
  · exact hw
  · exact hw
  · exact hw
  · exact hw
theorem ctlG_ik {G : GH} {b M Z T a x : Nat} : ∀ i, i < 13 → i ≠ 6 → ∀ w, TyV G (b, M, Z, T) a (oL1.getD i (0, 0)) w → TyV (mkG G.gd G.n0 G.nm G.bk G.sp x G.pf G.pc) (b, M, Z, T) a (oL1.getD i (0, 0)) w := by
  intro i hi hne w hw
  rcases (show i = 0 ∨ i = 1 ∨ i = 2 ∨ i = 3 ∨ i = 4 ∨ i = 5 ∨ i = 6 ∨ i = 7 ∨ i = 8 ∨ i = 9 ∨ i = 10 ∨ i = 11 ∨ i = 12 by omega) with rfl | rfl | rfl | rfl | rfl | rfl | rfl | rfl | rfl | rfl | rfl | rfl | rfl
  · exact hw
  · exact hw
  · exact hw
  · exact hw
  · exact hw
  · exact hw
  · exact absurd rfl hne
  · exact hw
  · exact hw
  · exact hw
  · exact hw
  · exact hw
  · exact hw
theorem ctlG_pf {G : GH} {b M Z T a x : Nat} : ∀ i, i < 13 → i ≠ 8 → ∀ w, TyV G (b, M, Z, T) a (oL1.getD i (0, 0)) w → TyV (mkG G.gd G.n0 G.nm G.bk G.sp G.ik x G.pc) (b, M, Z, T) a (oL1.getD i (0, 0)) w := by
  intro i hi hne w hw
  rcases (show i = 0 ∨ i = 1 ∨ i = 2 ∨ i = 3 ∨ i = 4 ∨ i = 5 ∨ i = 6 ∨ i = 7 ∨ i = 8 ∨ i = 9 ∨ i = 10 ∨ i = 11 ∨ i = 12 by omega) with rfl | rfl | rfl | rfl | rfl | rfl | rfl | rfl | rfl | rfl | rfl | rfl | rfl
  · exact hw
  · exact hw
  · exact hw
  · exact hw
  · exact hw
  · exact hw
  · exact hw
  · exact hw
  · exact absurd rfl hne
  · exact hw
  · exact hw
  · exact hw
  · exact hw
theorem ctlG_pc {G : GH} {b M Z T a x : Nat} : ∀ i, i < 13 → i ≠ 9 → ∀ w, TyV G (b, M, Z, T) a (oL1.getD i (0, 0)) w → TyV (mkG G.gd G.n0 G.nm G.bk G.sp G.ik G.pf x) (b, M, Z, T) a (oL1.getD i (0, 0)) w := by
  intro i hi hne w hw
  rcases (show i = 0 ∨ i = 1 ∨ i = 2 ∨ i = 3 ∨ i = 4 ∨ i = 5 ∨ i = 6 ∨ i = 7 ∨ i = 8 ∨ i = 9 ∨ i = 10 ∨ i = 11 ∨ i = 12 by omega) with rfl | rfl | rfl | rfl | rfl | rfl | rfl | rfl | rfl | rfl | rfl | rfl | rfl
  · exact hw
  · exact hw
  · exact hw
  · exact hw
  · exact hw
  · exact hw
  · exact hw
  · exact hw
  · exact hw
  · exact absurd rfl hne
  · exact hw
  · exact hw
  · exact hw
theorem t_putN {V : VX} {G : GH} {X : MX} {y : MethodName} {cc : ByteArray} {nL N k z pc n q : Nat} {ret : Option FieldType} {R : Room} {σ : Mem} {lv : List (Nat × Value)} {st : List Value} {E : PE} {ks : List Nat} {σ0 : Mem} (F : Fx V X y cc nL ret R) {index ci j a : Nat} {tys : List (Nat × Nat)} {t : Nat × Nat} {ty : FieldType} {v : Value} (d : DC cc pc 3 n (.putfield index)) (fp : FP y.cls index ci j false ty) (hC : ∀ c, CellTy V G E a q c ↔ ∃ fs, c = some (ob ci fs) ∧ TyL G E a tys fs) (h : HK V G E ks σ0 σ) (hk : kA E.1 a = q) (hj : tys[j]? = some t) (hv : TyV G E a t v) (hn : narrow ty v = v) (hf : fits ty v = true) (hq : q ∉ ks) (kk : ∀ σ' : Mem, HK V G E ks σ0 σ' → (∀ x, x ≠ a → σ' x = σ x) → (∀ i, i ≠ j → fld σ' a i = fld σ a i) → fld σ' a j = some v → Wm V X nL N σ' k z n lv st) : Wm V X nL N σ k z pc lv (v :: .ref a :: st) := by
  have h1 := h.1 a
  rw [hk] at h1
  obtain ⟨fs, h2, h3⟩ := (hC _).mp h1
  refine m_put F d fp h2 hn hf (by rw [h3.1]; exact (List.getElem?_eq_some_iff.mp hj).1) rfl rfl (kk _ (h.up ?_ (by rw [hk]; exact hq)) (fun x hx => va_up_ne _ _ hx) (fun i hi => ?_) (fld_of (va_up_self _ _ _) (List.getElem?_set_self (by rw [h3.1]; exact (List.getElem?_eq_some_iff.mp hj).1))))
  · rw [hk]
    exact (hC _).mpr ⟨_, rfl, h3.set hj hv⟩
  · unfold fld
    rw [va_up_self, h2]
    show (fs.set j v)[i]? = fs[i]?
    exact List.getElem?_set_ne (fun e => hi e.symm)
