/-! the reference's reader, exact: its tape, a token as it holds it, its fields -/
def BR (σ : Mem) (c n : Nat) (t : Nat → Nat) : Prop := ∀ i, i < n → t i < 256 ∧ elI σ (c + 1) i = some (nI (t i))
theorem BR.of {σ τ : Mem} {c n : Nat} {t : Nat → Nat} (h : BR σ c n t) (e : τ (c + 1) = σ (c + 1)) : BR τ c n t := fun i hi => ⟨(h i hi).1, (elI_eq e).trans (h i hi).2⟩
theorem BR.to {σ : Mem} {c n m : Nat} {t : Nat → Nat} (h : BR σ c n t) (hm : m ≤ n) : BR σ c m t := fun i hi => h i (by omega)
def MT (so va : Int32) (s v : Nat) : Prop := (s = 0 ∧ so = 4) ∨ (s = 1 ∧ so = 0 ∧ va = nI v ∧ v < 9) ∨ (s = 2 ∧ so = 1 ∧ va = nI v ∧ v < 1073741824) ∨ (s = 3 ∧ so = 2 ∧ ∃ w, w ≤ 1000000000 ∧ va = nI w ∧ min w 10000000 = v) ∨ (s = 4 ∧ so = 3) ∨ (s = 5 ∧ so = 5)
def YD (σ : Mem) (c n st : Nat) (so va : Int32) (ln : Nat) (ft fp : Int32) : Prop := fld σ c 17 = some (.int (nI ln)) ∧ fld σ c 18 = some (.int (nI n)) ∧ fld σ c 20 = some (.int (nI st)) ∧ fld σ c 21 = some (.int so) ∧ fld σ c 22 = some (.int va) ∧ fld σ c 23 = some (.int ft) ∧ fld σ c 24 = some (.int fp)
def wbN : List Nat := [108, 101, 97, 115, 101, 32, 112, 97, 121, 32, 101, 97, 114, 108, 121, 32, 102, 97, 105, 114, 32, 102, 101, 101, 32, 116, 105, 101, 100, 32, 105, 110, 100, 101, 120, 32, 111, 112, 116, 105, 111, 110, 32, 115, 101, 101, 100, 32]
def wln (m : Nat) : Nat := [5, 3, 5, 4, 3, 4, 5, 6, 4].getD m 0
def wof (m : Nat) : Nat := [0, 6, 10, 16, 21, 25, 30, 36, 43, 48].getD m 0
/-- word m of the language stands at p .. e -/
def mw (t : Nat → Nat) (p e m : Nat) : Prop := e = p + wln m ∧ ∀ i, i < wln m → t (p + i) = wbN.getD (wof m + i) 0
def dg (t : Nat → Nat) (p e j : Nat) : Nat := if p + j < e then t (p + j) - 96 else 0
theorem dg_p {t : Nat → Nat} {p e j : Nat} (h : p + j < e) : dg t p e j = t (p + j) - 96 := if_pos h
theorem dg_n {t : Nat → Nat} {p e j : Nat} (h : e ≤ p + j) : dg t p e j = 0 := if_neg (by omega)
theorem dg_c {t : Nat → Nat} {p e j : Nat} (hl : ∀ i, p ≤ i → i < e → isL (t i) = true) : (p + j < e ∧ dg t p e j = t (p + j) - 96 ∧ 97 ≤ t (p + j) ∧ t (p + j) ≤ 122) ∨ (e ≤ p + j ∧ dg t p e j = 0) := by
  by_cases h : p + j < e
  · have h1 := hl (p + j) (by omega) h
    unfold isL at h1
    simp at h1
    exact Or.inl ⟨h, dg_p h, h1.1, h1.2⟩
  · exact Or.inr ⟨by omega, dg_n (by omega)⟩
theorem nmc6 (t : Nat → Nat) (p e : Nat) : nmc t p e 6 = (((((0 * 32 + dg t p e 0) * 32 + dg t p e 1) * 32 + dg t p e 2) * 32 + dg t p e 3) * 32 + dg t p e 4) * 32 + dg t p e 5 := rfl
theorem mw_iff {t : Nat → Nat} {p e : Nat} (hpe : p < e) (hl : ∀ i, p ≤ i → i < e → isL (t i) = true) (h6 : e - p ≤ 6) : ∀ m, m < 9 → (kcN.getD m 0 = nmc t p e 6 ↔ mw t p e m) := by
  intro m hm
  have h := nmc6 t p e
  have d0 := dg_c (j := 0) hl
  have d1 := dg_c (j := 1) hl
  have d2 := dg_c (j := 2) hl
  have d3 := dg_c (j := 3) hl
  have d4 := dg_c (j := 4) hl
  have d5 := dg_c (j := 5) hl
  rw [h]
  clear h
  generalize dg t p e 0 = g0 at *
  generalize dg t p e 1 = g1 at *
  generalize dg t p e 2 = g2 at *
  generalize dg t p e 3 = g3 at *
  generalize dg t p e 4 = g4 at *
  generalize dg t p e 5 = g5 at *
  have hc : m = 0 ∨ m = 1 ∨ m = 2 ∨ m = 3 ∨ m = 4 ∨ m = 5 ∨ m = 6 ∨ m = 7 ∨ m = 8 := by omega
  rcases hc with rfl | rfl | rfl | rfl | rfl | rfl | rfl | rfl | rfl
  · constructor
    · intro q
      replace q : 407948448 = (((((0 * 32 + g0) * 32 + g1) * 32 + g2) * 32 + g3) * 32 + g4) * 32 + g5 := q
      have v0 : g0 = 12 := by omega
      have v1 : g1 = 5 := by omega
      have v2 : g2 = 1 := by omega
      have v3 : g3 = 19 := by omega
      have v4 : g4 = 5 := by omega
      have v5 : g5 = 0 := by omega
      refine ⟨(show e = p + 5 by omega), fun i hi => ?_⟩
      have hi2 : i = 0 ∨ i = 1 ∨ i = 2 ∨ i = 3 ∨ i = 4 := by have hi3 : i < 5 := hi; omega
      rcases hi2 with rfl | rfl | rfl | rfl | rfl
      · show t (p + 0) = 108; omega
      · show t (p + 1) = 101; omega
      · show t (p + 2) = 97; omega
      · show t (p + 3) = 115; omega
      · show t (p + 4) = 101; omega
    · intro q
      have q1 : e = p + 5 := q.1
      have w0 : t (p + 0) = 108 := q.2 0 (by decide)
      have w1 : t (p + 1) = 101 := q.2 1 (by decide)
      have w2 : t (p + 2) = 97 := q.2 2 (by decide)
      have w3 : t (p + 3) = 115 := q.2 3 (by decide)
      have w4 : t (p + 4) = 101 := q.2 4 (by decide)
      show 407948448 = (((((0 * 32 + g0) * 32 + g1) * 32 + g2) * 32 + g3) * 32 + g4) * 32 + g5
      omega
  · constructor
    · intro q
      replace q : 538738688 = (((((0 * 32 + g0) * 32 + g1) * 32 + g2) * 32 + g3) * 32 + g4) * 32 + g5 := q
      have v0 : g0 = 16 := by omega
      have v1 : g1 = 1 := by omega
      have v2 : g2 = 25 := by omega
      have v3 : g3 = 0 := by omega
      have v4 : g4 = 0 := by omega
      have v5 : g5 = 0 := by omega
      refine ⟨(show e = p + 3 by omega), fun i hi => ?_⟩
      have hi2 : i = 0 ∨ i = 1 ∨ i = 2 := by have hi3 : i < 3 := hi; omega
      rcases hi2 with rfl | rfl | rfl
      · show t (p + 0) = 112; omega
      · show t (p + 1) = 97; omega
      · show t (p + 2) = 121; omega
    · intro q
      have q1 : e = p + 3 := q.1
      have w0 : t (p + 0) = 112 := q.2 0 (by decide)
      have w1 : t (p + 1) = 97 := q.2 1 (by decide)
      have w2 : t (p + 2) = 121 := q.2 2 (by decide)
      show 538738688 = (((((0 * 32 + g0) * 32 + g1) * 32 + g2) * 32 + g3) * 32 + g4) * 32 + g5
      omega
  · constructor
    · intro q
      replace q : 169423648 = (((((0 * 32 + g0) * 32 + g1) * 32 + g2) * 32 + g3) * 32 + g4) * 32 + g5 := q
      have v0 : g0 = 5 := by omega
      have v1 : g1 = 1 := by omega
      have v2 : g2 = 18 := by omega
      have v3 : g3 = 12 := by omega
      have v4 : g4 = 25 := by omega
      have v5 : g5 = 0 := by omega
      refine ⟨(show e = p + 5 by omega), fun i hi => ?_⟩
      have hi2 : i = 0 ∨ i = 1 ∨ i = 2 ∨ i = 3 ∨ i = 4 := by have hi3 : i < 5 := hi; omega
      rcases hi2 with rfl | rfl | rfl | rfl | rfl
      · show t (p + 0) = 101; omega
      · show t (p + 1) = 97; omega
      · show t (p + 2) = 114; omega
      · show t (p + 3) = 108; omega
      · show t (p + 4) = 121; omega
    · intro q
      have q1 : e = p + 5 := q.1
      have w0 : t (p + 0) = 101 := q.2 0 (by decide)
      have w1 : t (p + 1) = 97 := q.2 1 (by decide)
      have w2 : t (p + 2) = 114 := q.2 2 (by decide)
      have w3 : t (p + 3) = 108 := q.2 3 (by decide)
      have w4 : t (p + 4) = 121 := q.2 4 (by decide)
      show 169423648 = (((((0 * 32 + g0) * 32 + g1) * 32 + g2) * 32 + g3) * 32 + g4) * 32 + g5
      omega
  · constructor
    · intro q
      replace q : 202688512 = (((((0 * 32 + g0) * 32 + g1) * 32 + g2) * 32 + g3) * 32 + g4) * 32 + g5 := q
      have v0 : g0 = 6 := by omega
      have v1 : g1 = 1 := by omega
      have v2 : g2 = 9 := by omega
      have v3 : g3 = 18 := by omega
      have v4 : g4 = 0 := by omega
      have v5 : g5 = 0 := by omega
      refine ⟨(show e = p + 4 by omega), fun i hi => ?_⟩
      have hi2 : i = 0 ∨ i = 1 ∨ i = 2 ∨ i = 3 := by have hi3 : i < 4 := hi; omega
      rcases hi2 with rfl | rfl | rfl | rfl
      · show t (p + 0) = 102; omega
      · show t (p + 1) = 97; omega
      · show t (p + 2) = 105; omega
      · show t (p + 3) = 114; omega
    · intro q
      have q1 : e = p + 4 := q.1
      have w0 : t (p + 0) = 102 := q.2 0 (by decide)
      have w1 : t (p + 1) = 97 := q.2 1 (by decide)
      have w2 : t (p + 2) = 105 := q.2 2 (by decide)
      have w3 : t (p + 3) = 114 := q.2 3 (by decide)
      show 202688512 = (((((0 * 32 + g0) * 32 + g1) * 32 + g2) * 32 + g3) * 32 + g4) * 32 + g5
      omega
  · constructor
    · intro q
      replace q : 206733312 = (((((0 * 32 + g0) * 32 + g1) * 32 + g2) * 32 + g3) * 32 + g4) * 32 + g5 := q
      have v0 : g0 = 6 := by omega
      have v1 : g1 = 5 := by omega
      have v2 : g2 = 5 := by omega
      have v3 : g3 = 0 := by omega
      have v4 : g4 = 0 := by omega
      have v5 : g5 = 0 := by omega
      refine ⟨(show e = p + 3 by omega), fun i hi => ?_⟩
      have hi2 : i = 0 ∨ i = 1 ∨ i = 2 := by have hi3 : i < 3 := hi; omega
      rcases hi2 with rfl | rfl | rfl
      · show t (p + 0) = 102; omega
      · show t (p + 1) = 101; omega
      · show t (p + 2) = 101; omega
    · intro q
      have q1 : e = p + 3 := q.1
      have w0 : t (p + 0) = 102 := q.2 0 (by decide)
      have w1 : t (p + 1) = 101 := q.2 1 (by decide)
      have w2 : t (p + 2) = 101 := q.2 2 (by decide)
      show 206733312 = (((((0 * 32 + g0) * 32 + g1) * 32 + g2) * 32 + g3) * 32 + g4) * 32 + g5
      omega
  · constructor
    · intro q
      replace q : 680693760 = (((((0 * 32 + g0) * 32 + g1) * 32 + g2) * 32 + g3) * 32 + g4) * 32 + g5 := q
      have v0 : g0 = 20 := by omega
      have v1 : g1 = 9 := by omega
      have v2 : g2 = 5 := by omega
      have v3 : g3 = 4 := by omega
      have v4 : g4 = 0 := by omega
      have v5 : g5 = 0 := by omega
      refine ⟨(show e = p + 4 by omega), fun i hi => ?_⟩
      have hi2 : i = 0 ∨ i = 1 ∨ i = 2 ∨ i = 3 := by have hi3 : i < 4 := hi; omega
      rcases hi2 with rfl | rfl | rfl | rfl
      · show t (p + 0) = 116; omega
      · show t (p + 1) = 105; omega
      · show t (p + 2) = 101; omega
      · show t (p + 3) = 100; omega
    · intro q
      have q1 : e = p + 4 := q.1
      have w0 : t (p + 0) = 116 := q.2 0 (by decide)
      have w1 : t (p + 1) = 105 := q.2 1 (by decide)
      have w2 : t (p + 2) = 101 := q.2 2 (by decide)
      have w3 : t (p + 3) = 100 := q.2 3 (by decide)
      show 680693760 = (((((0 * 32 + g0) * 32 + g1) * 32 + g2) * 32 + g3) * 32 + g4) * 32 + g5
      omega
  · constructor
    · intro q
      replace q : 316806912 = (((((0 * 32 + g0) * 32 + g1) * 32 + g2) * 32 + g3) * 32 + g4) * 32 + g5 := q
      have v0 : g0 = 9 := by omega
      have v1 : g1 = 14 := by omega
      have v2 : g2 = 4 := by omega
      have v3 : g3 = 5 := by omega
      have v4 : g4 = 24 := by omega
      have v5 : g5 = 0 := by omega
      refine ⟨(show e = p + 5 by omega), fun i hi => ?_⟩
      have hi2 : i = 0 ∨ i = 1 ∨ i = 2 ∨ i = 3 ∨ i = 4 := by have hi3 : i < 5 := hi; omega
      rcases hi2 with rfl | rfl | rfl | rfl | rfl
      · show t (p + 0) = 105; omega
      · show t (p + 1) = 110; omega
      · show t (p + 2) = 100; omega
      · show t (p + 3) = 101; omega
      · show t (p + 4) = 120; omega
    · intro q
      have q1 : e = p + 5 := q.1
      have w0 : t (p + 0) = 105 := q.2 0 (by decide)
      have w1 : t (p + 1) = 110 := q.2 1 (by decide)
      have w2 : t (p + 2) = 100 := q.2 2 (by decide)
      have w3 : t (p + 3) = 101 := q.2 3 (by decide)
      have w4 : t (p + 4) = 120 := q.2 4 (by decide)
      show 316806912 = (((((0 * 32 + g0) * 32 + g1) * 32 + g2) * 32 + g3) * 32 + g4) * 32 + g5
      omega
  · constructor
    · intro q
      replace q : 520758766 = (((((0 * 32 + g0) * 32 + g1) * 32 + g2) * 32 + g3) * 32 + g4) * 32 + g5 := q
      have v0 : g0 = 15 := by omega
      have v1 : g1 = 16 := by omega
      have v2 : g2 = 20 := by omega
      have v3 : g3 = 9 := by omega
      have v4 : g4 = 15 := by omega
      have v5 : g5 = 14 := by omega
      refine ⟨(show e = p + 6 by omega), fun i hi => ?_⟩
      have hi2 : i = 0 ∨ i = 1 ∨ i = 2 ∨ i = 3 ∨ i = 4 ∨ i = 5 := by have hi3 : i < 6 := hi; omega
      rcases hi2 with rfl | rfl | rfl | rfl | rfl | rfl
      · show t (p + 0) = 111; omega
      · show t (p + 1) = 112; omega
      · show t (p + 2) = 116; omega
      · show t (p + 3) = 105; omega
      · show t (p + 4) = 111; omega
      · show t (p + 5) = 110; omega
    · intro q
      have q1 : e = p + 6 := q.1
      have w0 : t (p + 0) = 111 := q.2 0 (by decide)
      have w1 : t (p + 1) = 112 := q.2 1 (by decide)
      have w2 : t (p + 2) = 116 := q.2 2 (by decide)
      have w3 : t (p + 3) = 105 := q.2 3 (by decide)
      have w4 : t (p + 4) = 111 := q.2 4 (by decide)
      have w5 : t (p + 5) = 110 := q.2 5 (by decide)
      show 520758766 = (((((0 * 32 + g0) * 32 + g1) * 32 + g2) * 32 + g3) * 32 + g4) * 32 + g5
      omega
  · constructor
    · intro q
      replace q : 642945024 = (((((0 * 32 + g0) * 32 + g1) * 32 + g2) * 32 + g3) * 32 + g4) * 32 + g5 := q
      have v0 : g0 = 19 := by omega
      have v1 : g1 = 5 := by omega
      have v2 : g2 = 5 := by omega
      have v3 : g3 = 4 := by omega
      have v4 : g4 = 0 := by omega
      have v5 : g5 = 0 := by omega
      refine ⟨(show e = p + 4 by omega), fun i hi => ?_⟩
      have hi2 : i = 0 ∨ i = 1 ∨ i = 2 ∨ i = 3 := by have hi3 : i < 4 := hi; omega
      rcases hi2 with rfl | rfl | rfl | rfl
      · show t (p + 0) = 115; omega
      · show t (p + 1) = 101; omega
      · show t (p + 2) = 101; omega
      · show t (p + 3) = 100; omega
    · intro q
      have q1 : e = p + 4 := q.1
      have w0 : t (p + 0) = 115 := q.2 0 (by decide)
      have w1 : t (p + 1) = 101 := q.2 1 (by decide)
      have w2 : t (p + 2) = 101 := q.2 2 (by decide)
      have w3 : t (p + 3) = 100 := q.2 3 (by decide)
      show 642945024 = (((((0 * 32 + g0) * 32 + g1) * 32 + g2) * 32 + g3) * 32 + g4) * 32 + g5
      omega
theorem kix_mw {t : Nat → Nat} {p e m : Nat} (hpe : p < e) (hl : ∀ i, p ≤ i → i < e → isL (t i) = true) (hm : m < 9) (h : mw t p e m) : e - p ≤ 6 ∧ kix (nmc t p e 6) = m := by
  have h6 : e - p ≤ 6 := by
    have key : ∀ m, m < 9 → wln m ≤ 6 := by decide
    have h1 := h.1
    have h2 := key m hm
    omega
  exact ⟨h6, kix_hit hm ((mw_iff hpe hl h6 m hm).mpr h)⟩
theorem kix_nmw {t : Nat → Nat} {p e : Nat} (hpe : p < e) (hl : ∀ i, p ≤ i → i < e → isL (t i) = true) (h : ∀ m, m < 9 → ¬ mw t p e m) (h6 : e - p ≤ 6) : ¬ kix (nmc t p e 6) < 9 := kix_no (fun j hj q => h j hj ((mw_iff hpe hl h6 j hj).mp q))
theorem yshl5 {v d : Nat} (hv : v < 33554432) (hd : d < 32) : (nI v <<< ((5 : Int32) &&& 31)) ||| nI d = nI (v * 32 + d) := by
  have e5 : nI v <<< ((5 : Int32) &&& 31) = nI (v * 32) := by
    apply Int32.toBitVec_inj.mp
    rw [Int32.toBitVec_shiftLeft]
    apply BitVec.eq_of_toNat_eq
    rw [show ((5 : Int32) &&& 31) = 5 by decide]
    show (BitVec.ofNat 32 v <<< ((5 : Int32).toBitVec.smod 32)).toNat = (BitVec.ofNat 32 (v * 32)).toNat
    rw [show (5 : Int32).toBitVec.smod 32 = 5#32 by decide]
    rw [BitVec.shiftLeft_eq', BitVec.toNat_shiftLeft, show (5#32).toNat = 5 by decide, BitVec.toNat_ofNat, BitVec.toNat_ofNat]
    rw [Nat.shiftLeft_eq]
    omega
  rw [e5]
  apply Int32.toBitVec_inj.mp
  rw [Int32.toBitVec_or]
  apply BitVec.eq_of_toNat_eq
  rw [BitVec.toNat_or]
  show (v * 32) % 2 ^ 32 ||| d % 2 ^ 32 = (v * 32 + d) % 2 ^ 32
  rw [Nat.mod_eq_of_lt (by omega), Nat.mod_eq_of_lt (by omega), Nat.mod_eq_of_lt (by omega)]
  have h1 := Nat.shiftLeft_add_eq_or_of_lt (i := 5) (b := d) (by omega) v
  rw [Nat.shiftLeft_eq] at h1
  exact h1.symm
