/-! the text, as both readers must tell it -/
def isB (c : Nat) : Bool := c == 10 || c == 32
def isL (c : Nat) : Bool := decide (97 ≤ c) && decide (c ≤ 122)
def isD (c : Nat) : Bool := decide (48 ≤ c) && decide (c ≤ 57)
def scan (p : Nat → Bool) (t : Nat → Nat) : Nat → Nat → Nat
  | 0, a => a
  | f + 1, a => if p (t a) then scan p t f (a + 1) else a
def sc (p : Nat → Bool) (t : Nat → Nat) (n a : Nat) : Nat := scan p t (n - a) a
theorem sc_go {p : Nat → Bool} {t : Nat → Nat} {n a : Nat} (h : a < n) (h2 : p (t a) = true) : sc p t n a = sc p t n (a + 1) := by
  unfold sc
  rw [show n - a = (n - (a + 1)) + 1 by omega]
  show (if p (t a) then _ else _) = _
  rw [if_pos h2]
theorem sc_stop {p : Nat → Bool} {t : Nat → Nat} {n a : Nat} (h : n ≤ a ∨ p (t a) = false) : sc p t n a = a := by
  unfold sc
  by_cases h1 : n ≤ a
  · rw [show n - a = 0 by omega]; rfl
  · rw [show n - a = (n - (a + 1)) + 1 by omega]
    show (if p (t a) then _ else _) = _
    rcases h with h | h
    · exact absurd h h1
    · rw [h]; rfl
theorem sc_le {p : Nat → Bool} {t : Nat → Nat} : ∀ (f a : Nat), a ≤ scan p t f a ∧ scan p t f a ≤ a + f
  | 0, a => ⟨Nat.le_refl _, Nat.le_refl _⟩
  | f + 1, a => by
    have h := sc_le (p := p) (t := t) f (a + 1)
    show a ≤ (if p (t a) then _ else _) ∧ (if p (t a) then _ else _) ≤ _
    split <;> omega
/-- letters by 32, six places -/
def nmc (t : Nat → Nat) (p e : Nat) : Nat → Nat
  | 0 => 0
  | j + 1 => nmc t p e j * 32 + (if p + j < e then t (p + j) - 96 else 0)
/-- a number, no further than past every bound -/
def nuc (t : Nat → Nat) (p : Nat) : Nat → Nat
  | 0 => 0
  | k + 1 => min (nuc t p k * 10 + (t (p + k) - 48)) 10000000
def kcN : List Nat := [407948448, 538738688, 169423648, 202688512, 206733312, 680693760, 316806912, 520758766, 642945024]
def kix (c : Nat) : Nat := kcN.findIdx (fun x => x == c)
/-- place, sort (0 END, 1 a word of the language, 2 a W, 3 a number, 4 ';', 5 none), value, what comes next -/
def tok (t : Nat → Nat) (n a : Nat) : Nat × Nat × Nat × Nat :=
  let p := sc isB t n a
  if n ≤ p then (p, 0, 0, p)
  else if isL (t p) then
    let e := sc isL t n p
    let c := nmc t p e 6
    if e - p ≤ 6 then (if kix c < 9 then (p, 1, kix c, e) else (p, 2, c, e)) else (p, 5, 0, e)
  else if isD (t p) then
    let e := sc isD t n p
    (p, 3, nuc t p (e - p), e)
  else (p, if t p = 59 then 4 else 5, 0, p + 1)
/-! bytes as the class holds them: c is 0 .. 255, signed -/
def sx (c : Nat) : Int32 := (nI c).toInt8.toInt32
theorem sx_ti {c : Nat} (h : c < 256) : (sx c).toInt = if c < 128 then (c : Int) else (c : Int) - 256 := by
  have key : ∀ c, c < 256 → (sx c).toInt = if c < 128 then (c : Int) else (c : Int) - 256 := by decide +kernel
  exact key c h
theorem sx_lo {c : Nat} (h : c < 128) : sx c = nI c := by
  have key : ∀ c, c < 128 → sx c = nI c := by decide +kernel
  exact key c h
theorem sx_eq {c k : Nat} (h : c < 256) (hk : k < 128) : sx c = nI k ↔ c = k := by
  constructor
  · intro e
    have h1 := congrArg Int32.toInt e
    rw [sx_ti h, nI_ti (by omega)] at h1
    split at h1 <;> omega
  · intro e; rw [e]; exact sx_lo hk
theorem sx_lt {c k : Nat} (h : c < 256) (hk : k < 128) : sx c < nI k ↔ (c < k ∨ 128 ≤ c) := by
  rw [Int32.lt_iff_toInt_lt, sx_ti h, nI_ti (by omega)]
  split <;> omega
theorem sx_gt {c k : Nat} (h : c < 256) (hk : k < 128) : nI k < sx c ↔ (k < c ∧ c < 128) := by
  rw [Int32.lt_iff_toInt_lt, sx_ti h, nI_ti (by omega)]
  split <;> omega
/-- the reader's thirteen fields -/
def RD (σ : Mem) (a tp td n bk nx st : Nat) (tk vl : Int32) (py sd ln : Nat) (ft pl : Int32) : Prop :=
  fld σ a 0 = some (.ref tp) ∧ fld σ a 1 = some (.int (nI n)) ∧ fld σ a 2 = some (.ref bk) ∧ fld σ a 3 = some (.ref td) ∧ fld σ a 4 = some (.int (nI nx)) ∧ fld σ a 5 = some (.int (nI st)) ∧ fld σ a 6 = some (.int tk) ∧ fld σ a 7 = some (.int vl) ∧ fld σ a 8 = some (.int (nI py)) ∧ fld σ a 9 = some (.int (nI sd)) ∧ fld σ a 10 = some (.int (nI ln)) ∧ fld σ a 11 = some (.int ft) ∧ fld σ a 12 = some (.int pl)
/-- the tape's bytes -/
def BY (V : VX) (σ : Mem) (tp n : Nat) (t : Nat → Nat) : Prop := ∃ f, σ tp = some (aB V 700 f) ∧ ∀ i, i < n → t i < 256 ∧ f i = sx (t i)
theorem t_baldX {V : VX} {X : MX} {y : MethodName} {cc : ByteArray} {nL N k z pc n m tp : Nat} {ret : Option FieldType} {R : Room} {σ σ0 : Mem} {lv : List (Nat × Value)} {st : List Value} {E : PE} {ks : List Nat} {t : Nat → Nat} (F : Fx V X y cc nL ret R) {j : Nat} {i : Int32} (d : DC cc pc 1 n .baload) (h : HK V E ks σ0 σ) (hk : kA E.1 tp = 2) (h2 : 2 ∈ ks) (hB : BY V σ0 tp m t) (hj : i.toNatClampNeg = j) (hin : vp_in i 700) (hm : j < m) (kk : t j < 256 → Wm V X nL N σ k z n lv (.int (sx (t j)) :: st)) : Wm V X nL N σ k z pc lv (.int i :: .ref tp :: st) := by
  obtain ⟨f, h3, h4⟩ := hB
  have h5 : σ tp = some (aB V 700 f) := (h.2 tp (by rw [hk]; exact h2)).trans h3
  obtain ⟨h6, h7⟩ := h4 j hm
  refine m_bald F d h5 hj hin ?_
  rw [h7]
  exact kk h6
set_option maxRecDepth 20000 in
theorem s_X7_tokenAtE (l : Launch) (V : VX) (b M Z T N : Nat) (σ : Mem) (a : Nat) (n901 : Nat) (tp : Nat) (td : Nat) (n : Nat) (bk : Nat) (nx : Nat) (st : Nat) (tk : Int32) (vl : Int32) (py : Nat) (sd : Nat) (ln : Nat) (ft : Int32) (pl : Int32) (t : Nat → Nat) (h0 : HT V (b, M, Z, T) σ) (hk : kA b a = 3) (hn901 : n901 ≤ 700) (hR : RD σ a tp td n bk nx st tk vl py sd ln ft pl) (hB : BY V σ tp n t) (hn7 : n ≤ 700) (hsd : sd ≤ 1) (htp : kA b tp = 2) (htd : kA b td = 4) (hbk : kA b bk = 7) (hM : M + 0 ≤ 1000000000) : Ct l V yX7_tokenAt cX7_tokenAt 3 (some .int) 0 0 0 N σ [.ref a, .int (nI n901)] (fun r τ => HK V (b, M, Z, T) [0, 1, 2, 3, 4, 5, 6, 7, 8, 9, 10, 11, 12, 13, 14, 15, 16, 17, 18, 19] σ τ ∧ RD τ a tp td n bk nx st tk vl py sd ln ft pl ∧ r = some (.int (if n ≤ n901 then 0 else if isL (t n901) then 1 else if isD (t n901) then 2 else if t n901 = 59 then 3 else 4 : Int32))) := by
  refine Ct.of (by decide) (Nat.le_of_ble_eq_true rfl) [(0, .ref a), (1, .int (nI n901))] rfl (fun X hX F hQ => ?_)
  have h1 : HK V (b, M, Z, T) [0, 1, 2, 3, 4, 5, 6, 7, 8, 9, 10, 11, 12, 13, 14, 15, 16, 17, 18, 19] σ σ := HK.start h0
  have hrd4392 := hR
  obtain ⟨rd4392, rd4393, rd4394, rd4395, rd4396, rd4397, rd4398, rd4399, rd4400, rd4401, rd4402, rd4403, rd4404⟩ := hrd4392
  refine m_iload_n F rfl e_X7_tokenAt_0 ?_
  refine m_if_lt F e_X7_tokenAt_1 (fun q1 => ?_) (fun q1 => ?_)
  · have c1 : n901 < 0 := (nI_ltI (a := n901) (b := 0) (by omega) (by omega)).mp q1
    refine m_iconst F (v := 0) (by decide) e_X7_tokenAt_12 ?_
    exact m_iret F hQ e_X7_tokenAt_13 (⟨h1, ⟨rd4392, rd4393, rd4394, rd4395, rd4396, rd4397, rd4398, rd4399, rd4400, rd4401, rd4402, rd4403, rd4404⟩, by rw [if_pos (by omega)]⟩)
  · have c1 : n901 ≥ 0 := by have hh := mt (nI_ltI (a := n901) (b := 0) (by omega) (by omega)).mpr q1; omega
    refine m_iload_n F rfl e_X7_tokenAt_4 ?_
    refine m_aload_n F rfl e_X7_tokenAt_5 ?_
    refine t_getC F e_X7_tokenAt_6 fl_X7_33 (fun _ => o3) h1 hk (rd4393) ?_
    refine m_icmp_lt F e_X7_tokenAt_9 (fun q9 => ?_) (fun q9 => ?_)
    · have c9 : n901 < n := (nI_ltI (a := n901) (b := n) (by omega) (by omega)).mp q9
      refine m_aload_n F rfl e_X7_tokenAt_14 ?_
      refine t_getC F e_X7_tokenAt_15 fl_X7_19 (fun _ => o3) h1 hk (rd4392) ?_
      refine m_iload_n F rfl e_X7_tokenAt_18 ?_
      refine t_baldX F (j := n901) (tp := tp) e_X7_tokenAt_19 h1 htp (by decide) hB (nI_clamp (by omega)) (vp_in_nI (by omega) (by decide)) (by omega) (fun hb4405 => ?_)
      refine m_istore_n F (lv' := [(2, .int (sx (t n901))), (0, .ref a), (1, .int (nI n901))]) e_X7_tokenAt_20 (by decide) rfl ?_
      refine m_iload_n F rfl e_X7_tokenAt_21 ?_
      refine m_bipush F (v := 97) (by decide) e_X7_tokenAt_22 ?_
      refine m_icmp_lt F e_X7_tokenAt_24 (fun q24 => ?_) (fun q24 => ?_)
      · have c24 : t n901 < 97 ∨ 128 ≤ t n901 := (sx_lt (c := t n901) (k := 97) (by omega) (by omega)).mp q24
        refine m_iload_n F rfl e_X7_tokenAt_35 ?_
        refine m_bipush F (v := 48) (by decide) e_X7_tokenAt_36 ?_
        refine m_icmp_lt F e_X7_tokenAt_38 (fun q38 => ?_) (fun q38 => ?_)
        · have c38 : t n901 < 48 ∨ 128 ≤ t n901 := (sx_lt (c := t n901) (k := 48) (by omega) (by omega)).mp q38
          refine m_iload_n F rfl e_X7_tokenAt_49 ?_
          refine m_bipush F (v := 59) (by decide) e_X7_tokenAt_50 ?_
          refine m_icmp_ne F e_X7_tokenAt_52 (fun q52 => ?_) (fun q52 => ?_)
          · have c52 : t n901 ≠ 59 := fun e => q52 ((sx_eq (c := t n901) (k := 59) (by omega) (by omega)).mpr e)
            refine m_iconst F (v := 4) (by decide) e_X7_tokenAt_59 ?_
            exact m_iret F hQ e_X7_tokenAt_60 (⟨h1, ⟨rd4392, rd4393, rd4394, rd4395, rd4396, rd4397, rd4398, rd4399, rd4400, rd4401, rd4402, rd4403, rd4404⟩, by rw [if_neg (by omega), if_neg (by unfold isL; simp; omega), if_neg (by unfold isD; simp; omega), if_neg (by omega)]⟩)
          · have c52 : t n901 = 59 := (sx_eq (c := t n901) (k := 59) (by omega) (by omega)).mp q52
            refine m_iconst F (v := 3) (by decide) e_X7_tokenAt_55 ?_
            refine m_goto F e_X7_tokenAt_56 ?_
            exact m_iret F hQ e_X7_tokenAt_60 (⟨h1, ⟨rd4392, rd4393, rd4394, rd4395, rd4396, rd4397, rd4398, rd4399, rd4400, rd4401, rd4402, rd4403, rd4404⟩, by rw [if_neg (by omega), if_neg (by unfold isL; simp; omega), if_neg (by unfold isD; simp; omega), if_pos (by omega)]⟩)
        · have c38 : ¬ (t n901 < 48 ∨ 128 ≤ t n901) := fun e => q38 ((sx_lt (c := t n901) (k := 48) (by omega) (by omega)).mpr e)
          refine m_iload_n F rfl e_X7_tokenAt_41 ?_
          refine m_bipush F (v := 57) (by decide) e_X7_tokenAt_42 ?_
          refine m_icmp_gt F e_X7_tokenAt_44 (fun q44 => ?_) (fun q44 => ?_)
          · have c44 : 57 < t n901 ∧ t n901 < 128 := (sx_gt (c := t n901) (k := 57) (by omega) (by omega)).mp q44
            refine m_iload_n F rfl e_X7_tokenAt_49 ?_
            refine m_bipush F (v := 59) (by decide) e_X7_tokenAt_50 ?_
            refine m_icmp_ne F e_X7_tokenAt_52 (fun q52 => ?_) (fun q52 => ?_)
            · have c52 : t n901 ≠ 59 := fun e => q52 ((sx_eq (c := t n901) (k := 59) (by omega) (by omega)).mpr e)
              refine m_iconst F (v := 4) (by decide) e_X7_tokenAt_59 ?_
              exact m_iret F hQ e_X7_tokenAt_60 (⟨h1, ⟨rd4392, rd4393, rd4394, rd4395, rd4396, rd4397, rd4398, rd4399, rd4400, rd4401, rd4402, rd4403, rd4404⟩, by rw [if_neg (by omega), if_neg (by unfold isL; simp; omega), if_neg (by unfold isD; simp; omega), if_neg (by omega)]⟩)
            · have c52 : t n901 = 59 := (sx_eq (c := t n901) (k := 59) (by omega) (by omega)).mp q52
              refine m_iconst F (v := 3) (by decide) e_X7_tokenAt_55 ?_
              refine m_goto F e_X7_tokenAt_56 ?_
              exact m_iret F hQ e_X7_tokenAt_60 (⟨h1, ⟨rd4392, rd4393, rd4394, rd4395, rd4396, rd4397, rd4398, rd4399, rd4400, rd4401, rd4402, rd4403, rd4404⟩, by rw [if_neg (by omega), if_neg (by unfold isL; simp; omega), if_neg (by unfold isD; simp; omega), if_pos (by omega)]⟩)
          · have c44 : ¬ (57 < t n901 ∧ t n901 < 128) := fun e => q44 ((sx_gt (c := t n901) (k := 57) (by omega) (by omega)).mpr e)
            refine m_iconst F (v := 2) (by decide) e_X7_tokenAt_47 ?_
            exact m_iret F hQ e_X7_tokenAt_48 (⟨h1, ⟨rd4392, rd4393, rd4394, rd4395, rd4396, rd4397, rd4398, rd4399, rd4400, rd4401, rd4402, rd4403, rd4404⟩, by rw [if_neg (by omega), if_neg (by unfold isL; simp; omega), if_pos (by unfold isD; simp; omega)]⟩)
      · have c24 : ¬ (t n901 < 97 ∨ 128 ≤ t n901) := fun e => q24 ((sx_lt (c := t n901) (k := 97) (by omega) (by omega)).mpr e)
        refine m_iload_n F rfl e_X7_tokenAt_27 ?_
        refine m_bipush F (v := 122) (by decide) e_X7_tokenAt_28 ?_
        refine m_icmp_gt F e_X7_tokenAt_30 (fun q30 => ?_) (fun q30 => ?_)
        · have c30 : 122 < t n901 ∧ t n901 < 128 := (sx_gt (c := t n901) (k := 122) (by omega) (by omega)).mp q30
          refine m_iload_n F rfl e_X7_tokenAt_35 ?_
          refine m_bipush F (v := 48) (by decide) e_X7_tokenAt_36 ?_
          refine m_icmp_lt F e_X7_tokenAt_38 (fun q38 => ?_) (fun q38 => ?_)
          · have c38 : t n901 < 48 ∨ 128 ≤ t n901 := (sx_lt (c := t n901) (k := 48) (by omega) (by omega)).mp q38
            refine m_iload_n F rfl e_X7_tokenAt_49 ?_
            refine m_bipush F (v := 59) (by decide) e_X7_tokenAt_50 ?_
            refine m_icmp_ne F e_X7_tokenAt_52 (fun q52 => ?_) (fun q52 => ?_)
            · have c52 : t n901 ≠ 59 := fun e => q52 ((sx_eq (c := t n901) (k := 59) (by omega) (by omega)).mpr e)
              refine m_iconst F (v := 4) (by decide) e_X7_tokenAt_59 ?_
              exact m_iret F hQ e_X7_tokenAt_60 (⟨h1, ⟨rd4392, rd4393, rd4394, rd4395, rd4396, rd4397, rd4398, rd4399, rd4400, rd4401, rd4402, rd4403, rd4404⟩, by rw [if_neg (by omega), if_neg (by unfold isL; simp; omega), if_neg (by unfold isD; simp; omega), if_neg (by omega)]⟩)
            · have c52 : t n901 = 59 := (sx_eq (c := t n901) (k := 59) (by omega) (by omega)).mp q52
              refine m_iconst F (v := 3) (by decide) e_X7_tokenAt_55 ?_
              refine m_goto F e_X7_tokenAt_56 ?_
              exact m_iret F hQ e_X7_tokenAt_60 (⟨h1, ⟨rd4392, rd4393, rd4394, rd4395, rd4396, rd4397, rd4398, rd4399, rd4400, rd4401, rd4402, rd4403, rd4404⟩, by rw [if_neg (by omega), if_neg (by unfold isL; simp; omega), if_neg (by unfold isD; simp; omega), if_pos (by omega)]⟩)
          · have c38 : ¬ (t n901 < 48 ∨ 128 ≤ t n901) := fun e => q38 ((sx_lt (c := t n901) (k := 48) (by omega) (by omega)).mpr e)
            refine m_iload_n F rfl e_X7_tokenAt_41 ?_
            refine m_bipush F (v := 57) (by decide) e_X7_tokenAt_42 ?_
            refine m_icmp_gt F e_X7_tokenAt_44 (fun q44 => ?_) (fun q44 => ?_)
            · have c44 : 57 < t n901 ∧ t n901 < 128 := (sx_gt (c := t n901) (k := 57) (by omega) (by omega)).mp q44
              refine m_iload_n F rfl e_X7_tokenAt_49 ?_
              refine m_bipush F (v := 59) (by decide) e_X7_tokenAt_50 ?_
              refine m_icmp_ne F e_X7_tokenAt_52 (fun q52 => ?_) (fun q52 => ?_)
              · have c52 : t n901 ≠ 59 := fun e => q52 ((sx_eq (c := t n901) (k := 59) (by omega) (by omega)).mpr e)
                refine m_iconst F (v := 4) (by decide) e_X7_tokenAt_59 ?_
                exact m_iret F hQ e_X7_tokenAt_60 (⟨h1, ⟨rd4392, rd4393, rd4394, rd4395, rd4396, rd4397, rd4398, rd4399, rd4400, rd4401, rd4402, rd4403, rd4404⟩, by rw [if_neg (by omega), if_neg (by unfold isL; simp; omega), if_neg (by unfold isD; simp; omega), if_neg (by omega)]⟩)
              · have c52 : t n901 = 59 := (sx_eq (c := t n901) (k := 59) (by omega) (by omega)).mp q52
                refine m_iconst F (v := 3) (by decide) e_X7_tokenAt_55 ?_
                refine m_goto F e_X7_tokenAt_56 ?_
                exact m_iret F hQ e_X7_tokenAt_60 (⟨h1, ⟨rd4392, rd4393, rd4394, rd4395, rd4396, rd4397, rd4398, rd4399, rd4400, rd4401, rd4402, rd4403, rd4404⟩, by rw [if_neg (by omega), if_neg (by unfold isL; simp; omega), if_neg (by unfold isD; simp; omega), if_pos (by omega)]⟩)
            · have c44 : ¬ (57 < t n901 ∧ t n901 < 128) := fun e => q44 ((sx_gt (c := t n901) (k := 57) (by omega) (by omega)).mpr e)
              refine m_iconst F (v := 2) (by decide) e_X7_tokenAt_47 ?_
              exact m_iret F hQ e_X7_tokenAt_48 (⟨h1, ⟨rd4392, rd4393, rd4394, rd4395, rd4396, rd4397, rd4398, rd4399, rd4400, rd4401, rd4402, rd4403, rd4404⟩, by rw [if_neg (by omega), if_neg (by unfold isL; simp; omega), if_pos (by unfold isD; simp; omega)]⟩)
        · have c30 : ¬ (122 < t n901 ∧ t n901 < 128) := fun e => q30 ((sx_gt (c := t n901) (k := 122) (by omega) (by omega)).mpr e)
          refine m_iconst F (v := 1) (by decide) e_X7_tokenAt_33 ?_
          exact m_iret F hQ e_X7_tokenAt_34 (⟨h1, ⟨rd4392, rd4393, rd4394, rd4395, rd4396, rd4397, rd4398, rd4399, rd4400, rd4401, rd4402, rd4403, rd4404⟩, by rw [if_neg (by omega), if_pos (by unfold isL; simp; omega)]⟩)
    · have c9 : n901 ≥ n := by have hh := mt (nI_ltI (a := n901) (b := n) (by omega) (by omega)).mpr q9; omega
      refine m_iconst F (v := 0) (by decide) e_X7_tokenAt_12 ?_
      exact m_iret F hQ e_X7_tokenAt_13 (⟨h1, ⟨rd4392, rd4393, rd4394, rd4395, rd4396, rd4397, rd4398, rd4399, rd4400, rd4401, rd4402, rd4403, rd4404⟩, by rw [if_pos (by omega)]⟩)
set_option maxRecDepth 20000 in
theorem lp_X7_advanceNumberE_5 {V : VX} {X : MX} {b M Z T N : Nat} {σ : Mem} {a : Nat} {tp : Nat} {td : Nat} {n : Nat} {bk : Nat} {nx : Nat} {st : Nat} {tk : Int32} {vl : Int32} {py : Nat} {sd : Nat} {ln : Nat} {ft : Int32} {pl : Int32} {t : Nat → Nat}  (F : Fx V X yX7_advanceNumber cX7_advanceNumber 1 none (rmd 0 0 0)) (hQ : Rt V X 0 0 N (fun r τ => HK V (b, M, Z, T) [0, 1, 2, 4, 5, 6, 7, 8, 9, 10, 11, 12, 13, 14, 15, 16, 17, 18, 19] σ τ ∧ (∃ v : Nat, v ≤ 1000000000 ∧ min v 10000000 = nuc t st (sc isD t n st - st) ∧ RD τ a tp td n bk (sc isD t n st) st tk (nI v) py sd ln ft pl) ∧ r = none)) (hk : kA b a = 3) (hp0 : nx = st) (hp1 : st ≤ 700) (hR : RD σ a tp td n bk nx st tk vl py sd ln ft pl) (hB : BY V σ tp n t) (hn7 : n ≤ 700) (hsd : sd ≤ 1) (htp : kA b tp = 2) (htd : kA b td = 4) (hbk : kA b bk = 7) (hM : M + 0 ≤ 1000000000)  : ∀ (fuel : Nat) (m1 : Nat) (v1 : Nat) (τ : Mem), HK V (b, M, Z, T) [0, 1, 2, 4, 5, 6, 7, 8, 9, 10, 11, 12, 13, 14, 15, 16, 17, 18, 19] σ τ → (RD τ a tp td n bk m1 st tk (nI v1) py sd ln ft pl ∧ st ≤ m1 ∧ m1 ≤ 700 ∧ v1 ≤ 1000000000 ∧ min v1 10000000 = nuc t st (m1 - st) ∧ sc isD t n st = sc isD t n m1) → 700 - m1 < fuel → Wm V X 1 N τ 0 0 5 [(0, .ref a)] [] := by
  intro fuel
  induction fuel with
  | zero => intro m1 v1 τ h1 hi hm; exact absurd hm (Nat.not_lt_zero _)
  | succ fuel ih =>
    intro m1 v1 τ h1 hi hm
    obtain ⟨hR1, hi⟩ := hi
    have hrd4406 := hR1
    obtain ⟨rd4406, rd4407, rd4408, rd4409, rd4410, rd4411, rd4412, rd4413, rd4414, rd4415, rd4416, rd4417, rd4418⟩ := hrd4406
    refine m_aload_n F rfl e_X7_advanceNumber_5 ?_
    refine t_getC F e_X7_advanceNumber_6 fl_X7_42 (fun _ => o3) h1 hk (rd4410) ?_
    refine m_aload_n F rfl e_X7_advanceNumber_9 ?_
    refine t_getC F e_X7_advanceNumber_10 fl_X7_33 (fun _ => o3) h1 hk (rd4407) ?_
    refine m_icmp_ge F e_X7_advanceNumber_13 (fun q13 => ?_) (fun q13 => ?_)
    · have c13 : m1 ≥ n := (nI_leI (a := n) (b := m1) (by omega) (by omega)).mp q13
      have e9 : sc isD t n st = m1 := hi.2.2.2.2.trans (sc_stop (by first | exact Or.inl (by omega) | exact Or.inr (by unfold isD; simp; omega)))
      exact m_vret F hQ e_X7_advanceNumber_95 (⟨h1, ⟨v1, by omega, by rw [e9]; omega, by rw [e9]; exact ⟨rd4406, rd4407, rd4408, rd4409, rd4410, rd4411, rd4412, rd4413, rd4414, rd4415, rd4416, rd4417, rd4418⟩⟩, rfl⟩)
    · have c13 : m1 < n := by have hh := mt (nI_leI (a := n) (b := m1) (by omega) (by omega)).mpr q13; omega
      refine m_aload_n F rfl e_X7_advanceNumber_16 ?_
      refine t_getC F e_X7_advanceNumber_17 fl_X7_19 (fun _ => o3) h1 hk (rd4406) ?_
      refine m_aload_n F rfl e_X7_advanceNumber_20 ?_
      refine t_getC F e_X7_advanceNumber_21 fl_X7_42 (fun _ => o3) h1 hk (rd4410) ?_
      refine t_baldX F (j := m1) (tp := tp) e_X7_advanceNumber_24 h1 htp (by decide) hB (nI_clamp (by omega)) (vp_in_nI (by omega) (by decide)) (by omega) (fun hb4419 => ?_)
      refine m_bipush F (v := 48) (by decide) e_X7_advanceNumber_25 ?_
      refine m_icmp_lt F e_X7_advanceNumber_27 (fun q27 => ?_) (fun q27 => ?_)
      · have c27 : t m1 < 48 ∨ 128 ≤ t m1 := (sx_lt (c := t m1) (k := 48) (by omega) (by omega)).mp q27
        have e9 : sc isD t n st = m1 := hi.2.2.2.2.trans (sc_stop (by first | exact Or.inl (by omega) | exact Or.inr (by unfold isD; simp; omega)))
        exact m_vret F hQ e_X7_advanceNumber_95 (⟨h1, ⟨v1, by omega, by rw [e9]; omega, by rw [e9]; exact ⟨rd4406, rd4407, rd4408, rd4409, rd4410, rd4411, rd4412, rd4413, rd4414, rd4415, rd4416, rd4417, rd4418⟩⟩, rfl⟩)
      · have c27 : ¬ (t m1 < 48 ∨ 128 ≤ t m1) := fun e => q27 ((sx_lt (c := t m1) (k := 48) (by omega) (by omega)).mpr e)
        refine m_aload_n F rfl e_X7_advanceNumber_30 ?_
        refine t_getC F e_X7_advanceNumber_31 fl_X7_19 (fun _ => o3) h1 hk (rd4406) ?_
        refine m_aload_n F rfl e_X7_advanceNumber_34 ?_
        refine t_getC F e_X7_advanceNumber_35 fl_X7_42 (fun _ => o3) h1 hk (rd4410) ?_
        refine t_baldX F (j := m1) (tp := tp) e_X7_advanceNumber_38 h1 htp (by decide) hB (nI_clamp (by omega)) (vp_in_nI (by omega) (by decide)) (by omega) (fun hb4420 => ?_)
        refine m_bipush F (v := 57) (by decide) e_X7_advanceNumber_39 ?_
        refine m_icmp_gt F e_X7_advanceNumber_41 (fun q41 => ?_) (fun q41 => ?_)
        · have c41 : 57 < t m1 ∧ t m1 < 128 := (sx_gt (c := t m1) (k := 57) (by omega) (by omega)).mp q41
          have e9 : sc isD t n st = m1 := hi.2.2.2.2.trans (sc_stop (by first | exact Or.inl (by omega) | exact Or.inr (by unfold isD; simp; omega)))
          exact m_vret F hQ e_X7_advanceNumber_95 (⟨h1, ⟨v1, by omega, by rw [e9]; omega, by rw [e9]; exact ⟨rd4406, rd4407, rd4408, rd4409, rd4410, rd4411, rd4412, rd4413, rd4414, rd4415, rd4416, rd4417, rd4418⟩⟩, rfl⟩)
        · have c41 : ¬ (57 < t m1 ∧ t m1 < 128) := fun e => q41 ((sx_gt (c := t m1) (k := 57) (by omega) (by omega)).mpr e)
          refine m_aload_n F rfl e_X7_advanceNumber_44 ?_
          refine m_aload_n F rfl e_X7_advanceNumber_45 ?_
          refine t_getC F e_X7_advanceNumber_46 fl_X7_70 (fun _ => o3) h1 hk (rd4413) ?_
          refine m_ldc F kc_X7_216 e_X7_advanceNumber_49 ?_
          refine m_icmp_lt F e_X7_advanceNumber_51 (fun q51 => ?_) (fun q51 => ?_)
          · have c51 : v1 < 100000000 := (nI_ltI (a := v1) (b := 100000000) (by omega) (by omega)).mp q51
            refine m_aload_n F rfl e_X7_advanceNumber_59 ?_
            refine t_getC F e_X7_advanceNumber_60 fl_X7_70 (fun _ => o3) h1 hk (rd4413) ?_
            refine m_bipush F (v := 10) (by decide) e_X7_advanceNumber_63 ?_
            refine m_imul F e_X7_advanceNumber_65 ?_
            refine Wm.topE (w := nI (v1 * 10)) (pk_mul v1 10) ?_
            refine m_aload_n F rfl e_X7_advanceNumber_66 ?_
            refine t_getC F e_X7_advanceNumber_67 fl_X7_19 (fun _ => o3) h1 hk (rd4406) ?_
            refine m_aload_n F rfl e_X7_advanceNumber_70 ?_
            refine t_getC F e_X7_advanceNumber_71 fl_X7_42 (fun _ => o3) h1 hk (rd4410) ?_
            refine t_baldX F (j := m1) (tp := tp) e_X7_advanceNumber_74 h1 htp (by decide) hB (nI_clamp (by omega)) (vp_in_nI (by omega) (by decide)) (by omega) (fun hb4421 => ?_)
            refine Wm.topE (w := nI (t m1)) (sx_lo (by omega)) ?_
            refine m_iadd F e_X7_advanceNumber_75 ?_
            refine Wm.topE (w := nI ((v1 * 10) + (t m1))) (nI_add (v1 * 10) (t m1)) ?_
            refine m_bipush F (v := 48) (by decide) e_X7_advanceNumber_76 ?_
            refine m_isub F e_X7_advanceNumber_78 ?_
            refine Wm.topE (w := nI (((v1 * 10) + (t m1)) - 48)) (pk_sub (a := (v1 * 10) + (t m1)) (b := 48) (by omega)) ?_
            refine t_put F e_X7_advanceNumber_79 fp_X7_70 (fun _ => o3) h1 hk rfl ⟨_, rfl⟩ rfl rfl (by decide) (fun σ4422 h4423 g4424 g4425 f4426 => ?_)
            refine m_aload_n F rfl e_X7_advanceNumber_82 ?_
            refine m_dup F rfl e_X7_advanceNumber_83 ?_
            refine t_getC F e_X7_advanceNumber_84 fl_X7_42 (fun _ => o3) h4423 hk ((g4425 4 (by decide)).trans rd4410) ?_
            refine m_iconst F (v := 1) (by decide) e_X7_advanceNumber_87 ?_
            refine m_iadd F e_X7_advanceNumber_88 ?_
            refine Wm.topE (w := nI (m1 + 1)) (nI_add m1 1) ?_
            refine t_put F e_X7_advanceNumber_89 fp_X7_42 (fun _ => o3) h4423 hk rfl ⟨m1 + 1, (show m1 + 1 ≤ 700 by omega), rfl⟩ rfl rfl (by decide) (fun σ4427 h4428 g4429 g4430 f4431 => ?_)
            refine m_goto F e_X7_advanceNumber_92 ?_
            exact ih (m1 + 1) (((v1 * 10) + (t m1)) - 48) _ h4428 ⟨⟨(g4430 0 (by decide)).trans ((g4425 0 (by decide)).trans rd4406), (g4430 1 (by decide)).trans ((g4425 1 (by decide)).trans rd4407), (g4430 2 (by decide)).trans ((g4425 2 (by decide)).trans rd4408), (g4430 3 (by decide)).trans ((g4425 3 (by decide)).trans rd4409), f4431, (g4430 5 (by decide)).trans ((g4425 5 (by decide)).trans rd4411), (g4430 6 (by decide)).trans ((g4425 6 (by decide)).trans rd4412), (g4430 7 (by decide)).trans f4426, (g4430 8 (by decide)).trans ((g4425 8 (by decide)).trans rd4414), (g4430 9 (by decide)).trans ((g4425 9 (by decide)).trans rd4415), (g4430 10 (by decide)).trans ((g4425 10 (by decide)).trans rd4416), (g4430 11 (by decide)).trans ((g4425 11 (by decide)).trans rd4417), (g4430 12 (by decide)).trans ((g4425 12 (by decide)).trans rd4418)⟩, ⟨by omega, by omega, by omega, by rw [show m1 + 1 - st = (m1 - st) + 1 by omega]; show _ = min (nuc t st (m1 - st) * 10 + (t (st + (m1 - st)) - 48)) 10000000; rw [show st + (m1 - st) = m1 by omega]; omega, by rw [hi.2.2.2.2]; exact sc_go (by omega) (by unfold isD; simp; omega)⟩⟩ (by omega)
          · have c51 : v1 ≥ 100000000 := by have hh := mt (nI_ltI (a := v1) (b := 100000000) (by omega) (by omega)).mpr q51; omega
            refine m_ldc F kc_X7_216 e_X7_advanceNumber_54 ?_
            refine m_goto F e_X7_advanceNumber_56 ?_
            refine t_put F e_X7_advanceNumber_79 fp_X7_70 (fun _ => o3) h1 hk rfl ⟨_, rfl⟩ rfl rfl (by decide) (fun σ4432 h4433 g4434 g4435 f4436 => ?_)
            refine m_aload_n F rfl e_X7_advanceNumber_82 ?_
            refine m_dup F rfl e_X7_advanceNumber_83 ?_
            refine t_getC F e_X7_advanceNumber_84 fl_X7_42 (fun _ => o3) h4433 hk ((g4435 4 (by decide)).trans rd4410) ?_
            refine m_iconst F (v := 1) (by decide) e_X7_advanceNumber_87 ?_
            refine m_iadd F e_X7_advanceNumber_88 ?_
            refine Wm.topE (w := nI (m1 + 1)) (nI_add m1 1) ?_
            refine t_put F e_X7_advanceNumber_89 fp_X7_42 (fun _ => o3) h4433 hk rfl ⟨m1 + 1, (show m1 + 1 ≤ 700 by omega), rfl⟩ rfl rfl (by decide) (fun σ4437 h4438 g4439 g4440 f4441 => ?_)
            refine m_goto F e_X7_advanceNumber_92 ?_
            exact ih (m1 + 1) 100000000 _ h4438 ⟨⟨(g4440 0 (by decide)).trans ((g4435 0 (by decide)).trans rd4406), (g4440 1 (by decide)).trans ((g4435 1 (by decide)).trans rd4407), (g4440 2 (by decide)).trans ((g4435 2 (by decide)).trans rd4408), (g4440 3 (by decide)).trans ((g4435 3 (by decide)).trans rd4409), f4441, (g4440 5 (by decide)).trans ((g4435 5 (by decide)).trans rd4411), (g4440 6 (by decide)).trans ((g4435 6 (by decide)).trans rd4412), (g4440 7 (by decide)).trans f4436, (g4440 8 (by decide)).trans ((g4435 8 (by decide)).trans rd4414), (g4440 9 (by decide)).trans ((g4435 9 (by decide)).trans rd4415), (g4440 10 (by decide)).trans ((g4435 10 (by decide)).trans rd4416), (g4440 11 (by decide)).trans ((g4435 11 (by decide)).trans rd4417), (g4440 12 (by decide)).trans ((g4435 12 (by decide)).trans rd4418)⟩, ⟨by omega, by omega, by omega, by rw [show m1 + 1 - st = (m1 - st) + 1 by omega]; show _ = min (nuc t st (m1 - st) * 10 + (t (st + (m1 - st)) - 48)) 10000000; rw [show st + (m1 - st) = m1 by omega]; omega, by rw [hi.2.2.2.2]; exact sc_go (by omega) (by unfold isD; simp; omega)⟩⟩ (by omega)
set_option maxRecDepth 20000 in
theorem s_X7_advanceNumberE (l : Launch) (V : VX) (b M Z T N : Nat) (σ : Mem) (a : Nat) (tp : Nat) (td : Nat) (n : Nat) (bk : Nat) (nx : Nat) (st : Nat) (tk : Int32) (vl : Int32) (py : Nat) (sd : Nat) (ln : Nat) (ft : Int32) (pl : Int32) (t : Nat → Nat) (h0 : HT V (b, M, Z, T) σ) (hk : kA b a = 3) (hp0 : nx = st) (hp1 : st ≤ 700) (hR : RD σ a tp td n bk nx st tk vl py sd ln ft pl) (hB : BY V σ tp n t) (hn7 : n ≤ 700) (hsd : sd ≤ 1) (htp : kA b tp = 2) (htd : kA b td = 4) (hbk : kA b bk = 7) (hM : M + 0 ≤ 1000000000) : Ct l V yX7_advanceNumber cX7_advanceNumber 1 none 0 0 0 N σ [.ref a] (fun r τ => HK V (b, M, Z, T) [0, 1, 2, 4, 5, 6, 7, 8, 9, 10, 11, 12, 13, 14, 15, 16, 17, 18, 19] σ τ ∧ (∃ v : Nat, v ≤ 1000000000 ∧ min v 10000000 = nuc t st (sc isD t n st - st) ∧ RD τ a tp td n bk (sc isD t n st) st tk (nI v) py sd ln ft pl) ∧ r = none) := by
  refine Ct.of (by decide) (Nat.le_of_ble_eq_true rfl) [(0, .ref a)] rfl (fun X hX F hQ => ?_)
  have h1 : HK V (b, M, Z, T) [0, 1, 2, 4, 5, 6, 7, 8, 9, 10, 11, 12, 13, 14, 15, 16, 17, 18, 19] σ σ := HK.start h0
  have hrd4442 := hR
  obtain ⟨rd4442, rd4443, rd4444, rd4445, rd4446, rd4447, rd4448, rd4449, rd4450, rd4451, rd4452, rd4453, rd4454⟩ := hrd4442
  refine m_aload_n F rfl e_X7_advanceNumber_0 ?_
  refine m_iconst F (v := 0) (by decide) e_X7_advanceNumber_1 ?_
  refine t_put F e_X7_advanceNumber_2 fp_X7_70 (fun _ => o3) h1 hk rfl ⟨_, rfl⟩ rfl rfl (by decide) (fun σ4455 h4456 g4457 g4458 f4459 => ?_)
  exact lp_X7_advanceNumberE_5 F hQ hk hp0 hp1 hR hB hn7 hsd htp htd hbk hM (700 - nx + 1) nx 0 _ h4456 ⟨⟨(g4458 0 (by decide)).trans rd4442, (g4458 1 (by decide)).trans rd4443, (g4458 2 (by decide)).trans rd4444, (g4458 3 (by decide)).trans rd4445, (g4458 4 (by decide)).trans rd4446, (g4458 5 (by decide)).trans rd4447, (g4458 6 (by decide)).trans rd4448, f4459, (g4458 8 (by decide)).trans rd4450, (g4458 9 (by decide)).trans rd4451, (g4458 10 (by decide)).trans rd4452, (g4458 11 (by decide)).trans rd4453, (g4458 12 (by decide)).trans rd4454⟩, ⟨by omega, by omega, by omega, by rw [hp0, Nat.sub_self]; rfl, by rw [hp0]⟩⟩ (Nat.lt_succ_self _)
theorem nmc_ext {t : Nat → Nat} {p e e2 : Nat} : ∀ k, p + k ≤ e → p + k ≤ e2 → nmc t p e k = nmc t p e2 k
  | 0, _, _ => rfl
  | k + 1, h1, h2 => by
    show nmc t p e k * 32 + (if p + k < e then _ else _) = nmc t p e2 k * 32 + (if p + k < e2 then _ else _)
    rw [nmc_ext (e2 := e2) k (by omega) (by omega), if_pos (by omega), if_pos (by omega)]
theorem nmc_at {t : Nat → Nat} {p m : Nat} (h : p ≤ m) : nmc t p (m + 1) (m + 1 - p) = nmc t p m (m - p) * 32 + (t m - 96) := by
  obtain ⟨k, rfl⟩ : ∃ k, m = p + k := ⟨m - p, by omega⟩
  rw [show p + k + 1 - p = k + 1 by omega, show p + k - p = k by omega]
  show nmc t p (p + k + 1) k * 32 + (if p + k < p + k + 1 then _ else _) = _
  rw [nmc_ext (e2 := p + k) k (by omega) (Nat.le_refl _), if_pos (by omega)]
theorem p32 {k : Nat} (h : k ≤ 5) : 32 ^ k ≤ 33554432 := Nat.le_trans (Nat.pow_le_pow_right (by decide) h) (by decide)
set_option maxRecDepth 20000 in
theorem lp_X7_advanceWordB_5 {V : VX} {X : MX} {b M Z T N : Nat} {σ : Mem} {a : Nat} {tp : Nat} {td : Nat} {n : Nat} {bk : Nat} {nx : Nat} {st : Nat} {tk : Int32} {vl : Int32} {py : Nat} {sd : Nat} {ln : Nat} {ft : Int32} {pl : Int32} {t : Nat → Nat}  (F : Fx V X yX7_advanceWord cX7_advanceWord 2 none (rmd 0 0 0)) (hQ : Rt V X 0 0 N (fun r τ => HK V (b, M, Z, T) [0, 1, 2, 4, 5, 6, 7, 8, 9, 10, 11, 12, 13, 14, 15, 16, 17, 18, 19] σ τ ∧ RD τ a tp td n bk (sc isL t n st) st tk (if sc isL t n st - st ≤ 6 then nI (nmc t st (sc isL t n st) 6) else -1) py sd ln ft pl ∧ r = none)) (hk : kA b a = 3) (hp0 : nx = st) (hp1 : st ≤ 700) (hR : RD σ a tp td n bk nx st tk vl py sd ln ft pl) (hB : BY V σ tp n t) (hn7 : n ≤ 700) (hsd : sd ≤ 1) (htp : kA b tp = 2) (htd : kA b td = 4) (hbk : kA b bk = 7) (hM : M + 0 ≤ 1000000000)  : ∀ (fuel : Nat) (m1 : Nat) (τ : Mem), HK V (b, M, Z, T) [0, 1, 2, 4, 5, 6, 7, 8, 9, 10, 11, 12, 13, 14, 15, 16, 17, 18, 19] σ τ → (RD τ a tp td n bk m1 st tk (-1) py sd ln ft pl ∧ st + 7 ≤ m1 ∧ m1 ≤ 700 ∧ sc isL t n st = sc isL t n m1) → 700 - m1 < fuel → Wm V X 2 N τ 0 0 5 [(0, .ref a)] [] := by
  intro fuel
  induction fuel with
  | zero => intro m1 τ h1 hi hm; exact absurd hm (Nat.not_lt_zero _)
  | succ fuel ih =>
    intro m1 τ h1 hi hm
    obtain ⟨hR1, hi⟩ := hi
    have hrd4460 := hR1
    obtain ⟨rd4460, rd4461, rd4462, rd4463, rd4464, rd4465, rd4466, rd4467, rd4468, rd4469, rd4470, rd4471, rd4472⟩ := hrd4460
    refine m_aload_n F rfl e_X7_advanceWord_5 ?_
    refine t_getC F e_X7_advanceWord_6 fl_X7_42 (fun _ => o3) h1 hk (rd4464) ?_
    refine m_aload_n F rfl e_X7_advanceWord_9 ?_
    refine t_getC F e_X7_advanceWord_10 fl_X7_33 (fun _ => o3) h1 hk (rd4461) ?_
    refine m_icmp_ge F e_X7_advanceWord_13 (fun q13 => ?_) (fun q13 => ?_)
    · have c13 : m1 ≥ n := (nI_leI (a := n) (b := m1) (by omega) (by omega)).mp q13
      refine m_aload_n F rfl e_X7_advanceWord_101 ?_
      refine t_getC F e_X7_advanceWord_102 fl_X7_42 (fun _ => o3) h1 hk (rd4464) ?_
      refine m_aload_n F rfl e_X7_advanceWord_105 ?_
      refine t_getC F e_X7_advanceWord_106 fl_X7_188 (fun _ => o3) h1 hk (rd4465) ?_
      refine m_isub F e_X7_advanceWord_109 ?_
      refine Wm.topE (w := nI (m1 - st)) (pk_sub (a := m1) (b := st) (by omega)) ?_
      refine m_istore_n F (lv' := [(1, .int (nI (m1 - st))), (0, .ref a)]) e_X7_advanceWord_110 (by decide) rfl ?_
      refine m_iload_n F rfl e_X7_advanceWord_111 ?_
      refine m_bipush F (v := 6) (by decide) e_X7_advanceWord_112 ?_
      refine m_icmp_ge F e_X7_advanceWord_114 (fun q114 => ?_) (fun q114 => ?_)
      · have c114 : (m1 - st) ≥ 6 := (nI_leI (a := 6) (b := (m1 - st)) (by omega) (by omega)).mp q114
        have e9 : sc isL t n st = m1 := hi.2.2.trans (sc_stop (by first | exact Or.inl (by omega) | exact Or.inr (by unfold isL; simp; omega)))
        exact m_vret F hQ e_X7_advanceWord_134 (⟨h1, by rw [e9, if_neg (by omega)]; exact ⟨rd4460, rd4461, rd4462, rd4463, rd4464, rd4465, rd4466, rd4467, rd4468, rd4469, rd4470, rd4471, rd4472⟩, rfl⟩)
      · have c114 : (m1 - st) < 6 := by have hh := mt (nI_leI (a := 6) (b := (m1 - st)) (by omega) (by omega)).mpr q114; omega
        exfalso; omega
    · have c13 : m1 < n := by have hh := mt (nI_leI (a := n) (b := m1) (by omega) (by omega)).mpr q13; omega
      refine m_aload_n F rfl e_X7_advanceWord_16 ?_
      refine t_getC F e_X7_advanceWord_17 fl_X7_19 (fun _ => o3) h1 hk (rd4460) ?_
      refine m_aload_n F rfl e_X7_advanceWord_20 ?_
      refine t_getC F e_X7_advanceWord_21 fl_X7_42 (fun _ => o3) h1 hk (rd4464) ?_
      refine t_baldX F (j := m1) (tp := tp) e_X7_advanceWord_24 h1 htp (by decide) hB (nI_clamp (by omega)) (vp_in_nI (by omega) (by decide)) (by omega) (fun hb4473 => ?_)
      refine m_bipush F (v := 97) (by decide) e_X7_advanceWord_25 ?_
      refine m_icmp_lt F e_X7_advanceWord_27 (fun q27 => ?_) (fun q27 => ?_)
      · have c27 : t m1 < 97 ∨ 128 ≤ t m1 := (sx_lt (c := t m1) (k := 97) (by omega) (by omega)).mp q27
        refine m_aload_n F rfl e_X7_advanceWord_101 ?_
        refine t_getC F e_X7_advanceWord_102 fl_X7_42 (fun _ => o3) h1 hk (rd4464) ?_
        refine m_aload_n F rfl e_X7_advanceWord_105 ?_
        refine t_getC F e_X7_advanceWord_106 fl_X7_188 (fun _ => o3) h1 hk (rd4465) ?_
        refine m_isub F e_X7_advanceWord_109 ?_
        refine Wm.topE (w := nI (m1 - st)) (pk_sub (a := m1) (b := st) (by omega)) ?_
        refine m_istore_n F (lv' := [(1, .int (nI (m1 - st))), (0, .ref a)]) e_X7_advanceWord_110 (by decide) rfl ?_
        refine m_iload_n F rfl e_X7_advanceWord_111 ?_
        refine m_bipush F (v := 6) (by decide) e_X7_advanceWord_112 ?_
        refine m_icmp_ge F e_X7_advanceWord_114 (fun q114 => ?_) (fun q114 => ?_)
        · have c114 : (m1 - st) ≥ 6 := (nI_leI (a := 6) (b := (m1 - st)) (by omega) (by omega)).mp q114
          have e9 : sc isL t n st = m1 := hi.2.2.trans (sc_stop (by first | exact Or.inl (by omega) | exact Or.inr (by unfold isL; simp; omega)))
          exact m_vret F hQ e_X7_advanceWord_134 (⟨h1, by rw [e9, if_neg (by omega)]; exact ⟨rd4460, rd4461, rd4462, rd4463, rd4464, rd4465, rd4466, rd4467, rd4468, rd4469, rd4470, rd4471, rd4472⟩, rfl⟩)
        · have c114 : (m1 - st) < 6 := by have hh := mt (nI_leI (a := 6) (b := (m1 - st)) (by omega) (by omega)).mpr q114; omega
          exfalso; omega
      · have c27 : ¬ (t m1 < 97 ∨ 128 ≤ t m1) := fun e => q27 ((sx_lt (c := t m1) (k := 97) (by omega) (by omega)).mpr e)
        refine m_aload_n F rfl e_X7_advanceWord_30 ?_
        refine t_getC F e_X7_advanceWord_31 fl_X7_19 (fun _ => o3) h1 hk (rd4460) ?_
        refine m_aload_n F rfl e_X7_advanceWord_34 ?_
        refine t_getC F e_X7_advanceWord_35 fl_X7_42 (fun _ => o3) h1 hk (rd4464) ?_
        refine t_baldX F (j := m1) (tp := tp) e_X7_advanceWord_38 h1 htp (by decide) hB (nI_clamp (by omega)) (vp_in_nI (by omega) (by decide)) (by omega) (fun hb4474 => ?_)
        refine m_bipush F (v := 122) (by decide) e_X7_advanceWord_39 ?_
        refine m_icmp_gt F e_X7_advanceWord_41 (fun q41 => ?_) (fun q41 => ?_)
        · have c41 : 122 < t m1 ∧ t m1 < 128 := (sx_gt (c := t m1) (k := 122) (by omega) (by omega)).mp q41
          refine m_aload_n F rfl e_X7_advanceWord_101 ?_
          refine t_getC F e_X7_advanceWord_102 fl_X7_42 (fun _ => o3) h1 hk (rd4464) ?_
          refine m_aload_n F rfl e_X7_advanceWord_105 ?_
          refine t_getC F e_X7_advanceWord_106 fl_X7_188 (fun _ => o3) h1 hk (rd4465) ?_
          refine m_isub F e_X7_advanceWord_109 ?_
          refine Wm.topE (w := nI (m1 - st)) (pk_sub (a := m1) (b := st) (by omega)) ?_
          refine m_istore_n F (lv' := [(1, .int (nI (m1 - st))), (0, .ref a)]) e_X7_advanceWord_110 (by decide) rfl ?_
          refine m_iload_n F rfl e_X7_advanceWord_111 ?_
          refine m_bipush F (v := 6) (by decide) e_X7_advanceWord_112 ?_
          refine m_icmp_ge F e_X7_advanceWord_114 (fun q114 => ?_) (fun q114 => ?_)
          · have c114 : (m1 - st) ≥ 6 := (nI_leI (a := 6) (b := (m1 - st)) (by omega) (by omega)).mp q114
            have e9 : sc isL t n st = m1 := hi.2.2.trans (sc_stop (by first | exact Or.inl (by omega) | exact Or.inr (by unfold isL; simp; omega)))
            exact m_vret F hQ e_X7_advanceWord_134 (⟨h1, by rw [e9, if_neg (by omega)]; exact ⟨rd4460, rd4461, rd4462, rd4463, rd4464, rd4465, rd4466, rd4467, rd4468, rd4469, rd4470, rd4471, rd4472⟩, rfl⟩)
          · have c114 : (m1 - st) < 6 := by have hh := mt (nI_leI (a := 6) (b := (m1 - st)) (by omega) (by omega)).mpr q114; omega
            exfalso; omega
        · have c41 : ¬ (122 < t m1 ∧ t m1 < 128) := fun e => q41 ((sx_gt (c := t m1) (k := 122) (by omega) (by omega)).mpr e)
          refine m_aload_n F rfl e_X7_advanceWord_44 ?_
          refine m_aload_n F rfl e_X7_advanceWord_45 ?_
          refine t_getC F e_X7_advanceWord_46 fl_X7_42 (fun _ => o3) h1 hk (rd4464) ?_
          refine m_aload_n F rfl e_X7_advanceWord_49 ?_
          refine t_getC F e_X7_advanceWord_50 fl_X7_188 (fun _ => o3) h1 hk (rd4465) ?_
          refine m_isub F e_X7_advanceWord_53 ?_
          refine Wm.topE (w := nI (m1 - st)) (pk_sub (a := m1) (b := st) (by omega)) ?_
          refine m_bipush F (v := 6) (by decide) e_X7_advanceWord_54 ?_
          refine m_icmp_ge F e_X7_advanceWord_56 (fun q56 => ?_) (fun q56 => ?_)
          · have c56 : (m1 - st) ≥ 6 := (nI_leI (a := 6) (b := (m1 - st)) (by omega) (by omega)).mp q56
            refine m_iconst F (v := (-1)) (by decide) e_X7_advanceWord_84 ?_
            refine t_put F e_X7_advanceWord_85 fp_X7_70 (fun _ => o3) h1 hk rfl ⟨_, rfl⟩ rfl rfl (by decide) (fun σ4475 h4476 g4477 g4478 f4479 => ?_)
            refine m_aload_n F rfl e_X7_advanceWord_88 ?_
            refine m_dup F rfl e_X7_advanceWord_89 ?_
            refine t_getC F e_X7_advanceWord_90 fl_X7_42 (fun _ => o3) h4476 hk ((g4478 4 (by decide)).trans rd4464) ?_
            refine m_iconst F (v := 1) (by decide) e_X7_advanceWord_93 ?_
            refine m_iadd F e_X7_advanceWord_94 ?_
            refine Wm.topE (w := nI (m1 + 1)) (nI_add m1 1) ?_
            refine t_put F e_X7_advanceWord_95 fp_X7_42 (fun _ => o3) h4476 hk rfl ⟨m1 + 1, (show m1 + 1 ≤ 700 by omega), rfl⟩ rfl rfl (by decide) (fun σ4480 h4481 g4482 g4483 f4484 => ?_)
            refine m_goto F e_X7_advanceWord_98 ?_
            exact ih (m1 + 1) _ h4481 ⟨⟨(g4483 0 (by decide)).trans ((g4478 0 (by decide)).trans rd4460), (g4483 1 (by decide)).trans ((g4478 1 (by decide)).trans rd4461), (g4483 2 (by decide)).trans ((g4478 2 (by decide)).trans rd4462), (g4483 3 (by decide)).trans ((g4478 3 (by decide)).trans rd4463), f4484, (g4483 5 (by decide)).trans ((g4478 5 (by decide)).trans rd4465), (g4483 6 (by decide)).trans ((g4478 6 (by decide)).trans rd4466), (g4483 7 (by decide)).trans f4479, (g4483 8 (by decide)).trans ((g4478 8 (by decide)).trans rd4468), (g4483 9 (by decide)).trans ((g4478 9 (by decide)).trans rd4469), (g4483 10 (by decide)).trans ((g4478 10 (by decide)).trans rd4470), (g4483 11 (by decide)).trans ((g4478 11 (by decide)).trans rd4471), (g4483 12 (by decide)).trans ((g4478 12 (by decide)).trans rd4472)⟩, ⟨by omega, by omega, by rw [hi.2.2]; exact sc_go (by omega) (by unfold isL; simp; omega)⟩⟩ (by omega)
          · have c56 : (m1 - st) < 6 := by have hh := mt (nI_leI (a := 6) (b := (m1 - st)) (by omega) (by omega)).mpr q56; omega
            exfalso; omega
set_option maxRecDepth 20000 in
theorem lp_X7_advanceWordE_111 {V : VX} {X : MX} {b M Z T N : Nat} {σ : Mem} {a : Nat} {tp : Nat} {td : Nat} {n : Nat} {bk : Nat} {nx : Nat} {st : Nat} {tk : Int32} {vl : Int32} {py : Nat} {sd : Nat} {ln : Nat} {ft : Int32} {pl : Int32} {t : Nat → Nat}  (F : Fx V X yX7_advanceWord cX7_advanceWord 2 none (rmd 0 0 0)) (hQ : Rt V X 0 0 N (fun r τ => HK V (b, M, Z, T) [0, 1, 2, 4, 5, 6, 7, 8, 9, 10, 11, 12, 13, 14, 15, 16, 17, 18, 19] σ τ ∧ RD τ a tp td n bk (sc isL t n st) st tk (if sc isL t n st - st ≤ 6 then nI (nmc t st (sc isL t n st) 6) else -1) py sd ln ft pl ∧ r = none)) (hk : kA b a = 3) (hp0 : nx = st) (hp1 : st ≤ 700) (hR : RD σ a tp td n bk nx st tk vl py sd ln ft pl) (hB : BY V σ tp n t) (hn7 : n ≤ 700) (hsd : sd ≤ 1) (htp : kA b tp = 2) (htd : kA b td = 4) (hbk : kA b bk = 7) (hM : M + 0 ≤ 1000000000)  : ∀ (fuel : Nat) (i1 : Nat) (m1 : Nat) (v1 : Nat) (τ : Mem), HK V (b, M, Z, T) [0, 1, 2, 4, 5, 6, 7, 8, 9, 10, 11, 12, 13, 14, 15, 16, 17, 18, 19] σ τ → (RD τ a tp td n bk m1 st tk (nI v1) py sd ln ft pl ∧ sc isL t n st = m1 ∧ st ≤ m1 ∧ m1 ≤ 700 ∧ v1 = nmc t st m1 i1 ∧ v1 < 32 ^ i1 ∧ m1 - st ≤ i1 ∧ i1 ≤ 6) → 6 - i1 < fuel → Wm V X 2 N τ 0 0 111 [(1, .int (nI i1)), (0, .ref a)] [] := by
  intro fuel
  induction fuel with
  | zero => intro i1 m1 v1 τ h1 hi hm; exact absurd hm (Nat.not_lt_zero _)
  | succ fuel ih =>
    intro i1 m1 v1 τ h1 hi hm
    obtain ⟨hR1, hi⟩ := hi
    have hrd4503 := hR1
    obtain ⟨rd4503, rd4504, rd4505, rd4506, rd4507, rd4508, rd4509, rd4510, rd4511, rd4512, rd4513, rd4514, rd4515⟩ := hrd4503
    refine m_iload_n F rfl e_X7_advanceWord_111 ?_
    refine m_bipush F (v := 6) (by decide) e_X7_advanceWord_112 ?_
    refine m_icmp_ge F e_X7_advanceWord_114 (fun q114 => ?_) (fun q114 => ?_)
    · have c114 : i1 ≥ 6 := (nI_leI (a := 6) (b := i1) (by omega) (by omega)).mp q114
      exact m_vret F hQ e_X7_advanceWord_134 (⟨h1, by rw [hi.1, if_pos (by omega), show nmc t st m1 6 = v1 by rw [hi.2.2.2.1, show i1 = 6 by omega]]; exact ⟨rd4503, rd4504, rd4505, rd4506, rd4507, rd4508, rd4509, rd4510, rd4511, rd4512, rd4513, rd4514, rd4515⟩, rfl⟩)
    · have c114 : i1 < 6 := by have hh := mt (nI_leI (a := 6) (b := i1) (by omega) (by omega)).mpr q114; omega
      refine m_aload_n F rfl e_X7_advanceWord_117 ?_
      refine m_aload_n F rfl e_X7_advanceWord_118 ?_
      refine t_getC F e_X7_advanceWord_119 fl_X7_70 (fun _ => o3) h1 hk (rd4510) ?_
      refine m_bipush F (v := 32) (by decide) e_X7_advanceWord_122 ?_
      refine m_imul F e_X7_advanceWord_124 ?_
      refine Wm.topE (w := nI (v1 * 32)) (pk_mul v1 32) ?_
      refine t_put F e_X7_advanceWord_125 fp_X7_70 (fun _ => o3) h1 hk rfl ⟨_, rfl⟩ rfl rfl (by decide) (fun σ4516 h4517 g4518 g4519 f4520 => ?_)
      refine m_iinc F (v := nI (i1 + 1)) (lv' := [(1, .int (nI (i1 + 1))), (0, .ref a)]) e_X7_advanceWord_128 rfl (nI_add i1 1) (by decide) rfl ?_
      refine m_goto F e_X7_advanceWord_131 ?_
      exact ih (i1 + 1) m1 (v1 * 32) _ h4517 ⟨⟨(g4519 0 (by decide)).trans rd4503, (g4519 1 (by decide)).trans rd4504, (g4519 2 (by decide)).trans rd4505, (g4519 3 (by decide)).trans rd4506, (g4519 4 (by decide)).trans rd4507, (g4519 5 (by decide)).trans rd4508, (g4519 6 (by decide)).trans rd4509, f4520, (g4519 8 (by decide)).trans rd4511, (g4519 9 (by decide)).trans rd4512, (g4519 10 (by decide)).trans rd4513, (g4519 11 (by decide)).trans rd4514, (g4519 12 (by decide)).trans rd4515⟩, ⟨hi.1, by omega, by omega, by rw [hi.2.2.2.1]; show _ = nmc t st m1 i1 * 32 + (if st + i1 < m1 then _ else _); rw [if_neg (by omega), Nat.add_zero], by rw [Nat.pow_succ]; omega, by omega, by omega⟩⟩ (by omega)
set_option maxRecDepth 20000 in
theorem lp_X7_advanceWordE_5 {V : VX} {X : MX} {b M Z T N : Nat} {σ : Mem} {a : Nat} {tp : Nat} {td : Nat} {n : Nat} {bk : Nat} {nx : Nat} {st : Nat} {tk : Int32} {vl : Int32} {py : Nat} {sd : Nat} {ln : Nat} {ft : Int32} {pl : Int32} {t : Nat → Nat}  (F : Fx V X yX7_advanceWord cX7_advanceWord 2 none (rmd 0 0 0)) (hQ : Rt V X 0 0 N (fun r τ => HK V (b, M, Z, T) [0, 1, 2, 4, 5, 6, 7, 8, 9, 10, 11, 12, 13, 14, 15, 16, 17, 18, 19] σ τ ∧ RD τ a tp td n bk (sc isL t n st) st tk (if sc isL t n st - st ≤ 6 then nI (nmc t st (sc isL t n st) 6) else -1) py sd ln ft pl ∧ r = none)) (hk : kA b a = 3) (hp0 : nx = st) (hp1 : st ≤ 700) (hR : RD σ a tp td n bk nx st tk vl py sd ln ft pl) (hB : BY V σ tp n t) (hn7 : n ≤ 700) (hsd : sd ≤ 1) (htp : kA b tp = 2) (htd : kA b td = 4) (hbk : kA b bk = 7) (hM : M + 0 ≤ 1000000000)  : ∀ (fuel : Nat) (m1 : Nat) (v1 : Nat) (τ : Mem), HK V (b, M, Z, T) [0, 1, 2, 4, 5, 6, 7, 8, 9, 10, 11, 12, 13, 14, 15, 16, 17, 18, 19] σ τ → (RD τ a tp td n bk m1 st tk (nI v1) py sd ln ft pl ∧ st ≤ m1 ∧ m1 ≤ 700 ∧ sc isL t n st = sc isL t n m1 ∧ v1 = nmc t st m1 (m1 - st) ∧ v1 < 32 ^ (m1 - st) ∧ m1 - st ≤ 6) → 700 - m1 < fuel → Wm V X 2 N τ 0 0 5 [(0, .ref a)] [] := by
  intro fuel
  induction fuel with
  | zero => intro m1 v1 τ h1 hi hm; exact absurd hm (Nat.not_lt_zero _)
  | succ fuel ih =>
    intro m1 v1 τ h1 hi hm
    obtain ⟨hR1, hi⟩ := hi
    have hrd4521 := hR1
    obtain ⟨rd4521, rd4522, rd4523, rd4524, rd4525, rd4526, rd4527, rd4528, rd4529, rd4530, rd4531, rd4532, rd4533⟩ := hrd4521
    refine m_aload_n F rfl e_X7_advanceWord_5 ?_
    refine t_getC F e_X7_advanceWord_6 fl_X7_42 (fun _ => o3) h1 hk (rd4525) ?_
    refine m_aload_n F rfl e_X7_advanceWord_9 ?_
    refine t_getC F e_X7_advanceWord_10 fl_X7_33 (fun _ => o3) h1 hk (rd4522) ?_
    refine m_icmp_ge F e_X7_advanceWord_13 (fun q13 => ?_) (fun q13 => ?_)
    · have c13 : m1 ≥ n := (nI_leI (a := n) (b := m1) (by omega) (by omega)).mp q13
      refine m_aload_n F rfl e_X7_advanceWord_101 ?_
      refine t_getC F e_X7_advanceWord_102 fl_X7_42 (fun _ => o3) h1 hk (rd4525) ?_
      refine m_aload_n F rfl e_X7_advanceWord_105 ?_
      refine t_getC F e_X7_advanceWord_106 fl_X7_188 (fun _ => o3) h1 hk (rd4526) ?_
      refine m_isub F e_X7_advanceWord_109 ?_
      refine Wm.topE (w := nI (m1 - st)) (pk_sub (a := m1) (b := st) (by omega)) ?_
      refine m_istore_n F (lv' := [(1, .int (nI (m1 - st))), (0, .ref a)]) e_X7_advanceWord_110 (by decide) rfl ?_
      exact lp_X7_advanceWordE_111 F hQ hk hp0 hp1 hR hB hn7 hsd htp htd hbk hM (6 - (m1 - st) + 1) (m1 - st) m1 v1 _ h1 ⟨⟨rd4521, rd4522, rd4523, rd4524, rd4525, rd4526, rd4527, rd4528, rd4529, rd4530, rd4531, rd4532, rd4533⟩, ⟨hi.2.2.1.trans (sc_stop (by first | exact Or.inl (by omega) | exact Or.inr (by unfold isL; simp; omega))), by omega, by omega, hi.2.2.2.1, hi.2.2.2.2.1, Nat.le_refl _, by omega⟩⟩ (Nat.lt_succ_self _)
    · have c13 : m1 < n := by have hh := mt (nI_leI (a := n) (b := m1) (by omega) (by omega)).mpr q13; omega
      refine m_aload_n F rfl e_X7_advanceWord_16 ?_
      refine t_getC F e_X7_advanceWord_17 fl_X7_19 (fun _ => o3) h1 hk (rd4521) ?_
      refine m_aload_n F rfl e_X7_advanceWord_20 ?_
      refine t_getC F e_X7_advanceWord_21 fl_X7_42 (fun _ => o3) h1 hk (rd4525) ?_
      refine t_baldX F (j := m1) (tp := tp) e_X7_advanceWord_24 h1 htp (by decide) hB (nI_clamp (by omega)) (vp_in_nI (by omega) (by decide)) (by omega) (fun hb4534 => ?_)
      refine m_bipush F (v := 97) (by decide) e_X7_advanceWord_25 ?_
      refine m_icmp_lt F e_X7_advanceWord_27 (fun q27 => ?_) (fun q27 => ?_)
      · have c27 : t m1 < 97 ∨ 128 ≤ t m1 := (sx_lt (c := t m1) (k := 97) (by omega) (by omega)).mp q27
        refine m_aload_n F rfl e_X7_advanceWord_101 ?_
        refine t_getC F e_X7_advanceWord_102 fl_X7_42 (fun _ => o3) h1 hk (rd4525) ?_
        refine m_aload_n F rfl e_X7_advanceWord_105 ?_
        refine t_getC F e_X7_advanceWord_106 fl_X7_188 (fun _ => o3) h1 hk (rd4526) ?_
        refine m_isub F e_X7_advanceWord_109 ?_
        refine Wm.topE (w := nI (m1 - st)) (pk_sub (a := m1) (b := st) (by omega)) ?_
        refine m_istore_n F (lv' := [(1, .int (nI (m1 - st))), (0, .ref a)]) e_X7_advanceWord_110 (by decide) rfl ?_
        exact lp_X7_advanceWordE_111 F hQ hk hp0 hp1 hR hB hn7 hsd htp htd hbk hM (6 - (m1 - st) + 1) (m1 - st) m1 v1 _ h1 ⟨⟨rd4521, rd4522, rd4523, rd4524, rd4525, rd4526, rd4527, rd4528, rd4529, rd4530, rd4531, rd4532, rd4533⟩, ⟨hi.2.2.1.trans (sc_stop (by first | exact Or.inl (by omega) | exact Or.inr (by unfold isL; simp; omega))), by omega, by omega, hi.2.2.2.1, hi.2.2.2.2.1, Nat.le_refl _, by omega⟩⟩ (Nat.lt_succ_self _)
      · have c27 : ¬ (t m1 < 97 ∨ 128 ≤ t m1) := fun e => q27 ((sx_lt (c := t m1) (k := 97) (by omega) (by omega)).mpr e)
        refine m_aload_n F rfl e_X7_advanceWord_30 ?_
        refine t_getC F e_X7_advanceWord_31 fl_X7_19 (fun _ => o3) h1 hk (rd4521) ?_
        refine m_aload_n F rfl e_X7_advanceWord_34 ?_
        refine t_getC F e_X7_advanceWord_35 fl_X7_42 (fun _ => o3) h1 hk (rd4525) ?_
        refine t_baldX F (j := m1) (tp := tp) e_X7_advanceWord_38 h1 htp (by decide) hB (nI_clamp (by omega)) (vp_in_nI (by omega) (by decide)) (by omega) (fun hb4535 => ?_)
        refine m_bipush F (v := 122) (by decide) e_X7_advanceWord_39 ?_
        refine m_icmp_gt F e_X7_advanceWord_41 (fun q41 => ?_) (fun q41 => ?_)
        · have c41 : 122 < t m1 ∧ t m1 < 128 := (sx_gt (c := t m1) (k := 122) (by omega) (by omega)).mp q41
          refine m_aload_n F rfl e_X7_advanceWord_101 ?_
          refine t_getC F e_X7_advanceWord_102 fl_X7_42 (fun _ => o3) h1 hk (rd4525) ?_
          refine m_aload_n F rfl e_X7_advanceWord_105 ?_
          refine t_getC F e_X7_advanceWord_106 fl_X7_188 (fun _ => o3) h1 hk (rd4526) ?_
          refine m_isub F e_X7_advanceWord_109 ?_
          refine Wm.topE (w := nI (m1 - st)) (pk_sub (a := m1) (b := st) (by omega)) ?_
          refine m_istore_n F (lv' := [(1, .int (nI (m1 - st))), (0, .ref a)]) e_X7_advanceWord_110 (by decide) rfl ?_
          exact lp_X7_advanceWordE_111 F hQ hk hp0 hp1 hR hB hn7 hsd htp htd hbk hM (6 - (m1 - st) + 1) (m1 - st) m1 v1 _ h1 ⟨⟨rd4521, rd4522, rd4523, rd4524, rd4525, rd4526, rd4527, rd4528, rd4529, rd4530, rd4531, rd4532, rd4533⟩, ⟨hi.2.2.1.trans (sc_stop (by first | exact Or.inl (by omega) | exact Or.inr (by unfold isL; simp; omega))), by omega, by omega, hi.2.2.2.1, hi.2.2.2.2.1, Nat.le_refl _, by omega⟩⟩ (Nat.lt_succ_self _)
        · have c41 : ¬ (122 < t m1 ∧ t m1 < 128) := fun e => q41 ((sx_gt (c := t m1) (k := 122) (by omega) (by omega)).mpr e)
          refine m_aload_n F rfl e_X7_advanceWord_44 ?_
          refine m_aload_n F rfl e_X7_advanceWord_45 ?_
          refine t_getC F e_X7_advanceWord_46 fl_X7_42 (fun _ => o3) h1 hk (rd4525) ?_
          refine m_aload_n F rfl e_X7_advanceWord_49 ?_
          refine t_getC F e_X7_advanceWord_50 fl_X7_188 (fun _ => o3) h1 hk (rd4526) ?_
          refine m_isub F e_X7_advanceWord_53 ?_
          refine Wm.topE (w := nI (m1 - st)) (pk_sub (a := m1) (b := st) (by omega)) ?_
          refine m_bipush F (v := 6) (by decide) e_X7_advanceWord_54 ?_
          refine m_icmp_ge F e_X7_advanceWord_56 (fun q56 => ?_) (fun q56 => ?_)
          · have c56 : (m1 - st) ≥ 6 := (nI_leI (a := 6) (b := (m1 - st)) (by omega) (by omega)).mp q56
            refine m_iconst F (v := (-1)) (by decide) e_X7_advanceWord_84 ?_
            refine t_put F e_X7_advanceWord_85 fp_X7_70 (fun _ => o3) h1 hk rfl ⟨_, rfl⟩ rfl rfl (by decide) (fun σ4536 h4537 g4538 g4539 f4540 => ?_)
            refine m_aload_n F rfl e_X7_advanceWord_88 ?_
            refine m_dup F rfl e_X7_advanceWord_89 ?_
            refine t_getC F e_X7_advanceWord_90 fl_X7_42 (fun _ => o3) h4537 hk ((g4539 4 (by decide)).trans rd4525) ?_
            refine m_iconst F (v := 1) (by decide) e_X7_advanceWord_93 ?_
            refine m_iadd F e_X7_advanceWord_94 ?_
            refine Wm.topE (w := nI (m1 + 1)) (nI_add m1 1) ?_
            refine t_put F e_X7_advanceWord_95 fp_X7_42 (fun _ => o3) h4537 hk rfl ⟨m1 + 1, (show m1 + 1 ≤ 700 by omega), rfl⟩ rfl rfl (by decide) (fun σ4541 h4542 g4543 g4544 f4545 => ?_)
            refine m_goto F e_X7_advanceWord_98 ?_
            exact lp_X7_advanceWordB_5 F hQ hk hp0 hp1 hR hB hn7 hsd htp htd hbk hM (700 - (m1 + 1) + 1) (m1 + 1) _ h4542 ⟨⟨(g4544 0 (by decide)).trans ((g4539 0 (by decide)).trans rd4521), (g4544 1 (by decide)).trans ((g4539 1 (by decide)).trans rd4522), (g4544 2 (by decide)).trans ((g4539 2 (by decide)).trans rd4523), (g4544 3 (by decide)).trans ((g4539 3 (by decide)).trans rd4524), f4545, (g4544 5 (by decide)).trans ((g4539 5 (by decide)).trans rd4526), (g4544 6 (by decide)).trans ((g4539 6 (by decide)).trans rd4527), (g4544 7 (by decide)).trans f4540, (g4544 8 (by decide)).trans ((g4539 8 (by decide)).trans rd4529), (g4544 9 (by decide)).trans ((g4539 9 (by decide)).trans rd4530), (g4544 10 (by decide)).trans ((g4539 10 (by decide)).trans rd4531), (g4544 11 (by decide)).trans ((g4539 11 (by decide)).trans rd4532), (g4544 12 (by decide)).trans ((g4539 12 (by decide)).trans rd4533)⟩, ⟨by omega, by omega, by rw [hi.2.2.1]; exact sc_go (by omega) (by unfold isL; simp; omega)⟩⟩ (Nat.lt_succ_self _)
          · have c56 : (m1 - st) < 6 := by have hh := mt (nI_leI (a := 6) (b := (m1 - st)) (by omega) (by omega)).mpr q56; omega
            refine m_aload_n F rfl e_X7_advanceWord_59 ?_
            refine t_getC F e_X7_advanceWord_60 fl_X7_70 (fun _ => o3) h1 hk (rd4528) ?_
            refine m_bipush F (v := 32) (by decide) e_X7_advanceWord_63 ?_
            refine m_imul F e_X7_advanceWord_65 ?_
            refine Wm.topE (w := nI (v1 * 32)) (pk_mul v1 32) ?_
            refine m_aload_n F rfl e_X7_advanceWord_66 ?_
            refine t_getC F e_X7_advanceWord_67 fl_X7_19 (fun _ => o3) h1 hk (rd4521) ?_
            refine m_aload_n F rfl e_X7_advanceWord_70 ?_
            refine t_getC F e_X7_advanceWord_71 fl_X7_42 (fun _ => o3) h1 hk (rd4525) ?_
            refine t_baldX F (j := m1) (tp := tp) e_X7_advanceWord_74 h1 htp (by decide) hB (nI_clamp (by omega)) (vp_in_nI (by omega) (by decide)) (by omega) (fun hb4546 => ?_)
            refine Wm.topE (w := nI (t m1)) (sx_lo (by omega)) ?_
            refine m_iadd F e_X7_advanceWord_75 ?_
            refine Wm.topE (w := nI ((v1 * 32) + (t m1))) (nI_add (v1 * 32) (t m1)) ?_
            refine m_bipush F (v := 97) (by decide) e_X7_advanceWord_76 ?_
            refine m_isub F e_X7_advanceWord_78 ?_
            refine Wm.topE (w := nI (((v1 * 32) + (t m1)) - 97)) (pk_sub (a := (v1 * 32) + (t m1)) (b := 97) (by omega)) ?_
            refine m_iconst F (v := 1) (by decide) e_X7_advanceWord_79 ?_
            refine m_iadd F e_X7_advanceWord_80 ?_
            refine Wm.topE (w := nI (((v1 * 32) + (t m1)) - 97 + 1)) (nI_add (((v1 * 32) + (t m1)) - 97) 1) ?_
            refine m_goto F e_X7_advanceWord_81 ?_
            refine t_put F e_X7_advanceWord_85 fp_X7_70 (fun _ => o3) h1 hk rfl ⟨_, rfl⟩ rfl rfl (by decide) (fun σ4547 h4548 g4549 g4550 f4551 => ?_)
            refine m_aload_n F rfl e_X7_advanceWord_88 ?_
            refine m_dup F rfl e_X7_advanceWord_89 ?_
            refine t_getC F e_X7_advanceWord_90 fl_X7_42 (fun _ => o3) h4548 hk ((g4550 4 (by decide)).trans rd4525) ?_
            refine m_iconst F (v := 1) (by decide) e_X7_advanceWord_93 ?_
            refine m_iadd F e_X7_advanceWord_94 ?_
            refine Wm.topE (w := nI (m1 + 1)) (nI_add m1 1) ?_
            refine t_put F e_X7_advanceWord_95 fp_X7_42 (fun _ => o3) h4548 hk rfl ⟨m1 + 1, (show m1 + 1 ≤ 700 by omega), rfl⟩ rfl rfl (by decide) (fun σ4552 h4553 g4554 g4555 f4556 => ?_)
            refine m_goto F e_X7_advanceWord_98 ?_
            exact ih (m1 + 1) (((v1 * 32) + (t m1)) - 97 + 1) _ h4553 ⟨⟨(g4555 0 (by decide)).trans ((g4550 0 (by decide)).trans rd4521), (g4555 1 (by decide)).trans ((g4550 1 (by decide)).trans rd4522), (g4555 2 (by decide)).trans ((g4550 2 (by decide)).trans rd4523), (g4555 3 (by decide)).trans ((g4550 3 (by decide)).trans rd4524), f4556, (g4555 5 (by decide)).trans ((g4550 5 (by decide)).trans rd4526), (g4555 6 (by decide)).trans ((g4550 6 (by decide)).trans rd4527), (g4555 7 (by decide)).trans f4551, (g4555 8 (by decide)).trans ((g4550 8 (by decide)).trans rd4529), (g4555 9 (by decide)).trans ((g4550 9 (by decide)).trans rd4530), (g4555 10 (by decide)).trans ((g4550 10 (by decide)).trans rd4531), (g4555 11 (by decide)).trans ((g4550 11 (by decide)).trans rd4532), (g4555 12 (by decide)).trans ((g4550 12 (by decide)).trans rd4533)⟩, ⟨by omega, by omega, by rw [hi.2.2.1]; exact sc_go (by omega) (by unfold isL; simp; omega), by rw [nmc_at (by omega), ← hi.2.2.2.1]; omega, by rw [show m1 + 1 - st = (m1 - st) + 1 by omega, Nat.pow_succ]; omega, by omega⟩⟩ (by omega)
set_option maxRecDepth 20000 in
theorem s_X7_advanceWordE (l : Launch) (V : VX) (b M Z T N : Nat) (σ : Mem) (a : Nat) (tp : Nat) (td : Nat) (n : Nat) (bk : Nat) (nx : Nat) (st : Nat) (tk : Int32) (vl : Int32) (py : Nat) (sd : Nat) (ln : Nat) (ft : Int32) (pl : Int32) (t : Nat → Nat) (h0 : HT V (b, M, Z, T) σ) (hk : kA b a = 3) (hp0 : nx = st) (hp1 : st ≤ 700) (hR : RD σ a tp td n bk nx st tk vl py sd ln ft pl) (hB : BY V σ tp n t) (hn7 : n ≤ 700) (hsd : sd ≤ 1) (htp : kA b tp = 2) (htd : kA b td = 4) (hbk : kA b bk = 7) (hM : M + 0 ≤ 1000000000) : Ct l V yX7_advanceWord cX7_advanceWord 2 none 0 0 0 N σ [.ref a] (fun r τ => HK V (b, M, Z, T) [0, 1, 2, 4, 5, 6, 7, 8, 9, 10, 11, 12, 13, 14, 15, 16, 17, 18, 19] σ τ ∧ RD τ a tp td n bk (sc isL t n st) st tk (if sc isL t n st - st ≤ 6 then nI (nmc t st (sc isL t n st) 6) else -1) py sd ln ft pl ∧ r = none) := by
  refine Ct.of (by decide) (Nat.le_of_ble_eq_true rfl) [(0, .ref a)] rfl (fun X hX F hQ => ?_)
  have h1 : HK V (b, M, Z, T) [0, 1, 2, 4, 5, 6, 7, 8, 9, 10, 11, 12, 13, 14, 15, 16, 17, 18, 19] σ σ := HK.start h0
  have hrd4557 := hR
  obtain ⟨rd4557, rd4558, rd4559, rd4560, rd4561, rd4562, rd4563, rd4564, rd4565, rd4566, rd4567, rd4568, rd4569⟩ := hrd4557
  refine m_aload_n F rfl e_X7_advanceWord_0 ?_
  refine m_iconst F (v := 0) (by decide) e_X7_advanceWord_1 ?_
  refine t_put F e_X7_advanceWord_2 fp_X7_70 (fun _ => o3) h1 hk rfl ⟨_, rfl⟩ rfl rfl (by decide) (fun σ4570 h4571 g4572 g4573 f4574 => ?_)
  exact lp_X7_advanceWordE_5 F hQ hk hp0 hp1 hR hB hn7 hsd htp htd hbk hM (700 - nx + 1) nx 0 _ h4571 ⟨⟨(g4573 0 (by decide)).trans rd4557, (g4573 1 (by decide)).trans rd4558, (g4573 2 (by decide)).trans rd4559, (g4573 3 (by decide)).trans rd4560, (g4573 4 (by decide)).trans rd4561, (g4573 5 (by decide)).trans rd4562, (g4573 6 (by decide)).trans rd4563, f4574, (g4573 8 (by decide)).trans rd4565, (g4573 9 (by decide)).trans rd4566, (g4573 10 (by decide)).trans rd4567, (g4573 11 (by decide)).trans rd4568, (g4573 12 (by decide)).trans rd4569⟩, ⟨by omega, by omega, by rw [hp0], by rw [hp0, Nat.sub_self]; rfl, by rw [hp0, Nat.sub_self]; decide, by omega⟩⟩ (Nat.lt_succ_self _)
theorem BY.keep {V : VX} {σ τ : Mem} {tp n : Nat} {t : Nat → Nat} (h : BY V σ tp n t) (e : τ tp = σ tp) : BY V τ tp n t := by
  obtain ⟨f, h1, h2⟩ := h
  exact ⟨f, e.trans h1, h2⟩
/-- a token as the class holds it -/
def CT (tk vl : Int32) (s v : Nat) : Prop := (s = 0 ∧ tk = 0) ∨ (s = 1 ∧ tk = 1 ∧ ∃ c, vl = nI c ∧ c < 1073741824 ∧ kix c = v ∧ v < 9) ∨ (s = 2 ∧ tk = 1 ∧ vl = nI v ∧ v < 1073741824 ∧ ¬ kix v < 9) ∨ (s = 3 ∧ tk = 2 ∧ ∃ w, w ≤ 1000000000 ∧ vl = nI w ∧ min w 10000000 = v) ∨ (s = 4 ∧ tk = 3) ∨ (s = 5 ∧ (tk = 1 ∧ vl = -1 ∨ tk = 4))
theorem nmc_b {t : Nat → Nat} {p e : Nat} (h : ∀ j, p + j < e → t (p + j) - 96 < 32) : ∀ k, nmc t p e k < 32 ^ k
  | 0 => Nat.zero_lt_one
  | k + 1 => by
    have h1 := nmc_b h k
    show nmc t p e k * 32 + (if p + k < e then _ else _) < _
    rw [Nat.pow_succ]
    split
    · have h2 := h k (by assumption); omega
    · omega
theorem scan_all {p : Nat → Bool} {t : Nat → Nat} : ∀ (f a i : Nat), a ≤ i → i < scan p t f a → p (t i) = true
  | 0, a, i, h1, h2 => absurd h2 (Nat.not_lt.mpr h1)
  | f + 1, a, i, h1, h2 => by
    have h3 : i < (if p (t a) then scan p t f (a + 1) else a) := h2
    by_cases ha : p (t a) = true
    · rw [if_pos ha] at h3
      by_cases e : i = a
      · rw [e]; exact ha
      · exact scan_all f (a + 1) i (by omega) h3
    · rw [if_neg ha] at h3; omega
theorem nmc_small {t : Nat → Nat} {n p : Nat} : nmc t p (sc isL t n p) 6 < 1073741824 := by
  refine nmc_b (fun j hj => ?_) 6
  have h1 := scan_all (p := isL) (t := t) (n - p) p (p + j) (by omega) hj
  unfold isL at h1
  simp at h1
  omega
theorem sc_in {p : Nat → Bool} {t : Nat → Nat} {n a : Nat} (h : a ≤ n) : a ≤ sc p t n a ∧ sc p t n a ≤ n := by
  have h1 := sc_le (p := p) (t := t) (n - a) a
  unfold sc; omega
set_option maxRecDepth 20000 in
theorem lp_X7_advanceE_0 {V : VX} {X : MX} {b M Z T N : Nat} {σ : Mem} {a : Nat} {tp : Nat} {td : Nat} {n : Nat} {bk : Nat} {nx : Nat} {st : Nat} {tk : Int32} {vl : Int32} {py : Nat} {sd : Nat} {ln : Nat} {ft : Int32} {pl : Int32} {t : Nat → Nat}  (F : Fx V X yX7_advance cX7_advance 1 none (rmd 1 0 0)) (hQ : Rt V X 0 0 N (fun r τ => HK V (b, M, Z, T) [0, 1, 2, 4, 5, 6, 7, 8, 9, 10, 11, 12, 13, 14, 15, 16, 17, 18, 19] σ τ ∧ (∃ tk2 vl2, CT tk2 vl2 (tok t n nx).2.1 (tok t n nx).2.2.1 ∧ RD τ a tp td n bk (tok t n nx).2.2.2 (tok t n nx).1 tk2 vl2 py sd ln ft pl) ∧ r = none)) (hk : kA b a = 3) (hp0 : nx ≤ 700) (hR : RD σ a tp td n bk nx st tk vl py sd ln ft pl) (hB : BY V σ tp n t) (hn7 : n ≤ 700) (hsd : sd ≤ 1) (htp : kA b tp = 2) (htd : kA b td = 4) (hbk : kA b bk = 7) (hM : M + 0 ≤ 1000000000)  : ∀ (fuel : Nat) (m1 : Nat) (τ : Mem), HK V (b, M, Z, T) [0, 1, 2, 4, 5, 6, 7, 8, 9, 10, 11, 12, 13, 14, 15, 16, 17, 18, 19] σ τ → (RD τ a tp td n bk m1 st tk vl py sd ln ft pl ∧ m1 ≤ 700 ∧ sc isB t n nx = sc isB t n m1) → 700 - m1 < fuel → Wm V X 1 N τ 0 0 0 [(0, .ref a)] [] := by
  intro fuel
  induction fuel with
  | zero => intro m1 τ h1 hi hm; exact absurd hm (Nat.not_lt_zero _)
  | succ fuel ih =>
    intro m1 τ h1 hi hm
    obtain ⟨hR1, hi⟩ := hi
    have hrd4575 := hR1
    obtain ⟨rd4575, rd4576, rd4577, rd4578, rd4579, rd4580, rd4581, rd4582, rd4583, rd4584, rd4585, rd4586, rd4587⟩ := hrd4575
    refine m_aload_n F rfl e_X7_advance_0 ?_
    refine t_getC F e_X7_advance_1 fl_X7_42 (fun _ => o3) h1 hk (rd4579) ?_
    refine m_aload_n F rfl e_X7_advance_4 ?_
    refine t_getC F e_X7_advance_5 fl_X7_33 (fun _ => o3) h1 hk (rd4576) ?_
    refine m_icmp_ge F e_X7_advance_8 (fun q8 => ?_) (fun q8 => ?_)
    · have c8 : m1 ≥ n := (nI_leI (a := n) (b := m1) (by omega) (by omega)).mp q8
      refine m_aload_n F rfl e_X7_advance_52 ?_
      refine m_aload_n F rfl e_X7_advance_53 ?_
      refine t_getC F e_X7_advance_54 fl_X7_42 (fun _ => o3) h1 hk (rd4579) ?_
      refine t_put F e_X7_advance_57 fp_X7_188 (fun _ => o3) h1 hk rfl ⟨_, rfl⟩ rfl rfl (by decide) (fun σ4588 h4589 g4590 g4591 f4592 => ?_)
      refine m_aload_n F rfl e_X7_advance_60 ?_
      refine m_aload_n F rfl e_X7_advance_61 ?_
      refine m_aload_n F rfl e_X7_advance_62 ?_
      refine t_getC F e_X7_advance_63 fl_X7_42 (fun _ => o3) h4589 hk ((g4591 4 (by decide)).trans rd4579) ?_
      refine t_callV F e_X7_advance_66 (s_X7_tokenAtE (x_l X) V b M Z T _ _ a m1 tp td n bk m1 m1 tk vl py sd ln ft pl t h4589.1 hk (by omega) ⟨(g4591 0 (by decide)).trans rd4575, (g4591 1 (by decide)).trans rd4576, (g4591 2 (by decide)).trans rd4577, (g4591 3 (by decide)).trans rd4578, (g4591 4 (by decide)).trans rd4579, f4592, (g4591 6 (by decide)).trans rd4581, (g4591 7 (by decide)).trans rd4582, (g4591 8 (by decide)).trans rd4583, (g4591 9 (by decide)).trans rd4584, (g4591 10 (by decide)).trans rd4585, (g4591 11 (by decide)).trans rd4586, (g4591 12 (by decide)).trans rd4587⟩ (hB.keep (h4589.2 tp (by rw [show kA _ tp = 2 from htp]; decide))) hn7 hsd htp htd hbk (by omega)) cb_X7_tokenAt ml_X7_207 im_X7_tokenAt se_X7_tokenAt (fun _ => o3) h4589 hk rfl rfl (rest := [.ref a]) rfl (Nat.le_of_ble_eq_true rfl) ⟨Nat.le_of_ble_eq_true rfl, Nat.le_of_ble_eq_true rfl⟩ ⟨Nat.le_of_ble_eq_true rfl, Nat.le_of_ble_eq_true rfl⟩ (fun r σ4593 hp => ?_)
      obtain ⟨h4594, ⟨rd4596, rd4597, rd4598, rd4599, rd4600, rd4601, rd4602, rd4603, rd4604, rd4605, rd4606, rd4607, rd4608⟩, rfl⟩ := hp
      have h4595 := HK.trans h4589 h4594 (by decide)
      by_cases gk0 : n ≤ m1
      · rw [if_pos gk0]
        refine t_put F e_X7_advance_69 fp_X7_61 (fun _ => o3) h4595 hk rfl ⟨_, rfl⟩ rfl rfl (by decide) (fun σ4609 h4610 g4611 g4612 f4613 => ?_)
        refine m_aload_n F rfl e_X7_advance_72 ?_
        refine t_getC F e_X7_advance_73 fl_X7_61 (fun _ => o3) h4610 hk (f4613) ?_
        refine m_iconst F (v := 1) (by decide) e_X7_advance_76 ?_
        refine m_icmp_ne F e_X7_advance_77 (fun _ => ?_) (fun q => absurd q (by decide))
        refine m_aload_n F rfl e_X7_advance_87 ?_
        refine t_getC F e_X7_advance_88 fl_X7_61 (fun _ => o3) h4610 hk (f4613) ?_
        refine m_iconst F (v := 2) (by decide) e_X7_advance_91 ?_
        refine m_icmp_ne F e_X7_advance_92 (fun _ => ?_) (fun q => absurd q (by decide))
        refine m_aload_n F rfl e_X7_advance_102 ?_
        refine t_getC F e_X7_advance_103 fl_X7_61 (fun _ => o3) h4610 hk (f4613) ?_
        refine m_if_eq F e_X7_advance_106 (fun _ => ?_) (fun q => absurd (by decide) q)
        have e9 : sc isB t n nx = m1 := hi.2.trans (sc_stop (by first | exact Or.inl (by omega) | exact Or.inr (by unfold isB; simp; omega)))
        have et : tok t n nx = (m1, 0, 0, m1) := by unfold tok; simp only [e9]; rw [if_pos gk0]
        exact m_vret F hQ e_X7_advance_119 (⟨h4610, ⟨0, vl, by rw [et]; exact Or.inl ⟨rfl, rfl⟩, by rw [et]; exact ⟨(g4612 0 (by decide)).trans rd4596, (g4612 1 (by decide)).trans rd4597, (g4612 2 (by decide)).trans rd4598, (g4612 3 (by decide)).trans rd4599, (g4612 4 (by decide)).trans rd4600, (g4612 5 (by decide)).trans rd4601, f4613, (g4612 7 (by decide)).trans rd4603, (g4612 8 (by decide)).trans rd4604, (g4612 9 (by decide)).trans rd4605, (g4612 10 (by decide)).trans rd4606, (g4612 11 (by decide)).trans rd4607, (g4612 12 (by decide)).trans rd4608⟩⟩, rfl⟩)
      by_cases gk1 : isL (t m1) = true
      · rw [if_neg gk0, if_pos gk1]
        refine t_put F e_X7_advance_69 fp_X7_61 (fun _ => o3) h4595 hk rfl ⟨_, rfl⟩ rfl rfl (by decide) (fun σ4614 h4615 g4616 g4617 f4618 => ?_)
        refine m_aload_n F rfl e_X7_advance_72 ?_
        refine t_getC F e_X7_advance_73 fl_X7_61 (fun _ => o3) h4615 hk (f4618) ?_
        refine m_iconst F (v := 1) (by decide) e_X7_advance_76 ?_
        refine m_icmp_ne F e_X7_advance_77 (fun q => absurd (by decide) q) (fun _ => ?_)
        refine m_aload_n F rfl e_X7_advance_80 ?_
        refine t_callV F e_X7_advance_81 (s_X7_advanceWordE (x_l X) V b M Z T _ _ a  tp td n bk m1 m1 1 vl py sd ln ft pl t h4615.1 hk rfl (by omega) ⟨(g4617 0 (by decide)).trans rd4596, (g4617 1 (by decide)).trans rd4597, (g4617 2 (by decide)).trans rd4598, (g4617 3 (by decide)).trans rd4599, (g4617 4 (by decide)).trans rd4600, (g4617 5 (by decide)).trans rd4601, f4618, (g4617 7 (by decide)).trans rd4603, (g4617 8 (by decide)).trans rd4604, (g4617 9 (by decide)).trans rd4605, (g4617 10 (by decide)).trans rd4606, (g4617 11 (by decide)).trans rd4607, (g4617 12 (by decide)).trans rd4608⟩ (hB.keep (h4615.2 tp (by rw [show kA _ tp = 2 from htp]; decide))) hn7 hsd htp htd hbk (by omega)) cb_X7_advanceWord ml_X7_210 im_X7_advanceWord se_X7_advanceWord (fun _ => o3) h4615 hk rfl rfl (rest := []) rfl (Nat.le_of_ble_eq_true rfl) ⟨Nat.le_of_ble_eq_true rfl, Nat.le_of_ble_eq_true rfl⟩ ⟨Nat.le_of_ble_eq_true rfl, Nat.le_of_ble_eq_true rfl⟩ (fun r σ4619 hp => ?_)
        obtain ⟨h4620, ⟨rd4622, rd4623, rd4624, rd4625, rd4626, rd4627, rd4628, rd4629, rd4630, rd4631, rd4632, rd4633, rd4634⟩, rfl⟩ := hp
        have h4621 := HK.trans h4615 h4620 (by decide)
        refine m_goto F e_X7_advance_84 ?_
        have e9 : sc isB t n nx = m1 := hi.2.trans (sc_stop (by first | exact Or.inl (by omega) | exact Or.inr (by unfold isB; simp; omega)))
        by_cases g6 : sc isL t n m1 - m1 ≤ 6
        · by_cases gx : kix (nmc t m1 (sc isL t n m1) 6) < 9
          · have et : tok t n nx = (m1, 1, kix (nmc t m1 (sc isL t n m1) 6), sc isL t n m1) := by unfold tok; simp only [e9]; rw [if_neg gk0, if_pos gk1, if_pos g6, if_pos gx]
            exact m_vret F hQ e_X7_advance_119 (⟨h4621, ⟨1, nI (nmc t m1 (sc isL t n m1) 6), by rw [et]; exact Or.inr (Or.inl ⟨rfl, rfl, _, rfl, nmc_small, rfl, gx⟩), by rw [et]; rw [if_pos g6] at rd4629; exact ⟨rd4622, rd4623, rd4624, rd4625, rd4626, rd4627, rd4628, rd4629, rd4630, rd4631, rd4632, rd4633, rd4634⟩⟩, rfl⟩)
          · have et : tok t n nx = (m1, 2, nmc t m1 (sc isL t n m1) 6, sc isL t n m1) := by unfold tok; simp only [e9]; rw [if_neg gk0, if_pos gk1, if_pos g6, if_neg gx]
            exact m_vret F hQ e_X7_advance_119 (⟨h4621, ⟨1, nI (nmc t m1 (sc isL t n m1) 6), by rw [et]; exact Or.inr (Or.inr (Or.inl ⟨rfl, rfl, rfl, nmc_small, gx⟩)), by rw [et]; rw [if_pos g6] at rd4629; exact ⟨rd4622, rd4623, rd4624, rd4625, rd4626, rd4627, rd4628, rd4629, rd4630, rd4631, rd4632, rd4633, rd4634⟩⟩, rfl⟩)
        have et : tok t n nx = (m1, 5, 0, sc isL t n m1) := by unfold tok; simp only [e9]; rw [if_neg gk0, if_pos gk1, if_neg g6]
        rw [if_neg g6] at rd4629
        exact m_vret F hQ e_X7_advance_119 (⟨h4621, ⟨1, -1, by rw [et]; exact Or.inr (Or.inr (Or.inr (Or.inr (Or.inr ⟨rfl, Or.inl ⟨rfl, rfl⟩⟩)))), by rw [et]; exact ⟨rd4622, rd4623, rd4624, rd4625, rd4626, rd4627, rd4628, rd4629, rd4630, rd4631, rd4632, rd4633, rd4634⟩⟩, rfl⟩)
      by_cases gk2 : isD (t m1) = true
      · rw [if_neg gk0, if_neg gk1, if_pos gk2]
        refine t_put F e_X7_advance_69 fp_X7_61 (fun _ => o3) h4595 hk rfl ⟨_, rfl⟩ rfl rfl (by decide) (fun σ4635 h4636 g4637 g4638 f4639 => ?_)
        refine m_aload_n F rfl e_X7_advance_72 ?_
        refine t_getC F e_X7_advance_73 fl_X7_61 (fun _ => o3) h4636 hk (f4639) ?_
        refine m_iconst F (v := 1) (by decide) e_X7_advance_76 ?_
        refine m_icmp_ne F e_X7_advance_77 (fun _ => ?_) (fun q => absurd q (by decide))
        refine m_aload_n F rfl e_X7_advance_87 ?_
        refine t_getC F e_X7_advance_88 fl_X7_61 (fun _ => o3) h4636 hk (f4639) ?_
        refine m_iconst F (v := 2) (by decide) e_X7_advance_91 ?_
        refine m_icmp_ne F e_X7_advance_92 (fun q => absurd (by decide) q) (fun _ => ?_)
        refine m_aload_n F rfl e_X7_advance_95 ?_
        refine t_callV F e_X7_advance_96 (s_X7_advanceNumberE (x_l X) V b M Z T _ _ a  tp td n bk m1 m1 2 vl py sd ln ft pl t h4636.1 hk rfl (by omega) ⟨(g4638 0 (by decide)).trans rd4596, (g4638 1 (by decide)).trans rd4597, (g4638 2 (by decide)).trans rd4598, (g4638 3 (by decide)).trans rd4599, (g4638 4 (by decide)).trans rd4600, (g4638 5 (by decide)).trans rd4601, f4639, (g4638 7 (by decide)).trans rd4603, (g4638 8 (by decide)).trans rd4604, (g4638 9 (by decide)).trans rd4605, (g4638 10 (by decide)).trans rd4606, (g4638 11 (by decide)).trans rd4607, (g4638 12 (by decide)).trans rd4608⟩ (hB.keep (h4636.2 tp (by rw [show kA _ tp = 2 from htp]; decide))) hn7 hsd htp htd hbk (by omega)) cb_X7_advanceNumber ml_X7_213 im_X7_advanceNumber se_X7_advanceNumber (fun _ => o3) h4636 hk rfl rfl (rest := []) rfl (Nat.le_of_ble_eq_true rfl) ⟨Nat.le_of_ble_eq_true rfl, Nat.le_of_ble_eq_true rfl⟩ ⟨Nat.le_of_ble_eq_true rfl, Nat.le_of_ble_eq_true rfl⟩ (fun r σ4640 hp => ?_)
        obtain ⟨h4641, ⟨v9, hv9, ev9, rd4643, rd4644, rd4645, rd4646, rd4647, rd4648, rd4649, rd4650, rd4651, rd4652, rd4653, rd4654, rd4655⟩, rfl⟩ := hp
        have h4642 := HK.trans h4636 h4641 (by decide)
        refine m_goto F e_X7_advance_99 ?_
        have e9 : sc isB t n nx = m1 := hi.2.trans (sc_stop (by first | exact Or.inl (by omega) | exact Or.inr (by unfold isB; simp; omega)))
        have et : tok t n nx = (m1, 3, nuc t m1 (sc isD t n m1 - m1), sc isD t n m1) := by unfold tok; simp only [e9]; rw [if_neg gk0, if_neg gk1, if_pos gk2]
        exact m_vret F hQ e_X7_advance_119 (⟨h4642, ⟨2, nI v9, by rw [et]; exact Or.inr (Or.inr (Or.inr (Or.inl ⟨rfl, rfl, v9, hv9, rfl, ev9⟩))), by rw [et]; exact ⟨rd4643, rd4644, rd4645, rd4646, rd4647, rd4648, rd4649, rd4650, rd4651, rd4652, rd4653, rd4654, rd4655⟩⟩, rfl⟩)
      by_cases gk3 : t m1 = 59
      · rw [if_neg gk0, if_neg gk1, if_neg gk2, if_pos gk3]
        refine t_put F e_X7_advance_69 fp_X7_61 (fun _ => o3) h4595 hk rfl ⟨_, rfl⟩ rfl rfl (by decide) (fun σ4656 h4657 g4658 g4659 f4660 => ?_)
        refine m_aload_n F rfl e_X7_advance_72 ?_
        refine t_getC F e_X7_advance_73 fl_X7_61 (fun _ => o3) h4657 hk (f4660) ?_
        refine m_iconst F (v := 1) (by decide) e_X7_advance_76 ?_
        refine m_icmp_ne F e_X7_advance_77 (fun _ => ?_) (fun q => absurd q (by decide))
        refine m_aload_n F rfl e_X7_advance_87 ?_
        refine t_getC F e_X7_advance_88 fl_X7_61 (fun _ => o3) h4657 hk (f4660) ?_
        refine m_iconst F (v := 2) (by decide) e_X7_advance_91 ?_
        refine m_icmp_ne F e_X7_advance_92 (fun _ => ?_) (fun q => absurd q (by decide))
        refine m_aload_n F rfl e_X7_advance_102 ?_
        refine t_getC F e_X7_advance_103 fl_X7_61 (fun _ => o3) h4657 hk (f4660) ?_
        refine m_if_eq F e_X7_advance_106 (fun q => absurd q (by decide)) (fun _ => ?_)
        refine m_aload_n F rfl e_X7_advance_109 ?_
        refine m_dup F rfl e_X7_advance_110 ?_
        refine t_getC F e_X7_advance_111 fl_X7_42 (fun _ => o3) h4657 hk ((g4659 4 (by decide)).trans rd4600) ?_
        refine m_iconst F (v := 1) (by decide) e_X7_advance_114 ?_
        refine m_iadd F e_X7_advance_115 ?_
        refine Wm.topE (w := nI (m1 + 1)) (nI_add m1 1) ?_
        refine t_put F e_X7_advance_116 fp_X7_42 (fun _ => o3) h4657 hk rfl ⟨m1 + 1, (show m1 + 1 ≤ 700 by omega), rfl⟩ rfl rfl (by decide) (fun σ4661 h4662 g4663 g4664 f4665 => ?_)
        have e9 : sc isB t n nx = m1 := hi.2.trans (sc_stop (by first | exact Or.inl (by omega) | exact Or.inr (by unfold isB; simp; omega)))
        have et : tok t n nx = (m1, 4, 0, m1 + 1) := by unfold tok; simp only [e9]; rw [if_neg gk0, if_neg gk1, if_neg gk2, if_pos gk3]
        exact m_vret F hQ e_X7_advance_119 (⟨h4662, ⟨3, vl, by rw [et]; exact Or.inr (Or.inr (Or.inr (Or.inr (Or.inl ⟨rfl, rfl⟩)))), by rw [et]; exact ⟨(g4664 0 (by decide)).trans ((g4659 0 (by decide)).trans rd4596), (g4664 1 (by decide)).trans ((g4659 1 (by decide)).trans rd4597), (g4664 2 (by decide)).trans ((g4659 2 (by decide)).trans rd4598), (g4664 3 (by decide)).trans ((g4659 3 (by decide)).trans rd4599), f4665, (g4664 5 (by decide)).trans ((g4659 5 (by decide)).trans rd4601), (g4664 6 (by decide)).trans f4660, (g4664 7 (by decide)).trans ((g4659 7 (by decide)).trans rd4603), (g4664 8 (by decide)).trans ((g4659 8 (by decide)).trans rd4604), (g4664 9 (by decide)).trans ((g4659 9 (by decide)).trans rd4605), (g4664 10 (by decide)).trans ((g4659 10 (by decide)).trans rd4606), (g4664 11 (by decide)).trans ((g4659 11 (by decide)).trans rd4607), (g4664 12 (by decide)).trans ((g4659 12 (by decide)).trans rd4608)⟩⟩, rfl⟩)
      rw [if_neg gk0, if_neg gk1, if_neg gk2, if_neg gk3]
      refine t_put F e_X7_advance_69 fp_X7_61 (fun _ => o3) h4595 hk rfl ⟨_, rfl⟩ rfl rfl (by decide) (fun σ4666 h4667 g4668 g4669 f4670 => ?_)
      refine m_aload_n F rfl e_X7_advance_72 ?_
      refine t_getC F e_X7_advance_73 fl_X7_61 (fun _ => o3) h4667 hk (f4670) ?_
      refine m_iconst F (v := 1) (by decide) e_X7_advance_76 ?_
      refine m_icmp_ne F e_X7_advance_77 (fun _ => ?_) (fun q => absurd q (by decide))
      refine m_aload_n F rfl e_X7_advance_87 ?_
      refine t_getC F e_X7_advance_88 fl_X7_61 (fun _ => o3) h4667 hk (f4670) ?_
      refine m_iconst F (v := 2) (by decide) e_X7_advance_91 ?_
      refine m_icmp_ne F e_X7_advance_92 (fun _ => ?_) (fun q => absurd q (by decide))
      refine m_aload_n F rfl e_X7_advance_102 ?_
      refine t_getC F e_X7_advance_103 fl_X7_61 (fun _ => o3) h4667 hk (f4670) ?_
      refine m_if_eq F e_X7_advance_106 (fun q => absurd q (by decide)) (fun _ => ?_)
      refine m_aload_n F rfl e_X7_advance_109 ?_
      refine m_dup F rfl e_X7_advance_110 ?_
      refine t_getC F e_X7_advance_111 fl_X7_42 (fun _ => o3) h4667 hk ((g4669 4 (by decide)).trans rd4600) ?_
      refine m_iconst F (v := 1) (by decide) e_X7_advance_114 ?_
      refine m_iadd F e_X7_advance_115 ?_
      refine Wm.topE (w := nI (m1 + 1)) (nI_add m1 1) ?_
      refine t_put F e_X7_advance_116 fp_X7_42 (fun _ => o3) h4667 hk rfl ⟨m1 + 1, (show m1 + 1 ≤ 700 by omega), rfl⟩ rfl rfl (by decide) (fun σ4671 h4672 g4673 g4674 f4675 => ?_)
      have e9 : sc isB t n nx = m1 := hi.2.trans (sc_stop (by first | exact Or.inl (by omega) | exact Or.inr (by unfold isB; simp; omega)))
      have et : tok t n nx = (m1, 5, 0, m1 + 1) := by unfold tok; simp only [e9]; rw [if_neg gk0, if_neg gk1, if_neg gk2, if_neg gk3]
      exact m_vret F hQ e_X7_advance_119 (⟨h4672, ⟨4, vl, by rw [et]; exact Or.inr (Or.inr (Or.inr (Or.inr (Or.inr ⟨rfl, Or.inr rfl⟩)))), by rw [et]; exact ⟨(g4674 0 (by decide)).trans ((g4669 0 (by decide)).trans rd4596), (g4674 1 (by decide)).trans ((g4669 1 (by decide)).trans rd4597), (g4674 2 (by decide)).trans ((g4669 2 (by decide)).trans rd4598), (g4674 3 (by decide)).trans ((g4669 3 (by decide)).trans rd4599), f4675, (g4674 5 (by decide)).trans ((g4669 5 (by decide)).trans rd4601), (g4674 6 (by decide)).trans f4670, (g4674 7 (by decide)).trans ((g4669 7 (by decide)).trans rd4603), (g4674 8 (by decide)).trans ((g4669 8 (by decide)).trans rd4604), (g4674 9 (by decide)).trans ((g4669 9 (by decide)).trans rd4605), (g4674 10 (by decide)).trans ((g4669 10 (by decide)).trans rd4606), (g4674 11 (by decide)).trans ((g4669 11 (by decide)).trans rd4607), (g4674 12 (by decide)).trans ((g4669 12 (by decide)).trans rd4608)⟩⟩, rfl⟩)
    · have c8 : m1 < n := by have hh := mt (nI_leI (a := n) (b := m1) (by omega) (by omega)).mpr q8; omega
      refine m_aload_n F rfl e_X7_advance_11 ?_
      refine t_getC F e_X7_advance_12 fl_X7_19 (fun _ => o3) h1 hk (rd4575) ?_
      refine m_aload_n F rfl e_X7_advance_15 ?_
      refine t_getC F e_X7_advance_16 fl_X7_42 (fun _ => o3) h1 hk (rd4579) ?_
      refine t_baldX F (j := m1) (tp := tp) e_X7_advance_19 h1 htp (by decide) hB (nI_clamp (by omega)) (vp_in_nI (by omega) (by decide)) (by omega) (fun hb4676 => ?_)
      refine m_bipush F (v := 10) (by decide) e_X7_advance_20 ?_
      refine m_icmp_eq F e_X7_advance_22 (fun q22 => ?_) (fun q22 => ?_)
      · have c22 : t m1 = 10 := (sx_eq (c := t m1) (k := 10) (by omega) (by omega)).mp q22
        refine m_aload_n F rfl e_X7_advance_39 ?_
        refine m_dup F rfl e_X7_advance_40 ?_
        refine t_getC F e_X7_advance_41 fl_X7_42 (fun _ => o3) h1 hk (rd4579) ?_
        refine m_iconst F (v := 1) (by decide) e_X7_advance_44 ?_
        refine m_iadd F e_X7_advance_45 ?_
        refine Wm.topE (w := nI (m1 + 1)) (nI_add m1 1) ?_
        refine t_put F e_X7_advance_46 fp_X7_42 (fun _ => o3) h1 hk rfl ⟨m1 + 1, (show m1 + 1 ≤ 700 by omega), rfl⟩ rfl rfl (by decide) (fun σ4677 h4678 g4679 g4680 f4681 => ?_)
        refine m_goto F e_X7_advance_49 ?_
        exact ih (m1 + 1) _ h4678 ⟨⟨(g4680 0 (by decide)).trans rd4575, (g4680 1 (by decide)).trans rd4576, (g4680 2 (by decide)).trans rd4577, (g4680 3 (by decide)).trans rd4578, f4681, (g4680 5 (by decide)).trans rd4580, (g4680 6 (by decide)).trans rd4581, (g4680 7 (by decide)).trans rd4582, (g4680 8 (by decide)).trans rd4583, (g4680 9 (by decide)).trans rd4584, (g4680 10 (by decide)).trans rd4585, (g4680 11 (by decide)).trans rd4586, (g4680 12 (by decide)).trans rd4587⟩, ⟨by omega, by rw [hi.2]; exact sc_go (by omega) (by unfold isB; simp; omega)⟩⟩ (by omega)
      · have c22 : t m1 ≠ 10 := fun e => q22 ((sx_eq (c := t m1) (k := 10) (by omega) (by omega)).mpr e)
        refine m_aload_n F rfl e_X7_advance_25 ?_
        refine t_getC F e_X7_advance_26 fl_X7_19 (fun _ => o3) h1 hk (rd4575) ?_
        refine m_aload_n F rfl e_X7_advance_29 ?_
        refine t_getC F e_X7_advance_30 fl_X7_42 (fun _ => o3) h1 hk (rd4579) ?_
        refine t_baldX F (j := m1) (tp := tp) e_X7_advance_33 h1 htp (by decide) hB (nI_clamp (by omega)) (vp_in_nI (by omega) (by decide)) (by omega) (fun hb4682 => ?_)
        refine m_bipush F (v := 32) (by decide) e_X7_advance_34 ?_
        refine m_icmp_ne F e_X7_advance_36 (fun q36 => ?_) (fun q36 => ?_)
        · have c36 : t m1 ≠ 32 := fun e => q36 ((sx_eq (c := t m1) (k := 32) (by omega) (by omega)).mpr e)
          refine m_aload_n F rfl e_X7_advance_52 ?_
          refine m_aload_n F rfl e_X7_advance_53 ?_
          refine t_getC F e_X7_advance_54 fl_X7_42 (fun _ => o3) h1 hk (rd4579) ?_
          refine t_put F e_X7_advance_57 fp_X7_188 (fun _ => o3) h1 hk rfl ⟨_, rfl⟩ rfl rfl (by decide) (fun σ4683 h4684 g4685 g4686 f4687 => ?_)
          refine m_aload_n F rfl e_X7_advance_60 ?_
          refine m_aload_n F rfl e_X7_advance_61 ?_
          refine m_aload_n F rfl e_X7_advance_62 ?_
          refine t_getC F e_X7_advance_63 fl_X7_42 (fun _ => o3) h4684 hk ((g4686 4 (by decide)).trans rd4579) ?_
          refine t_callV F e_X7_advance_66 (s_X7_tokenAtE (x_l X) V b M Z T _ _ a m1 tp td n bk m1 m1 tk vl py sd ln ft pl t h4684.1 hk (by omega) ⟨(g4686 0 (by decide)).trans rd4575, (g4686 1 (by decide)).trans rd4576, (g4686 2 (by decide)).trans rd4577, (g4686 3 (by decide)).trans rd4578, (g4686 4 (by decide)).trans rd4579, f4687, (g4686 6 (by decide)).trans rd4581, (g4686 7 (by decide)).trans rd4582, (g4686 8 (by decide)).trans rd4583, (g4686 9 (by decide)).trans rd4584, (g4686 10 (by decide)).trans rd4585, (g4686 11 (by decide)).trans rd4586, (g4686 12 (by decide)).trans rd4587⟩ (hB.keep (h4684.2 tp (by rw [show kA _ tp = 2 from htp]; decide))) hn7 hsd htp htd hbk (by omega)) cb_X7_tokenAt ml_X7_207 im_X7_tokenAt se_X7_tokenAt (fun _ => o3) h4684 hk rfl rfl (rest := [.ref a]) rfl (Nat.le_of_ble_eq_true rfl) ⟨Nat.le_of_ble_eq_true rfl, Nat.le_of_ble_eq_true rfl⟩ ⟨Nat.le_of_ble_eq_true rfl, Nat.le_of_ble_eq_true rfl⟩ (fun r σ4688 hp => ?_)
          obtain ⟨h4689, ⟨rd4691, rd4692, rd4693, rd4694, rd4695, rd4696, rd4697, rd4698, rd4699, rd4700, rd4701, rd4702, rd4703⟩, rfl⟩ := hp
          have h4690 := HK.trans h4684 h4689 (by decide)
          by_cases gk0 : n ≤ m1
          · rw [if_pos gk0]
            refine t_put F e_X7_advance_69 fp_X7_61 (fun _ => o3) h4690 hk rfl ⟨_, rfl⟩ rfl rfl (by decide) (fun σ4704 h4705 g4706 g4707 f4708 => ?_)
            refine m_aload_n F rfl e_X7_advance_72 ?_
            refine t_getC F e_X7_advance_73 fl_X7_61 (fun _ => o3) h4705 hk (f4708) ?_
            refine m_iconst F (v := 1) (by decide) e_X7_advance_76 ?_
            refine m_icmp_ne F e_X7_advance_77 (fun _ => ?_) (fun q => absurd q (by decide))
            refine m_aload_n F rfl e_X7_advance_87 ?_
            refine t_getC F e_X7_advance_88 fl_X7_61 (fun _ => o3) h4705 hk (f4708) ?_
            refine m_iconst F (v := 2) (by decide) e_X7_advance_91 ?_
            refine m_icmp_ne F e_X7_advance_92 (fun _ => ?_) (fun q => absurd q (by decide))
            refine m_aload_n F rfl e_X7_advance_102 ?_
            refine t_getC F e_X7_advance_103 fl_X7_61 (fun _ => o3) h4705 hk (f4708) ?_
            refine m_if_eq F e_X7_advance_106 (fun _ => ?_) (fun q => absurd (by decide) q)
            have e9 : sc isB t n nx = m1 := hi.2.trans (sc_stop (by first | exact Or.inl (by omega) | exact Or.inr (by unfold isB; simp; omega)))
            have et : tok t n nx = (m1, 0, 0, m1) := by unfold tok; simp only [e9]; rw [if_pos gk0]
            exact m_vret F hQ e_X7_advance_119 (⟨h4705, ⟨0, vl, by rw [et]; exact Or.inl ⟨rfl, rfl⟩, by rw [et]; exact ⟨(g4707 0 (by decide)).trans rd4691, (g4707 1 (by decide)).trans rd4692, (g4707 2 (by decide)).trans rd4693, (g4707 3 (by decide)).trans rd4694, (g4707 4 (by decide)).trans rd4695, (g4707 5 (by decide)).trans rd4696, f4708, (g4707 7 (by decide)).trans rd4698, (g4707 8 (by decide)).trans rd4699, (g4707 9 (by decide)).trans rd4700, (g4707 10 (by decide)).trans rd4701, (g4707 11 (by decide)).trans rd4702, (g4707 12 (by decide)).trans rd4703⟩⟩, rfl⟩)
          by_cases gk1 : isL (t m1) = true
          · rw [if_neg gk0, if_pos gk1]
            refine t_put F e_X7_advance_69 fp_X7_61 (fun _ => o3) h4690 hk rfl ⟨_, rfl⟩ rfl rfl (by decide) (fun σ4709 h4710 g4711 g4712 f4713 => ?_)
            refine m_aload_n F rfl e_X7_advance_72 ?_
            refine t_getC F e_X7_advance_73 fl_X7_61 (fun _ => o3) h4710 hk (f4713) ?_
            refine m_iconst F (v := 1) (by decide) e_X7_advance_76 ?_
            refine m_icmp_ne F e_X7_advance_77 (fun q => absurd (by decide) q) (fun _ => ?_)
            refine m_aload_n F rfl e_X7_advance_80 ?_
            refine t_callV F e_X7_advance_81 (s_X7_advanceWordE (x_l X) V b M Z T _ _ a  tp td n bk m1 m1 1 vl py sd ln ft pl t h4710.1 hk rfl (by omega) ⟨(g4712 0 (by decide)).trans rd4691, (g4712 1 (by decide)).trans rd4692, (g4712 2 (by decide)).trans rd4693, (g4712 3 (by decide)).trans rd4694, (g4712 4 (by decide)).trans rd4695, (g4712 5 (by decide)).trans rd4696, f4713, (g4712 7 (by decide)).trans rd4698, (g4712 8 (by decide)).trans rd4699, (g4712 9 (by decide)).trans rd4700, (g4712 10 (by decide)).trans rd4701, (g4712 11 (by decide)).trans rd4702, (g4712 12 (by decide)).trans rd4703⟩ (hB.keep (h4710.2 tp (by rw [show kA _ tp = 2 from htp]; decide))) hn7 hsd htp htd hbk (by omega)) cb_X7_advanceWord ml_X7_210 im_X7_advanceWord se_X7_advanceWord (fun _ => o3) h4710 hk rfl rfl (rest := []) rfl (Nat.le_of_ble_eq_true rfl) ⟨Nat.le_of_ble_eq_true rfl, Nat.le_of_ble_eq_true rfl⟩ ⟨Nat.le_of_ble_eq_true rfl, Nat.le_of_ble_eq_true rfl⟩ (fun r σ4714 hp => ?_)
            obtain ⟨h4715, ⟨rd4717, rd4718, rd4719, rd4720, rd4721, rd4722, rd4723, rd4724, rd4725, rd4726, rd4727, rd4728, rd4729⟩, rfl⟩ := hp
            have h4716 := HK.trans h4710 h4715 (by decide)
            refine m_goto F e_X7_advance_84 ?_
            have e9 : sc isB t n nx = m1 := hi.2.trans (sc_stop (by first | exact Or.inl (by omega) | exact Or.inr (by unfold isB; simp; omega)))
            by_cases g6 : sc isL t n m1 - m1 ≤ 6
            · by_cases gx : kix (nmc t m1 (sc isL t n m1) 6) < 9
              · have et : tok t n nx = (m1, 1, kix (nmc t m1 (sc isL t n m1) 6), sc isL t n m1) := by unfold tok; simp only [e9]; rw [if_neg gk0, if_pos gk1, if_pos g6, if_pos gx]
                exact m_vret F hQ e_X7_advance_119 (⟨h4716, ⟨1, nI (nmc t m1 (sc isL t n m1) 6), by rw [et]; exact Or.inr (Or.inl ⟨rfl, rfl, _, rfl, nmc_small, rfl, gx⟩), by rw [et]; rw [if_pos g6] at rd4724; exact ⟨rd4717, rd4718, rd4719, rd4720, rd4721, rd4722, rd4723, rd4724, rd4725, rd4726, rd4727, rd4728, rd4729⟩⟩, rfl⟩)
              · have et : tok t n nx = (m1, 2, nmc t m1 (sc isL t n m1) 6, sc isL t n m1) := by unfold tok; simp only [e9]; rw [if_neg gk0, if_pos gk1, if_pos g6, if_neg gx]
                exact m_vret F hQ e_X7_advance_119 (⟨h4716, ⟨1, nI (nmc t m1 (sc isL t n m1) 6), by rw [et]; exact Or.inr (Or.inr (Or.inl ⟨rfl, rfl, rfl, nmc_small, gx⟩)), by rw [et]; rw [if_pos g6] at rd4724; exact ⟨rd4717, rd4718, rd4719, rd4720, rd4721, rd4722, rd4723, rd4724, rd4725, rd4726, rd4727, rd4728, rd4729⟩⟩, rfl⟩)
            have et : tok t n nx = (m1, 5, 0, sc isL t n m1) := by unfold tok; simp only [e9]; rw [if_neg gk0, if_pos gk1, if_neg g6]
            rw [if_neg g6] at rd4724
            exact m_vret F hQ e_X7_advance_119 (⟨h4716, ⟨1, -1, by rw [et]; exact Or.inr (Or.inr (Or.inr (Or.inr (Or.inr ⟨rfl, Or.inl ⟨rfl, rfl⟩⟩)))), by rw [et]; exact ⟨rd4717, rd4718, rd4719, rd4720, rd4721, rd4722, rd4723, rd4724, rd4725, rd4726, rd4727, rd4728, rd4729⟩⟩, rfl⟩)
          by_cases gk2 : isD (t m1) = true
          · rw [if_neg gk0, if_neg gk1, if_pos gk2]
            refine t_put F e_X7_advance_69 fp_X7_61 (fun _ => o3) h4690 hk rfl ⟨_, rfl⟩ rfl rfl (by decide) (fun σ4730 h4731 g4732 g4733 f4734 => ?_)
            refine m_aload_n F rfl e_X7_advance_72 ?_
            refine t_getC F e_X7_advance_73 fl_X7_61 (fun _ => o3) h4731 hk (f4734) ?_
            refine m_iconst F (v := 1) (by decide) e_X7_advance_76 ?_
            refine m_icmp_ne F e_X7_advance_77 (fun _ => ?_) (fun q => absurd q (by decide))
            refine m_aload_n F rfl e_X7_advance_87 ?_
            refine t_getC F e_X7_advance_88 fl_X7_61 (fun _ => o3) h4731 hk (f4734) ?_
            refine m_iconst F (v := 2) (by decide) e_X7_advance_91 ?_
            refine m_icmp_ne F e_X7_advance_92 (fun q => absurd (by decide) q) (fun _ => ?_)
            refine m_aload_n F rfl e_X7_advance_95 ?_
            refine t_callV F e_X7_advance_96 (s_X7_advanceNumberE (x_l X) V b M Z T _ _ a  tp td n bk m1 m1 2 vl py sd ln ft pl t h4731.1 hk rfl (by omega) ⟨(g4733 0 (by decide)).trans rd4691, (g4733 1 (by decide)).trans rd4692, (g4733 2 (by decide)).trans rd4693, (g4733 3 (by decide)).trans rd4694, (g4733 4 (by decide)).trans rd4695, (g4733 5 (by decide)).trans rd4696, f4734, (g4733 7 (by decide)).trans rd4698, (g4733 8 (by decide)).trans rd4699, (g4733 9 (by decide)).trans rd4700, (g4733 10 (by decide)).trans rd4701, (g4733 11 (by decide)).trans rd4702, (g4733 12 (by decide)).trans rd4703⟩ (hB.keep (h4731.2 tp (by rw [show kA _ tp = 2 from htp]; decide))) hn7 hsd htp htd hbk (by omega)) cb_X7_advanceNumber ml_X7_213 im_X7_advanceNumber se_X7_advanceNumber (fun _ => o3) h4731 hk rfl rfl (rest := []) rfl (Nat.le_of_ble_eq_true rfl) ⟨Nat.le_of_ble_eq_true rfl, Nat.le_of_ble_eq_true rfl⟩ ⟨Nat.le_of_ble_eq_true rfl, Nat.le_of_ble_eq_true rfl⟩ (fun r σ4735 hp => ?_)
            obtain ⟨h4736, ⟨v9, hv9, ev9, rd4738, rd4739, rd4740, rd4741, rd4742, rd4743, rd4744, rd4745, rd4746, rd4747, rd4748, rd4749, rd4750⟩, rfl⟩ := hp
            have h4737 := HK.trans h4731 h4736 (by decide)
            refine m_goto F e_X7_advance_99 ?_
            have e9 : sc isB t n nx = m1 := hi.2.trans (sc_stop (by first | exact Or.inl (by omega) | exact Or.inr (by unfold isB; simp; omega)))
            have et : tok t n nx = (m1, 3, nuc t m1 (sc isD t n m1 - m1), sc isD t n m1) := by unfold tok; simp only [e9]; rw [if_neg gk0, if_neg gk1, if_pos gk2]
            exact m_vret F hQ e_X7_advance_119 (⟨h4737, ⟨2, nI v9, by rw [et]; exact Or.inr (Or.inr (Or.inr (Or.inl ⟨rfl, rfl, v9, hv9, rfl, ev9⟩))), by rw [et]; exact ⟨rd4738, rd4739, rd4740, rd4741, rd4742, rd4743, rd4744, rd4745, rd4746, rd4747, rd4748, rd4749, rd4750⟩⟩, rfl⟩)
          by_cases gk3 : t m1 = 59
          · rw [if_neg gk0, if_neg gk1, if_neg gk2, if_pos gk3]
            refine t_put F e_X7_advance_69 fp_X7_61 (fun _ => o3) h4690 hk rfl ⟨_, rfl⟩ rfl rfl (by decide) (fun σ4751 h4752 g4753 g4754 f4755 => ?_)
            refine m_aload_n F rfl e_X7_advance_72 ?_
            refine t_getC F e_X7_advance_73 fl_X7_61 (fun _ => o3) h4752 hk (f4755) ?_
            refine m_iconst F (v := 1) (by decide) e_X7_advance_76 ?_
            refine m_icmp_ne F e_X7_advance_77 (fun _ => ?_) (fun q => absurd q (by decide))
            refine m_aload_n F rfl e_X7_advance_87 ?_
            refine t_getC F e_X7_advance_88 fl_X7_61 (fun _ => o3) h4752 hk (f4755) ?_
            refine m_iconst F (v := 2) (by decide) e_X7_advance_91 ?_
            refine m_icmp_ne F e_X7_advance_92 (fun _ => ?_) (fun q => absurd q (by decide))
            refine m_aload_n F rfl e_X7_advance_102 ?_
            refine t_getC F e_X7_advance_103 fl_X7_61 (fun _ => o3) h4752 hk (f4755) ?_
            refine m_if_eq F e_X7_advance_106 (fun q => absurd q (by decide)) (fun _ => ?_)
            refine m_aload_n F rfl e_X7_advance_109 ?_
            refine m_dup F rfl e_X7_advance_110 ?_
            refine t_getC F e_X7_advance_111 fl_X7_42 (fun _ => o3) h4752 hk ((g4754 4 (by decide)).trans rd4695) ?_
            refine m_iconst F (v := 1) (by decide) e_X7_advance_114 ?_
            refine m_iadd F e_X7_advance_115 ?_
            refine Wm.topE (w := nI (m1 + 1)) (nI_add m1 1) ?_
            refine t_put F e_X7_advance_116 fp_X7_42 (fun _ => o3) h4752 hk rfl ⟨m1 + 1, (show m1 + 1 ≤ 700 by omega), rfl⟩ rfl rfl (by decide) (fun σ4756 h4757 g4758 g4759 f4760 => ?_)
            have e9 : sc isB t n nx = m1 := hi.2.trans (sc_stop (by first | exact Or.inl (by omega) | exact Or.inr (by unfold isB; simp; omega)))
            have et : tok t n nx = (m1, 4, 0, m1 + 1) := by unfold tok; simp only [e9]; rw [if_neg gk0, if_neg gk1, if_neg gk2, if_pos gk3]
            exact m_vret F hQ e_X7_advance_119 (⟨h4757, ⟨3, vl, by rw [et]; exact Or.inr (Or.inr (Or.inr (Or.inr (Or.inl ⟨rfl, rfl⟩)))), by rw [et]; exact ⟨(g4759 0 (by decide)).trans ((g4754 0 (by decide)).trans rd4691), (g4759 1 (by decide)).trans ((g4754 1 (by decide)).trans rd4692), (g4759 2 (by decide)).trans ((g4754 2 (by decide)).trans rd4693), (g4759 3 (by decide)).trans ((g4754 3 (by decide)).trans rd4694), f4760, (g4759 5 (by decide)).trans ((g4754 5 (by decide)).trans rd4696), (g4759 6 (by decide)).trans f4755, (g4759 7 (by decide)).trans ((g4754 7 (by decide)).trans rd4698), (g4759 8 (by decide)).trans ((g4754 8 (by decide)).trans rd4699), (g4759 9 (by decide)).trans ((g4754 9 (by decide)).trans rd4700), (g4759 10 (by decide)).trans ((g4754 10 (by decide)).trans rd4701), (g4759 11 (by decide)).trans ((g4754 11 (by decide)).trans rd4702), (g4759 12 (by decide)).trans ((g4754 12 (by decide)).trans rd4703)⟩⟩, rfl⟩)
          rw [if_neg gk0, if_neg gk1, if_neg gk2, if_neg gk3]
          refine t_put F e_X7_advance_69 fp_X7_61 (fun _ => o3) h4690 hk rfl ⟨_, rfl⟩ rfl rfl (by decide) (fun σ4761 h4762 g4763 g4764 f4765 => ?_)
          refine m_aload_n F rfl e_X7_advance_72 ?_
          refine t_getC F e_X7_advance_73 fl_X7_61 (fun _ => o3) h4762 hk (f4765) ?_
          refine m_iconst F (v := 1) (by decide) e_X7_advance_76 ?_
          refine m_icmp_ne F e_X7_advance_77 (fun _ => ?_) (fun q => absurd q (by decide))
          refine m_aload_n F rfl e_X7_advance_87 ?_
          refine t_getC F e_X7_advance_88 fl_X7_61 (fun _ => o3) h4762 hk (f4765) ?_
          refine m_iconst F (v := 2) (by decide) e_X7_advance_91 ?_
          refine m_icmp_ne F e_X7_advance_92 (fun _ => ?_) (fun q => absurd q (by decide))
          refine m_aload_n F rfl e_X7_advance_102 ?_
          refine t_getC F e_X7_advance_103 fl_X7_61 (fun _ => o3) h4762 hk (f4765) ?_
          refine m_if_eq F e_X7_advance_106 (fun q => absurd q (by decide)) (fun _ => ?_)
          refine m_aload_n F rfl e_X7_advance_109 ?_
          refine m_dup F rfl e_X7_advance_110 ?_
          refine t_getC F e_X7_advance_111 fl_X7_42 (fun _ => o3) h4762 hk ((g4764 4 (by decide)).trans rd4695) ?_
          refine m_iconst F (v := 1) (by decide) e_X7_advance_114 ?_
          refine m_iadd F e_X7_advance_115 ?_
          refine Wm.topE (w := nI (m1 + 1)) (nI_add m1 1) ?_
          refine t_put F e_X7_advance_116 fp_X7_42 (fun _ => o3) h4762 hk rfl ⟨m1 + 1, (show m1 + 1 ≤ 700 by omega), rfl⟩ rfl rfl (by decide) (fun σ4766 h4767 g4768 g4769 f4770 => ?_)
          have e9 : sc isB t n nx = m1 := hi.2.trans (sc_stop (by first | exact Or.inl (by omega) | exact Or.inr (by unfold isB; simp; omega)))
          have et : tok t n nx = (m1, 5, 0, m1 + 1) := by unfold tok; simp only [e9]; rw [if_neg gk0, if_neg gk1, if_neg gk2, if_neg gk3]
          exact m_vret F hQ e_X7_advance_119 (⟨h4767, ⟨4, vl, by rw [et]; exact Or.inr (Or.inr (Or.inr (Or.inr (Or.inr ⟨rfl, Or.inr rfl⟩)))), by rw [et]; exact ⟨(g4769 0 (by decide)).trans ((g4764 0 (by decide)).trans rd4691), (g4769 1 (by decide)).trans ((g4764 1 (by decide)).trans rd4692), (g4769 2 (by decide)).trans ((g4764 2 (by decide)).trans rd4693), (g4769 3 (by decide)).trans ((g4764 3 (by decide)).trans rd4694), f4770, (g4769 5 (by decide)).trans ((g4764 5 (by decide)).trans rd4696), (g4769 6 (by decide)).trans f4765, (g4769 7 (by decide)).trans ((g4764 7 (by decide)).trans rd4698), (g4769 8 (by decide)).trans ((g4764 8 (by decide)).trans rd4699), (g4769 9 (by decide)).trans ((g4764 9 (by decide)).trans rd4700), (g4769 10 (by decide)).trans ((g4764 10 (by decide)).trans rd4701), (g4769 11 (by decide)).trans ((g4764 11 (by decide)).trans rd4702), (g4769 12 (by decide)).trans ((g4764 12 (by decide)).trans rd4703)⟩⟩, rfl⟩)
        · have c36 : t m1 = 32 := (sx_eq (c := t m1) (k := 32) (by omega) (by omega)).mp q36
          refine m_aload_n F rfl e_X7_advance_39 ?_
          refine m_dup F rfl e_X7_advance_40 ?_
          refine t_getC F e_X7_advance_41 fl_X7_42 (fun _ => o3) h1 hk (rd4579) ?_
          refine m_iconst F (v := 1) (by decide) e_X7_advance_44 ?_
          refine m_iadd F e_X7_advance_45 ?_
          refine Wm.topE (w := nI (m1 + 1)) (nI_add m1 1) ?_
          refine t_put F e_X7_advance_46 fp_X7_42 (fun _ => o3) h1 hk rfl ⟨m1 + 1, (show m1 + 1 ≤ 700 by omega), rfl⟩ rfl rfl (by decide) (fun σ4771 h4772 g4773 g4774 f4775 => ?_)
          refine m_goto F e_X7_advance_49 ?_
          exact ih (m1 + 1) _ h4772 ⟨⟨(g4774 0 (by decide)).trans rd4575, (g4774 1 (by decide)).trans rd4576, (g4774 2 (by decide)).trans rd4577, (g4774 3 (by decide)).trans rd4578, f4775, (g4774 5 (by decide)).trans rd4580, (g4774 6 (by decide)).trans rd4581, (g4774 7 (by decide)).trans rd4582, (g4774 8 (by decide)).trans rd4583, (g4774 9 (by decide)).trans rd4584, (g4774 10 (by decide)).trans rd4585, (g4774 11 (by decide)).trans rd4586, (g4774 12 (by decide)).trans rd4587⟩, ⟨by omega, by rw [hi.2]; exact sc_go (by omega) (by unfold isB; simp; omega)⟩⟩ (by omega)
set_option maxRecDepth 20000 in
theorem s_X7_advanceE (l : Launch) (V : VX) (b M Z T N : Nat) (σ : Mem) (a : Nat) (tp : Nat) (td : Nat) (n : Nat) (bk : Nat) (nx : Nat) (st : Nat) (tk : Int32) (vl : Int32) (py : Nat) (sd : Nat) (ln : Nat) (ft : Int32) (pl : Int32) (t : Nat → Nat) (h0 : HT V (b, M, Z, T) σ) (hk : kA b a = 3) (hp0 : nx ≤ 700) (hR : RD σ a tp td n bk nx st tk vl py sd ln ft pl) (hB : BY V σ tp n t) (hn7 : n ≤ 700) (hsd : sd ≤ 1) (htp : kA b tp = 2) (htd : kA b td = 4) (hbk : kA b bk = 7) (hM : M + 0 ≤ 1000000000) : Ct l V yX7_advance cX7_advance 1 none 1 0 0 N σ [.ref a] (fun r τ => HK V (b, M, Z, T) [0, 1, 2, 4, 5, 6, 7, 8, 9, 10, 11, 12, 13, 14, 15, 16, 17, 18, 19] σ τ ∧ (∃ tk2 vl2, CT tk2 vl2 (tok t n nx).2.1 (tok t n nx).2.2.1 ∧ RD τ a tp td n bk (tok t n nx).2.2.2 (tok t n nx).1 tk2 vl2 py sd ln ft pl) ∧ r = none) := by
  refine Ct.of (by decide) (Nat.le_of_ble_eq_true rfl) [(0, .ref a)] rfl (fun X hX F hQ => ?_)
  have h1 : HK V (b, M, Z, T) [0, 1, 2, 4, 5, 6, 7, 8, 9, 10, 11, 12, 13, 14, 15, 16, 17, 18, 19] σ σ := HK.start h0
  have hrd4776 := hR
  obtain ⟨rd4776, rd4777, rd4778, rd4779, rd4780, rd4781, rd4782, rd4783, rd4784, rd4785, rd4786, rd4787, rd4788⟩ := hrd4776
  exact lp_X7_advanceE_0 F hQ hk hp0 hR hB hn7 hsd htp htd hbk hM (700 - nx + 1) nx _ h1 ⟨⟨rd4776, rd4777, rd4778, rd4779, rd4780, rd4781, rd4782, rd4783, rd4784, rd4785, rd4786, rd4787, rd4788⟩, ⟨by omega, rfl⟩⟩ (Nat.lt_succ_self _)
