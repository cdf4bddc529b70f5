/-! the text, as both readers must tell it -/
def isB (c : Nat) : Bool := c == 10 || c == 32
def isL (c : Nat) : Bool := decide (97 ≤ c) && decide (c ≤ 122)
def isD (c : Nat) : Bool := decide (48 ≤ c) && decide (c ≤ 57)
def scan (p : Nat → Bool) (t : Nat → Nat) : Nat → Nat → Nat
  | 0, a => a
  | f + 1, a => if p (t a) then scan p t f (a + 1) else a
def sc (p : Nat → Bool) (t : Nat → Nat) (n a : Nat) : Nat := scan p t (n - a) a
theorem sc_go {p : Nat → Bool} {t : Nat → Nat} {n a : Nat} (h : a < n) (h2 : p (t a) = true) : sc p t n a = sc p t n (a + 1) := by
  unfold sc
  rw [show n - a = (n - (a + 1)) + 1 by omega]
  show (if p (t a) then _ else _) = _
  rw [if_pos h2]
theorem sc_stop {p : Nat → Bool} {t : Nat → Nat} {n a : Nat} (h : n ≤ a ∨ p (t a) = false) : sc p t n a = a := by
  unfold sc
  by_cases h1 : n ≤ a
  · rw [show n - a = 0 by omega]; rfl
  · rw [show n - a = (n - (a + 1)) + 1 by omega]
    show (if p (t a) then _ else _) = _
    rcases h with h | h
    · exact absurd h h1
    · rw [h]; rfl
theorem sc_le {p : Nat → Bool} {t : Nat → Nat} : ∀ (f a : Nat), a ≤ scan p t f a ∧ scan p t f a ≤ a + f
  | 0, a => ⟨Nat.le_refl _, Nat.le_refl _⟩
  | f + 1, a => by
    have h := sc_le (p := p) (t := t) f (a + 1)
    show a ≤ (if p (t a) then _ else _) ∧ (if p (t a) then _ else _) ≤ _
    split <;> omega
/-- letters by 32, six places -/
def nmc (t : Nat → Nat) (p e : Nat) : Nat → Nat
  | 0 => 0
  | j + 1 => nmc t p e j * 32 + (if p + j < e then t (p + j) - 96 else 0)
/-- a number, no further than past every bound -/
def nuc (t : Nat → Nat) (p : Nat) : Nat → Nat
  | 0 => 0
  | k + 1 => min (nuc t p k * 10 + (t (p + k) - 48)) 10000000
def kcN : List Nat := [407948448, 538738688, 169423648, 202688512, 206733312, 680693760, 316806912, 520758766, 642945024]
def kix (c : Nat) : Nat := kcN.findIdx (fun x => x == c)
/-- place, sort (0 END, 1 a word of the language, 2 a W, 3 a number, 4 ';', 5 none), value, what comes next -/
def tok (t : Nat → Nat) (n a : Nat) : Nat × Nat × Nat × Nat :=
  let p := sc isB t n a
  if n ≤ p then (p, 0, 0, p)
  else if isL (t p) then
    let e := sc isL t n p
    let c := nmc t p e 6
    if e - p ≤ 6 then (if kix c < 9 then (p, 1, kix c, e) else (p, 2, c, e)) else (p, 5, 0, e)
  else if isD (t p) then
    let e := sc isD t n p
    (p, 3, nuc t p (e - p), e)
  else (p, if t p = 59 then 4 else 5, 0, p + 1)
/-! bytes as the class holds them: c is 0 .. 255, signed -/
def sx (c : Nat) : Int32 := (nI c).toInt8.toInt32
theorem sx_ti {c : Nat} (h : c < 256) : (sx c).toInt = if c < 128 then (c : Int) else (c : Int) - 256 := by
  have key : ∀ c, c < 256 → (sx c).toInt = if c < 128 then (c : Int) else (c : Int) - 256 := by decide +kernel
  exact key c h
theorem sx_lo {c : Nat} (h : c < 128) : sx c = nI c := by
  have key : ∀ c, c < 128 → sx c = nI c := by decide +kernel
  exact key c h
theorem sx_eq {c k : Nat} (h : c < 256) (hk : k < 128) : sx c = nI k ↔ c = k := by
  constructor
  · intro e
    have h1 := congrArg Int32.toInt e
    rw [sx_ti h, nI_ti (by omega)] at h1
    split at h1 <;> omega
  · intro e; rw [e]; exact sx_lo hk
theorem sx_lt {c k : Nat} (h : c < 256) (hk : k < 128) : sx c < nI k ↔ (c < k ∨ 128 ≤ c) := by
  rw [Int32.lt_iff_toInt_lt, sx_ti h, nI_ti (by omega)]
  split <;> omega
theorem sx_gt {c k : Nat} (h : c < 256) (hk : k < 128) : nI k < sx c ↔ (k < c ∧ c < 128) := by
  rw [Int32.lt_iff_toInt_lt, sx_ti h, nI_ti (by omega)]
  split <;> omega
/-- the reader's thirteen fields -/
def RD (σ : Mem) (a tp td n bk nx st : Nat) (tk vl : Int32) (py sd ln : Nat) (ft pl : Int32) : Prop :=
  fld σ a 0 = some (.ref tp) ∧ fld σ a 1 = some (.int (nI n)) ∧ fld σ a 2 = some (.ref bk) ∧ fld σ a 3 = some (.ref td) ∧ fld σ a 4 = some (.int (nI nx)) ∧ fld σ a 5 = some (.int (nI st)) ∧ fld σ a 6 = some (.int tk) ∧ fld σ a 7 = some (.int vl) ∧ fld σ a 8 = some (.int (nI py)) ∧ fld σ a 9 = some (.int (nI sd)) ∧ fld σ a 10 = some (.int (nI ln)) ∧ fld σ a 11 = some (.int ft) ∧ fld σ a 12 = some (.int pl)
/-- the tape's bytes -/
def BY (V : VX) (σ : Mem) (tp n : Nat) (t : Nat → Nat) : Prop := ∃ f, σ tp = some (aB V 700 f) ∧ ∀ i, i < n → t i < 256 ∧ f i = sx (t i)
theorem t_baldX {V : VX} {G : GH} {X : MX} {y : MethodName} {cc : ByteArray} {nL N k z pc n m tp : Nat} {ret : Option FieldType} {R : Room} {σ σ0 : Mem} {lv : List (Nat × Value)} {st : List Value} {E : PE} {ks : List Nat} {t : Nat → Nat} (F : Fx V X y cc nL ret R) {j : Nat} {i : Int32} (d : DC cc pc 1 n .baload) (h : HK V G E ks σ0 σ) (hk : kA E.1 tp = 2) (h2 : 2 ∈ ks) (hB : BY V σ0 tp m t) (hj : i.toNatClampNeg = j) (hin : vp_in i 700) (hm : j < m) (kk : t j < 256 → Wm V X nL N σ k z n lv (.int (sx (t j)) :: st)) : Wm V X nL N σ k z pc lv (.int i :: .ref tp :: st) := by
  obtain ⟨f, h3, h4⟩ := hB
  have h5 : σ tp = some (aB V 700 f) := (h.2 tp (by rw [hk]; exact h2)).trans h3
  obtain ⟨h6, h7⟩ := h4 j hm
  refine m_bald F d h5 hj hin ?_
  rw [h7]
  exact kk h6
set_option maxRecDepth 20000 in
theorem s_X7_tokenAtE (l : Launch) (V : VX) (G : GH) (b M Z T N : Nat) (σ : Mem) (a : Nat) (n901 : Nat) (tp : Nat) (td : Nat) (n : Nat) (bk : Nat) (nx : Nat) (st : Nat) (tk : Int32) (vl : Int32) (py : Nat) (sd : Nat) (ln : Nat) (ft : Int32) (pl : Int32) (t : Nat → Nat) (h0 : HT V G (b, M, Z, T) σ) (hk : kA b a = 3) (hn901 : n901 ≤ 700) (hR : RD σ a tp td n bk nx st tk vl py sd ln ft pl) (hB : BY V σ tp n t) (hn7 : n ≤ 700) (hsd : sd ≤ 1) (htp : kA b tp = 2) (htd : kA b td = 4) (hbk : kA b bk = 7) (hgb : ¬ G.gd (blk (bk - b)) = 1) (hM : M + 0 ≤ 1000000000) : Ct l V yX7_tokenAt cX7_tokenAt 3 (some .int) 0 0 0 N σ [.ref a, .int (nI n901)] (fun r τ => HK V G (b, M, Z, T) [0, 1, 2, 3, 4, 5, 6, 7, 8, 9, 10, 11, 12, 13, 14, 15, 16, 17, 18, 19] σ τ ∧ RD τ a tp td n bk nx st tk vl py sd ln ft pl ∧ r = some (.int (if n ≤ n901 then 0 else if isL (t n901) then 1 else if isD (t n901) then 2 else if t n901 = 59 then 3 else 4 : Int32))) := by
  refine Ct.of (by decide) (Nat.le_of_ble_eq_true rfl) [(0, .ref a), (1, .int (nI n901))] rfl (fun X hX F hQ => ?_)
  have h1 : HK V G (b, M, Z, T) [0, 1, 2, 3, 4, 5, 6, 7, 8, 9, 10, 11, 12, 13, 14, 15, 16, 17, 18, 19] σ σ := HK.start h0
  have hrd4287 := hR
  obtain ⟨rd4287, rd4288, rd4289, rd4290, rd4291, rd4292, rd4293, rd4294, rd4295, rd4296, rd4297, rd4298, rd4299⟩ := hrd4287
  refine m_iload_n F rfl e_X7_tokenAt_0 ?_
  refine m_if_lt F e_X7_tokenAt_1 (fun q1 => ?_) (fun q1 => ?_)
  · have c1 : n901 < 0 := (nI_ltI (a := n901) (b := 0) (by omega) (by omega)).mp q1
    refine m_iconst F (v := 0) (by decide) e_X7_tokenAt_12 ?_
    exact m_iret F hQ e_X7_tokenAt_13 (⟨h1, ⟨rd4287, rd4288, rd4289, rd4290, rd4291, rd4292, rd4293, rd4294, rd4295, rd4296, rd4297, rd4298, rd4299⟩, by rw [if_pos (by omega)]⟩)
  · have c1 : n901 ≥ 0 := by have hh := mt (nI_ltI (a := n901) (b := 0) (by omega) (by omega)).mpr q1; omega
    refine m_iload_n F rfl e_X7_tokenAt_4 ?_
    refine m_aload_n F rfl e_X7_tokenAt_5 ?_
    refine t_getC F e_X7_tokenAt_6 fl_X7_33 (fun _ => o3) h1 hk (rd4288) ?_
    refine m_icmp_lt F e_X7_tokenAt_9 (fun q9 => ?_) (fun q9 => ?_)
    · have c9 : n901 < n := (nI_ltI (a := n901) (b := n) (by omega) (by omega)).mp q9
      refine m_aload_n F rfl e_X7_tokenAt_14 ?_
      refine t_getC F e_X7_tokenAt_15 fl_X7_19 (fun _ => o3) h1 hk (rd4287) ?_
      refine m_iload_n F rfl e_X7_tokenAt_18 ?_
      refine t_baldX F (j := n901) (tp := tp) e_X7_tokenAt_19 h1 htp (by decide) hB (nI_clamp (by omega)) (vp_in_nI (by omega) (by decide)) (by omega) (fun hb4300 => ?_)
      refine m_istore_n F (lv' := [(2, .int (sx (t n901))), (0, .ref a), (1, .int (nI n901))]) e_X7_tokenAt_20 (by decide) rfl ?_
      refine m_iload_n F rfl e_X7_tokenAt_21 ?_
      refine m_bipush F (v := 97) (by decide) e_X7_tokenAt_22 ?_
      refine m_icmp_lt F e_X7_tokenAt_24 (fun q24 => ?_) (fun q24 => ?_)
      · have c24 : t n901 < 97 ∨ 128 ≤ t n901 := (sx_lt (c := t n901) (k := 97) (by omega) (by omega)).mp q24
        refine m_iload_n F rfl e_X7_tokenAt_35 ?_
        refine m_bipush F (v := 48) (by decide) e_X7_tokenAt_36 ?_
        refine m_icmp_lt F e_X7_tokenAt_38 (fun q38 => ?_) (fun q38 => ?_)
        · have c38 : t n901 < 48 ∨ 128 ≤ t n901 := (sx_lt (c := t n901) (k := 48) (by omega) (by omega)).mp q38
          refine m_iload_n F rfl e_X7_tokenAt_49 ?_
          refine m_bipush F (v := 59) (by decide) e_X7_tokenAt_50 ?_
          refine m_icmp_ne F e_X7_tokenAt_52 (fun q52 => ?_) (fun q52 => ?_)
          · have c52 : t n901 ≠ 59 := fun e => q52 ((sx_eq (c := t n901) (k := 59) (by omega) (by omega)).mpr e)
            refine m_iconst F (v := 4) (by decide) e_X7_tokenAt_59 ?_
            exact m_iret F hQ e_X7_tokenAt_60 (⟨h1, ⟨rd4287, rd4288, rd4289, rd4290, rd4291, rd4292, rd4293, rd4294, rd4295, rd4296, rd4297, rd4298, rd4299⟩, by rw [if_neg (by omega), if_neg (by unfold isL; simp; omega), if_neg (by unfold isD; simp; omega), if_neg (by omega)]⟩)
          · have c52 : t n901 = 59 := (sx_eq (c := t n901) (k := 59) (by omega) (by omega)).mp q52
            refine m_iconst F (v := 3) (by decide) e_X7_tokenAt_55 ?_
            refine m_goto F e_X7_tokenAt_56 ?_
            exact m_iret F hQ e_X7_tokenAt_60 (⟨h1, ⟨rd4287, rd4288, rd4289, rd4290, rd4291, rd4292, rd4293, rd4294, rd4295, rd4296, rd4297, rd4298, rd4299⟩, by rw [if_neg (by omega), if_neg (by unfold isL; simp; omega), if_neg (by unfold isD; simp; omega), if_pos (by omega)]⟩)
        · have c38 : ¬ (t n901 < 48 ∨ 128 ≤ t n901) := fun e => q38 ((sx_lt (c := t n901) (k := 48) (by omega) (by omega)).mpr e)
          refine m_iload_n F rfl e_X7_tokenAt_41 ?_
          refine m_bipush F (v := 57) (by decide) e_X7_tokenAt_42 ?_
          refine m_icmp_gt F e_X7_tokenAt_44 (fun q44 => ?_) (fun q44 => ?_)
          · have c44 : 57 < t n901 ∧ t n901 < 128 := (sx_gt (c := t n901) (k := 57) (by omega) (by omega)).mp q44
            refine m_iload_n F rfl e_X7_tokenAt_49 ?_
            refine m_bipush F (v := 59) (by decide) e_X7_tokenAt_50 ?_
            refine m_icmp_ne F e_X7_tokenAt_52 (fun q52 => ?_) (fun q52 => ?_)
            · have c52 : t n901 ≠ 59 := fun e => q52 ((sx_eq (c := t n901) (k := 59) (by omega) (by omega)).mpr e)
              refine m_iconst F (v := 4) (by decide) e_X7_tokenAt_59 ?_
              exact m_iret F hQ e_X7_tokenAt_60 (⟨h1, ⟨rd4287, rd4288, rd4289, rd4290, rd4291, rd4292, rd4293, rd4294, rd4295, rd4296, rd4297, rd4298, rd4299⟩, by rw [if_neg (by omega), if_neg (by unfold isL; simp; omega), if_neg (by unfold isD; simp; omega), if_neg (by omega)]⟩)
            · have c52 : t n901 = 59 := (sx_eq (c := t n901) (k := 59) (by omega) (by omega)).mp q52
              refine m_iconst F (v := 3) (by decide) e_X7_tokenAt_55 ?_
              refine m_goto F e_X7_tokenAt_56 ?_
              exact m_iret F hQ e_X7_tokenAt_60 (⟨h1, ⟨rd4287, rd4288, rd4289, rd4290, rd4291, rd4292, rd4293, rd4294, rd4295, rd4296, rd4297, rd4298, rd4299⟩, by rw [if_neg (by omega), if_neg (by unfold isL; simp; omega), if_neg (by unfold isD; simp; omega), if_pos (by omega)]⟩)
          · have c44 : ¬ (57 < t n901 ∧ t n901 < 128) := fun e => q44 ((sx_gt (c := t n901) (k := 57) (by omega) (by omega)).mpr e)
            refine m_iconst F (v := 2) (by decide) e_X7_tokenAt_47 ?_
            exact m_iret F hQ e_X7_tokenAt_48 (⟨h1, ⟨rd4287, rd4288, rd4289, rd4290, rd4291, rd4292, rd4293, rd4294, rd4295, rd4296, rd4297, rd4298, rd4299⟩, by rw [if_neg (by omega), if_neg (by unfold isL; simp; omega), if_pos (by unfold isD; simp; omega)]⟩)
      · have c24 : ¬ (t n901 < 97 ∨ 128 ≤ t n901) := fun e => q24 ((sx_lt (c := t n901) (k := 97) (by omega) (by omega)).mpr e)
        refine m_iload_n F rfl e_X7_tokenAt_27 ?_
        refine m_bipush F (v := 122) (by decide) e_X7_tokenAt_28 ?_
        refine m_icmp_gt F e_X7_tokenAt_30 (fun q30 => ?_) (fun q30 => ?_)
        · have c30 : 122 < t n901 ∧ t n901 < 128 := (sx_gt (c := t n901) (k := 122) (by omega) (by omega)).mp q30
          refine m_iload_n F rfl e_X7_tokenAt_35 ?_
          refine m_bipush F (v := 48) (by decide) e_X7_tokenAt_36 ?_
          refine m_icmp_lt F e_X7_tokenAt_38 (fun q38 => ?_) (fun q38 => ?_)
          · have c38 : t n901 < 48 ∨ 128 ≤ t n901 := (sx_lt (c := t n901) (k := 48) (by omega) (by omega)).mp q38
            refine m_iload_n F rfl e_X7_tokenAt_49 ?_
            refine m_bipush F (v := 59) (by decide) e_X7_tokenAt_50 ?_
            refine m_icmp_ne F e_X7_tokenAt_52 (fun q52 => ?_) (fun q52 => ?_)
            · have c52 : t n901 ≠ 59 := fun e => q52 ((sx_eq (c := t n901) (k := 59) (by omega) (by omega)).mpr e)
              refine m_iconst F (v := 4) (by decide) e_X7_tokenAt_59 ?_
              exact m_iret F hQ e_X7_tokenAt_60 (⟨h1, ⟨rd4287, rd4288, rd4289, rd4290, rd4291, rd4292, rd4293, rd4294, rd4295, rd4296, rd4297, rd4298, rd4299⟩, by rw [if_neg (by omega), if_neg (by unfold isL; simp; omega), if_neg (by unfold isD; simp; omega), if_neg (by omega)]⟩)
            · have c52 : t n901 = 59 := (sx_eq (c := t n901) (k := 59) (by omega) (by omega)).mp q52
              refine m_iconst F (v := 3) (by decide) e_X7_tokenAt_55 ?_
              refine m_goto F e_X7_tokenAt_56 ?_
              exact m_iret F hQ e_X7_tokenAt_60 (⟨h1, ⟨rd4287, rd4288, rd4289, rd4290, rd4291, rd4292, rd4293, rd4294, rd4295, rd4296, rd4297, rd4298, rd4299⟩, by rw [if_neg (by omega), if_neg (by unfold isL; simp; omega), if_neg (by unfold isD; simp; omega), if_pos (by omega)]⟩)
          · have c38 : ¬ (t n901 < 48 ∨ 128 ≤ t n901) := fun e => q38 ((sx_lt (c := t n901) (k := 48) (by omega) (by omega)).mpr e)
            refine m_iload_n F rfl e_X7_tokenAt_41 ?_
            refine m_bipush F (v := 57) (by decide) e_X7_tokenAt_42 ?_
            refine m_icmp_gt F e_X7_tokenAt_44 (fun q44 => ?_) (fun q44 => ?_)
            · have c44 : 57 < t n901 ∧ t n901 < 128 := (sx_gt (c := t n901) (k := 57) (by omega) (by omega)).mp q44
              refine m_iload_n F rfl e_X7_tokenAt_49 ?_
              refine m_bipush F (v := 59) (by decide) e_X7_tokenAt_50 ?_
              refine m_icmp_ne F e_X7_tokenAt_52 (fun q52 => ?_) (fun q52 => ?_)
              · have c52 : t n901 ≠ 59 := fun e => q52 ((sx_eq (c := t n901) (k := 59) (by omega) (by omega)).mpr e)
                refine m_iconst F (v := 4) (by decide) e_X7_tokenAt_59 ?_
                exact m_iret F hQ e_X7_tokenAt_60 (⟨h1, ⟨rd4287, rd4288, rd4289, rd4290, rd4291, rd4292, rd4293, rd4294, rd4295, rd4296, rd4297, rd4298, rd4299⟩, by rw [if_neg (by omega), if_neg (by unfold isL; simp; omega), if_neg (by unfold isD; simp; omega), if_neg (by omega)]⟩)
              · have c52 : t n901 = 59 := (sx_eq (c := t n901) (k := 59) (by omega) (by omega)).mp q52
                refine m_iconst F (v := 3) (by decide) e_X7_tokenAt_55 ?_
                refine m_goto F e_X7_tokenAt_56 ?_
                exact m_iret F hQ e_X7_tokenAt_60 (⟨h1, ⟨rd4287, rd4288, rd4289, rd4290, rd4291, rd4292, rd4293, rd4294, rd4295, rd4296, rd4297, rd4298, rd4299⟩, by rw [if_neg (by omega), if_neg (by unfold isL; simp; omega), if_neg (by unfold isD; simp; omega), if_pos (by omega)]⟩)
            · have c44 : ¬ (57 < t n901 ∧ t n901 < 128) := fun e => q44 ((sx_gt (c := t n901) (k := 57) (by omega) (by omega)).mpr e)
              refine m_iconst F (v := 2) (by decide) e_X7_tokenAt_47 ?_
              exact m_iret F hQ e_X7_tokenAt_48 (⟨h1, ⟨rd4287, rd4288, rd4289, rd4290, rd4291, rd4292, rd4293, rd4294, rd4295, rd4296, rd4297, rd4298, rd4299⟩, by rw [if_neg (by omega), if_neg (by unfold isL; simp; omega), if_pos (by unfold isD; simp; omega)]⟩)
        · have c30 : ¬ (122 < t n901 ∧ t n901 < 128) := fun e => q30 ((sx_gt (c := t n901) (k := 122) (by omega) (by omega)).mpr e)
          refine m_iconst F (v := 1) (by decide) e_X7_tokenAt_33 ?_
          exact m_iret F hQ e_X7_tokenAt_34 (⟨h1, ⟨rd4287, rd4288, rd4289, rd4290, rd4291, rd4292, rd4293, rd4294, rd4295, rd4296, rd4297, rd4298, rd4299⟩, by rw [if_neg (by omega), if_pos (by unfold isL; simp; omega)]⟩)
    · have c9 : n901 ≥ n := by have hh := mt (nI_ltI (a := n901) (b := n) (by omega) (by omega)).mpr q9; omega
      refine m_iconst F (v := 0) (by decide) e_X7_tokenAt_12 ?_
      exact m_iret F hQ e_X7_tokenAt_13 (⟨h1, ⟨rd4287, rd4288, rd4289, rd4290, rd4291, rd4292, rd4293, rd4294, rd4295, rd4296, rd4297, rd4298, rd4299⟩, by rw [if_pos (by omega)]⟩)
set_option maxRecDepth 20000 in
theorem lp_X7_advanceNumberE_5 {V : VX} {G : GH} {X : MX} {b M Z T N : Nat} {σ : Mem} {a : Nat} {tp : Nat} {td : Nat} {n : Nat} {bk : Nat} {nx : Nat} {st : Nat} {tk : Int32} {vl : Int32} {py : Nat} {sd : Nat} {ln : Nat} {ft : Int32} {pl : Int32} {t : Nat → Nat}  (F : Fx V X yX7_advanceNumber cX7_advanceNumber 1 none (rmd 0 0 0)) (hQ : Rt V X 0 0 N (fun r τ => HK V G (b, M, Z, T) [0, 1, 2, 4, 5, 6, 7, 8, 9, 10, 11, 12, 13, 14, 15, 16, 17, 18, 19] σ τ ∧ (∃ v : Nat, v ≤ 1000000000 ∧ min v 10000000 = nuc t st (sc isD t n st - st) ∧ RD τ a tp td n bk (sc isD t n st) st tk (nI v) py sd ln ft pl) ∧ r = none)) (hk : kA b a = 3) (hp0 : nx = st) (hp1 : st ≤ 700) (hR : RD σ a tp td n bk nx st tk vl py sd ln ft pl) (hB : BY V σ tp n t) (hn7 : n ≤ 700) (hsd : sd ≤ 1) (htp : kA b tp = 2) (htd : kA b td = 4) (hbk : kA b bk = 7) (hgb : ¬ G.gd (blk (bk - b)) = 1) (hM : M + 0 ≤ 1000000000)  : ∀ (fuel : Nat) (m1 : Nat) (v1 : Nat) (τ : Mem), HK V G (b, M, Z, T) [0, 1, 2, 4, 5, 6, 7, 8, 9, 10, 11, 12, 13, 14, 15, 16, 17, 18, 19] σ τ → (RD τ a tp td n bk m1 st tk (nI v1) py sd ln ft pl ∧ st ≤ m1 ∧ m1 ≤ 700 ∧ v1 ≤ 1000000000 ∧ min v1 10000000 = nuc t st (m1 - st) ∧ sc isD t n st = sc isD t n m1) → 700 - m1 < fuel → Wm V X 1 N τ 0 0 5 [(0, .ref a)] [] := by
  intro fuel
  induction fuel with
  | zero => intro m1 v1 τ h1 hi hm; exact absurd hm (Nat.not_lt_zero _)
  | succ fuel ih =>
    intro m1 v1 τ h1 hi hm
    obtain ⟨hR1, hi⟩ := hi
    have hrd4301 := hR1
    obtain ⟨rd4301, rd4302, rd4303, rd4304, rd4305, rd4306, rd4307, rd4308, rd4309, rd4310, rd4311, rd4312, rd4313⟩ := hrd4301
    refine m_aload_n F rfl e_X7_advanceNumber_5 ?_
    refine t_getC F e_X7_advanceNumber_6 fl_X7_42 (fun _ => o3) h1 hk (rd4305) ?_
    refine m_aload_n F rfl e_X7_advanceNumber_9 ?_
    refine t_getC F e_X7_advanceNumber_10 fl_X7_33 (fun _ => o3) h1 hk (rd4302) ?_
    refine m_icmp_ge F e_X7_advanceNumber_13 (fun q13 => ?_) (fun q13 => ?_)
    · have c13 : m1 ≥ n := (nI_leI (a := n) (b := m1) (by omega) (by omega)).mp q13
      have e9 : sc isD t n st = m1 := hi.2.2.2.2.trans (sc_stop (by first | exact Or.inl (by omega) | exact Or.inr (by unfold isD; simp; omega)))
      exact m_vret F hQ e_X7_advanceNumber_95 (⟨h1, ⟨v1, by omega, by rw [e9]; omega, by rw [e9]; exact ⟨rd4301, rd4302, rd4303, rd4304, rd4305, rd4306, rd4307, rd4308, rd4309, rd4310, rd4311, rd4312, rd4313⟩⟩, rfl⟩)
    · have c13 : m1 < n := by have hh := mt (nI_leI (a := n) (b := m1) (by omega) (by omega)).mpr q13; omega
      refine m_aload_n F rfl e_X7_advanceNumber_16 ?_
      refine t_getC F e_X7_advanceNumber_17 fl_X7_19 (fun _ => o3) h1 hk (rd4301) ?_
      refine m_aload_n F rfl e_X7_advanceNumber_20 ?_
      refine t_getC F e_X7_advanceNumber_21 fl_X7_42 (fun _ => o3) h1 hk (rd4305) ?_
      refine t_baldX F (j := m1) (tp := tp) e_X7_advanceNumber_24 h1 htp (by decide) hB (nI_clamp (by omega)) (vp_in_nI (by omega) (by decide)) (by omega) (fun hb4314 => ?_)
      refine m_bipush F (v := 48) (by decide) e_X7_advanceNumber_25 ?_
      refine m_icmp_lt F e_X7_advanceNumber_27 (fun q27 => ?_) (fun q27 => ?_)
      · have c27 : t m1 < 48 ∨ 128 ≤ t m1 := (sx_lt (c := t m1) (k := 48) (by omega) (by omega)).mp q27
        have e9 : sc isD t n st = m1 := hi.2.2.2.2.trans (sc_stop (by first | exact Or.inl (by omega) | exact Or.inr (by unfold isD; simp; omega)))
        exact m_vret F hQ e_X7_advanceNumber_95 (⟨h1, ⟨v1, by omega, by rw [e9]; omega, by rw [e9]; exact ⟨rd4301, rd4302, rd4303, rd4304, rd4305, rd4306, rd4307, rd4308, rd4309, rd4310, rd4311, rd4312, rd4313⟩⟩, rfl⟩)
      · have c27 : ¬ (t m1 < 48 ∨ 128 ≤ t m1) := fun e => q27 ((sx_lt (c := t m1) (k := 48) (by omega) (by omega)).mpr e)
        refine m_aload_n F rfl e_X7_advanceNumber_30 ?_
        refine t_getC F e_X7_advanceNumber_31 fl_X7_19 (fun _ => o3) h1 hk (rd4301) ?_
        refine m_aload_n F rfl e_X7_advanceNumber_34 ?_
        refine t_getC F e_X7_advanceNumber_35 fl_X7_42 (fun _ => o3) h1 hk (rd4305) ?_
        refine t_baldX F (j := m1) (tp := tp) e_X7_advanceNumber_38 h1 htp (by decide) hB (nI_clamp (by omega)) (vp_in_nI (by omega) (by decide)) (by omega) (fun hb4315 => ?_)
        refine m_bipush F (v := 57) (by decide) e_X7_advanceNumber_39 ?_
        refine m_icmp_gt F e_X7_advanceNumber_41 (fun q41 => ?_) (fun q41 => ?_)
        · have c41 : 57 < t m1 ∧ t m1 < 128 := (sx_gt (c := t m1) (k := 57) (by omega) (by omega)).mp q41
          have e9 : sc isD t n st = m1 := hi.2.2.2.2.trans (sc_stop (by first | exact Or.inl (by omega) | exact Or.inr (by unfold isD; simp; omega)))
          exact m_vret F hQ e_X7_advanceNumber_95 (⟨h1, ⟨v1, by omega, by rw [e9]; omega, by rw [e9]; exact ⟨rd4301, rd4302, rd4303, rd4304, rd4305, rd4306, rd4307, rd4308, rd4309, rd4310, rd4311, rd4312, rd4313⟩⟩, rfl⟩)
        · have c41 : ¬ (57 < t m1 ∧ t m1 < 128) := fun e => q41 ((sx_gt (c := t m1) (k := 57) (by omega) (by omega)).mpr e)
          refine m_aload_n F rfl e_X7_advanceNumber_44 ?_
          refine m_aload_n F rfl e_X7_advanceNumber_45 ?_
          refine t_getC F e_X7_advanceNumber_46 fl_X7_70 (fun _ => o3) h1 hk (rd4308) ?_
          refine m_ldc F kc_X7_216 e_X7_advanceNumber_49 ?_
          refine m_icmp_lt F e_X7_advanceNumber_51 (fun q51 => ?_) (fun q51 => ?_)
          · have c51 : v1 < 100000000 := (nI_ltI (a := v1) (b := 100000000) (by omega) (by omega)).mp q51
            refine m_aload_n F rfl e_X7_advanceNumber_59 ?_
            refine t_getC F e_X7_advanceNumber_60 fl_X7_70 (fun _ => o3) h1 hk (rd4308) ?_
            refine m_bipush F (v := 10) (by decide) e_X7_advanceNumber_63 ?_
            refine m_imul F e_X7_advanceNumber_65 ?_
            refine Wm.topE (w := nI (v1 * 10)) (pk_mul v1 10) ?_
            refine m_aload_n F rfl e_X7_advanceNumber_66 ?_
            refine t_getC F e_X7_advanceNumber_67 fl_X7_19 (fun _ => o3) h1 hk (rd4301) ?_
            refine m_aload_n F rfl e_X7_advanceNumber_70 ?_
            refine t_getC F e_X7_advanceNumber_71 fl_X7_42 (fun _ => o3) h1 hk (rd4305) ?_
            refine t_baldX F (j := m1) (tp := tp) e_X7_advanceNumber_74 h1 htp (by decide) hB (nI_clamp (by omega)) (vp_in_nI (by omega) (by decide)) (by omega) (fun hb4316 => ?_)
            refine Wm.topE (w := nI (t m1)) (sx_lo (by omega)) ?_
            refine m_iadd F e_X7_advanceNumber_75 ?_
            refine Wm.topE (w := nI ((v1 * 10) + (t m1))) (nI_add (v1 * 10) (t m1)) ?_
            refine m_bipush F (v := 48) (by decide) e_X7_advanceNumber_76 ?_
            refine m_isub F e_X7_advanceNumber_78 ?_
            refine Wm.topE (w := nI (((v1 * 10) + (t m1)) - 48)) (pk_sub (a := (v1 * 10) + (t m1)) (b := 48) (by omega)) ?_
            refine t_put F e_X7_advanceNumber_79 fp_X7_70 (fun _ => o3) h1 hk rfl ⟨_, rfl⟩ rfl rfl (by decide) (fun σ4317 h4318 g4319 g4320 f4321 => ?_)
            refine m_aload_n F rfl e_X7_advanceNumber_82 ?_
            refine m_dup F rfl e_X7_advanceNumber_83 ?_
            refine t_getC F e_X7_advanceNumber_84 fl_X7_42 (fun _ => o3) h4318 hk ((g4320 4 (by decide)).trans rd4305) ?_
            refine m_iconst F (v := 1) (by decide) e_X7_advanceNumber_87 ?_
            refine m_iadd F e_X7_advanceNumber_88 ?_
            refine Wm.topE (w := nI (m1 + 1)) (nI_add m1 1) ?_
            refine t_put F e_X7_advanceNumber_89 fp_X7_42 (fun _ => o3) h4318 hk rfl ⟨m1 + 1, (show m1 + 1 ≤ 700 by omega), rfl⟩ rfl rfl (by decide) (fun σ4322 h4323 g4324 g4325 f4326 => ?_)
            refine m_goto F e_X7_advanceNumber_92 ?_
            exact ih (m1 + 1) (((v1 * 10) + (t m1)) - 48) _ h4323 ⟨⟨(g4325 0 (by decide)).trans ((g4320 0 (by decide)).trans rd4301), (g4325 1 (by decide)).trans ((g4320 1 (by decide)).trans rd4302), (g4325 2 (by decide)).trans ((g4320 2 (by decide)).trans rd4303), (g4325 3 (by decide)).trans ((g4320 3 (by decide)).trans rd4304), f4326, (g4325 5 (by decide)).trans ((g4320 5 (by decide)).trans rd4306), (g4325 6 (by decide)).trans ((g4320 6 (by decide)).trans rd4307), (g4325 7 (by decide)).trans f4321, (g4325 8 (by decide)).trans ((g4320 8 (by decide)).trans rd4309), (g4325 9 (by decide)).trans ((g4320 9 (by decide)).trans rd4310), (g4325 10 (by decide)).trans ((g4320 10 (by decide)).trans rd4311), (g4325 11 (by decide)).trans ((g4320 11 (by decide)).trans rd4312), (g4325 12 (by decide)).trans ((g4320 12 (by decide)).trans rd4313)⟩, ⟨by omega, by omega, by omega, by rw [show m1 + 1 - st = (m1 - st) + 1 by omega]; show _ = min (nuc t st (m1 - st) * 10 + (t (st + (m1 - st)) - 48)) 10000000; rw [show st + (m1 - st) = m1 by omega]; omega, by rw [hi.2.2.2.2]; exact sc_go (by omega) (by unfold isD; simp; omega)⟩⟩ (by omega)
          · have c51 : v1 ≥ 100000000 := by have hh := mt (nI_ltI (a := v1) (b := 100000000) (by omega) (by omega)).mpr q51; omega
            refine m_ldc F kc_X7_216 e_X7_advanceNumber_54 ?_
            refine m_goto F e_X7_advanceNumber_56 ?_
            refine t_put F e_X7_advanceNumber_79 fp_X7_70 (fun _ => o3) h1 hk rfl ⟨_, rfl⟩ rfl rfl (by decide) (fun σ4327 h4328 g4329 g4330 f4331 => ?_)
            refine m_aload_n F rfl e_X7_advanceNumber_82 ?_
            refine m_dup F rfl e_X7_advanceNumber_83 ?_
            refine t_getC F e_X7_advanceNumber_84 fl_X7_42 (fun _ => o3) h4328 hk ((g4330 4 (by decide)).trans rd4305) ?_
            refine m_iconst F (v := 1) (by decide) e_X7_advanceNumber_87 ?_
            refine m_iadd F e_X7_advanceNumber_88 ?_
            refine Wm.topE (w := nI (m1 + 1)) (nI_add m1 1) ?_
            refine t_put F e_X7_advanceNumber_89 fp_X7_42 (fun _ => o3) h4328 hk rfl ⟨m1 + 1, (show m1 + 1 ≤ 700 by omega), rfl⟩ rfl rfl (by decide) (fun σ4332 h4333 g4334 g4335 f4336 => ?_)
            refine m_goto F e_X7_advanceNumber_92 ?_
            exact ih (m1 + 1) 100000000 _ h4333 ⟨⟨(g4335 0 (by decide)).trans ((g4330 0 (by decide)).trans rd4301), (g4335 1 (by decide)).trans ((g4330 1 (by decide)).trans rd4302), (g4335 2 (by decide)).trans ((g4330 2 (by decide)).trans rd4303), (g4335 3 (by decide)).trans ((g4330 3 (by decide)).trans rd4304), f4336, (g4335 5 (by decide)).trans ((g4330 5 (by decide)).trans rd4306), (g4335 6 (by decide)).trans ((g4330 6 (by decide)).trans rd4307), (g4335 7 (by decide)).trans f4331, (g4335 8 (by decide)).trans ((g4330 8 (by decide)).trans rd4309), (g4335 9 (by decide)).trans ((g4330 9 (by decide)).trans rd4310), (g4335 10 (by decide)).trans ((g4330 10 (by decide)).trans rd4311), (g4335 11 (by decide)).trans ((g4330 11 (by decide)).trans rd4312), (g4335 12 (by decide)).trans ((g4330 12 (by decide)).trans rd4313)⟩, ⟨by omega, by omega, by omega, by rw [show m1 + 1 - st = (m1 - st) + 1 by omega]; show _ = min (nuc t st (m1 - st) * 10 + (t (st + (m1 - st)) - 48)) 10000000; rw [show st + (m1 - st) = m1 by omega]; omega, by rw [hi.2.2.2.2]; exact sc_go (by omega) (by unfold isD; simp; omega)⟩⟩ (by omega)
set_option maxRecDepth 20000 in
theorem s_X7_advanceNumberE (l : Launch) (V : VX) (G : GH) (b M Z T N : Nat) (σ : Mem) (a : Nat) (tp : Nat) (td : Nat) (n : Nat) (bk : Nat) (nx : Nat) (st : Nat) (tk : Int32) (vl : Int32) (py : Nat) (sd : Nat) (ln : Nat) (ft : Int32) (pl : Int32) (t : Nat → Nat) (h0 : HT V G (b, M, Z, T) σ) (hk : kA b a = 3) (hp0 : nx = st) (hp1 : st ≤ 700) (hR : RD σ a tp td n bk nx st tk vl py sd ln ft pl) (hB : BY V σ tp n t) (hn7 : n ≤ 700) (hsd : sd ≤ 1) (htp : kA b tp = 2) (htd : kA b td = 4) (hbk : kA b bk = 7) (hgb : ¬ G.gd (blk (bk - b)) = 1) (hM : M + 0 ≤ 1000000000) : Ct l V yX7_advanceNumber cX7_advanceNumber 1 none 0 0 0 N σ [.ref a] (fun r τ => HK V G (b, M, Z, T) [0, 1, 2, 4, 5, 6, 7, 8, 9, 10, 11, 12, 13, 14, 15, 16, 17, 18, 19] σ τ ∧ (∃ v : Nat, v ≤ 1000000000 ∧ min v 10000000 = nuc t st (sc isD t n st - st) ∧ RD τ a tp td n bk (sc isD t n st) st tk (nI v) py sd ln ft pl) ∧ r = none) := by
  refine Ct.of (by decide) (Nat.le_of_ble_eq_true rfl) [(0, .ref a)] rfl (fun X hX F hQ => ?_)
  have h1 : HK V G (b, M, Z, T) [0, 1, 2, 4, 5, 6, 7, 8, 9, 10, 11, 12, 13, 14, 15, 16, 17, 18, 19] σ σ := HK.start h0
  have hrd4337 := hR
  obtain ⟨rd4337, rd4338, rd4339, rd4340, rd4341, rd4342, rd4343, rd4344, rd4345, rd4346, rd4347, rd4348, rd4349⟩ := hrd4337
  refine m_aload_n F rfl e_X7_advanceNumber_0 ?_
  refine m_iconst F (v := 0) (by decide) e_X7_advanceNumber_1 ?_
  refine t_put F e_X7_advanceNumber_2 fp_X7_70 (fun _ => o3) h1 hk rfl ⟨_, rfl⟩ rfl rfl (by decide) (fun σ4350 h4351 g4352 g4353 f4354 => ?_)
  exact lp_X7_advanceNumberE_5 F hQ hk hp0 hp1 hR hB hn7 hsd htp htd hbk hgb hM (700 - nx + 1) nx 0 _ h4351 ⟨⟨(g4353 0 (by decide)).trans rd4337, (g4353 1 (by decide)).trans rd4338, (g4353 2 (by decide)).trans rd4339, (g4353 3 (by decide)).trans rd4340, (g4353 4 (by decide)).trans rd4341, (g4353 5 (by decide)).trans rd4342, (g4353 6 (by decide)).trans rd4343, f4354, (g4353 8 (by decide)).trans rd4345, (g4353 9 (by decide)).trans rd4346, (g4353 10 (by decide)).trans rd4347, (g4353 11 (by decide)).trans rd4348, (g4353 12 (by decide)).trans rd4349⟩, ⟨by omega, by omega, by omega, by rw [hp0, Nat.sub_self]; rfl, by rw [hp0]⟩⟩ (Nat.lt_succ_self _)
theorem nmc_ext {t : Nat → Nat} {p e e2 : Nat} : ∀ k, p + k ≤ e → p + k ≤ e2 → nmc t p e k = nmc t p e2 k
  | 0, _, _ => rfl
  | k + 1, h1, h2 => by
    show nmc t p e k * 32 + (if p + k < e then _ else _) = nmc t p e2 k * 32 + (if p + k < e2 then _ else _)
    rw [nmc_ext (e2 := e2) k (by omega) (by omega), if_pos (by omega), if_pos (by omega)]
theorem nmc_at {t : Nat → Nat} {p m : Nat} (h : p ≤ m) : nmc t p (m + 1) (m + 1 - p) = nmc t p m (m - p) * 32 + (t m - 96) := by
  obtain ⟨k, rfl⟩ : ∃ k, m = p + k := ⟨m - p, by omega⟩
  rw [show p + k + 1 - p = k + 1 by omega, show p + k - p = k by omega]
  show nmc t p (p + k + 1) k * 32 + (if p + k < p + k + 1 then _ else _) = _
  rw [nmc_ext (e2 := p + k) k (by omega) (Nat.le_refl _), if_pos (by omega)]
theorem p32 {k : Nat} (h : k ≤ 5) : 32 ^ k ≤ 33554432 := Nat.le_trans (Nat.pow_le_pow_right (by decide) h) (by decide)
set_option maxRecDepth 20000 in
theorem lp_X7_advanceWordB_5 {V : VX} {G : GH} {X : MX} {b M Z T N : Nat} {σ : Mem} {a : Nat} {tp : Nat} {td : Nat} {n : Nat} {bk : Nat} {nx : Nat} {st : Nat} {tk : Int32} {vl : Int32} {py : Nat} {sd : Nat} {ln : Nat} {ft : Int32} {pl : Int32} {t : Nat → Nat}  (F : Fx V X yX7_advanceWord cX7_advanceWord 2 none (rmd 0 0 0)) (hQ : Rt V X 0 0 N (fun r τ => HK V G (b, M, Z, T) [0, 1, 2, 4, 5, 6, 7, 8, 9, 10, 11, 12, 13, 14, 15, 16, 17, 18, 19] σ τ ∧ RD τ a tp td n bk (sc isL t n st) st tk (if sc isL t n st - st ≤ 6 then nI (nmc t st (sc isL t n st) 6) else -1) py sd ln ft pl ∧ r = none)) (hk : kA b a = 3) (hp0 : nx = st) (hp1 : st ≤ 700) (hR : RD σ a tp td n bk nx st tk vl py sd ln ft pl) (hB : BY V σ tp n t) (hn7 : n ≤ 700) (hsd : sd ≤ 1) (htp : kA b tp = 2) (htd : kA b td = 4) (hbk : kA b bk = 7) (hgb : ¬ G.gd (blk (bk - b)) = 1) (hM : M + 0 ≤ 1000000000)  : ∀ (fuel : Nat) (m1 : Nat) (τ : Mem), HK V G (b, M, Z, T) [0, 1, 2, 4, 5, 6, 7, 8, 9, 10, 11, 12, 13, 14, 15, 16, 17, 18, 19] σ τ → (RD τ a tp td n bk m1 st tk (-1) py sd ln ft pl ∧ st + 7 ≤ m1 ∧ m1 ≤ 700 ∧ sc isL t n st = sc isL t n m1) → 700 - m1 < fuel → Wm V X 2 N τ 0 0 5 [(0, .ref a)] [] := by
  intro fuel
  induction fuel with
  | zero => intro m1 τ h1 hi hm; exact absurd hm (Nat.not_lt_zero _)
  | succ fuel ih =>
    intro m1 τ h1 hi hm
    obtain ⟨hR1, hi⟩ := hi
    have hrd4355 := hR1
    obtain ⟨rd4355, rd4356, rd4357, rd4358, rd4359, rd4360, rd4361, rd4362, rd4363, rd4364, rd4365, rd4366, rd4367⟩ := hrd4355
    refine m_aload_n F rfl e_X7_advanceWord_5 ?_
    refine t_getC F e_X7_advanceWord_6 fl_X7_42 (fun _ => o3) h1 hk (rd4359) ?_
    refine m_aload_n F rfl e_X7_advanceWord_9 ?_
    refine t_getC F e_X7_advanceWord_10 fl_X7_33 (fun _ => o3) h1 hk (rd4356) ?_
    refine m_icmp_ge F e_X7_advanceWord_13 (fun q13 => ?_) (fun q13 => ?_)
    · have c13 : m1 ≥ n := (nI_leI (a := n) (b := m1) (by omega) (by omega)).mp q13
      refine m_aload_n F rfl e_X7_advanceWord_101 ?_
      refine t_getC F e_X7_advanceWord_102 fl_X7_42 (fun _ => o3) h1 hk (rd4359) ?_
      refine m_aload_n F rfl e_X7_advanceWord_105 ?_
      refine t_getC F e_X7_advanceWord_106 fl_X7_188 (fun _ => o3) h1 hk (rd4360) ?_
      refine m_isub F e_X7_advanceWord_109 ?_
      refine Wm.topE (w := nI (m1 - st)) (pk_sub (a := m1) (b := st) (by omega)) ?_
      refine m_istore_n F (lv' := [(1, .int (nI (m1 - st))), (0, .ref a)]) e_X7_advanceWord_110 (by decide) rfl ?_
      refine m_iload_n F rfl e_X7_advanceWord_111 ?_
      refine m_bipush F (v := 6) (by decide) e_X7_advanceWord_112 ?_
      refine m_icmp_ge F e_X7_advanceWord_114 (fun q114 => ?_) (fun q114 => ?_)
      · have c114 : (m1 - st) ≥ 6 := (nI_leI (a := 6) (b := (m1 - st)) (by omega) (by omega)).mp q114
        have e9 : sc isL t n st = m1 := hi.2.2.trans (sc_stop (by first | exact Or.inl (by omega) | exact Or.inr (by unfold isL; simp; omega)))
        exact m_vret F hQ e_X7_advanceWord_134 (⟨h1, by rw [e9, if_neg (by omega)]; exact ⟨rd4355, rd4356, rd4357, rd4358, rd4359, rd4360, rd4361, rd4362, rd4363, rd4364, rd4365, rd4366, rd4367⟩, rfl⟩)
      · have c114 : (m1 - st) < 6 := by have hh := mt (nI_leI (a := 6) (b := (m1 - st)) (by omega) (by omega)).mpr q114; omega
        exfalso; omega
    · have c13 : m1 < n := by have hh := mt (nI_leI (a := n) (b := m1) (by omega) (by omega)).mpr q13; omega
      refine m_aload_n F rfl e_X7_advanceWord_16 ?_
      refine t_getC F e_X7_advanceWord_17 fl_X7_19 (fun _ => o3) h1 hk (rd4355) ?_
      refine m_aload_n F rfl e_X7_advanceWord_20 ?_
      refine t_getC F e_X7_advanceWord_21 fl_X7_42 (fun _ => o3) h1 hk (rd4359) ?_
      refine t_baldX F (j := m1) (tp := tp) e_X7_advanceWord_24 h1 htp (by decide) hB (nI_clamp (by omega)) (vp_in_nI (by omega) (by decide)) (by omega) (fun hb4368 => ?_)
      refine m_bipush F (v := 97) (by decide) e_X7_advanceWord_25 ?_
      refine m_icmp_lt F e_X7_advanceWord_27 (fun q27 => ?_) (fun q27 => ?_)
      · have c27 : t m1 < 97 ∨ 128 ≤ t m1 := (sx_lt (c := t m1) (k := 97) (by omega) (by omega)).mp q27
        refine m_aload_n F rfl e_X7_advanceWord_101 ?_
        refine t_getC F e_X7_advanceWord_102 fl_X7_42 (fun _ => o3) h1 hk (rd4359) ?_
        refine m_aload_n F rfl e_X7_advanceWord_105 ?_
        refine t_getC F e_X7_advanceWord_106 fl_X7_188 (fun _ => o3) h1 hk (rd4360) ?_
        refine m_isub F e_X7_advanceWord_109 ?_
        refine Wm.topE (w := nI (m1 - st)) (pk_sub (a := m1) (b := st) (by omega)) ?_
        refine m_istore_n F (lv' := [(1, .int (nI (m1 - st))), (0, .ref a)]) e_X7_advanceWord_110 (by decide) rfl ?_
        refine m_iload_n F rfl e_X7_advanceWord_111 ?_
        refine m_bipush F (v := 6) (by decide) e_X7_advanceWord_112 ?_
        refine m_icmp_ge F e_X7_advanceWord_114 (fun q114 => ?_) (fun q114 => ?_)
        · have c114 : (m1 - st) ≥ 6 := (nI_leI (a := 6) (b := (m1 - st)) (by omega) (by omega)).mp q114
          have e9 : sc isL t n st = m1 := hi.2.2.trans (sc_stop (by first | exact Or.inl (by omega) | exact Or.inr (by unfold isL; simp; omega)))
          exact m_vret F hQ e_X7_advanceWord_134 (⟨h1, by rw [e9, if_neg (by omega)]; exact ⟨rd4355, rd4356, rd4357, rd4358, rd4359, rd4360, rd4361, rd4362, rd4363, rd4364, rd4365, rd4366, rd4367⟩, rfl⟩)
        · have c114 : (m1 - st) < 6 := by have hh := mt (nI_leI (a := 6) (b := (m1 - st)) (by omega) (by omega)).mpr q114; omega
          exfalso; omega
      · have c27 : ¬ (t m1 < 97 ∨ 128 ≤ t m1) := fun e => q27 ((sx_lt (c := t m1) (k := 97) (by omega) (by omega)).mpr e)
        refine m_aload_n F rfl e_X7_advanceWord_30 ?_
        refine t_getC F e_X7_advanceWord_31 fl_X7_19 (fun _ => o3) h1 hk (rd4355) ?_
        refine m_aload_n F rfl e_X7_advanceWord_34 ?_
        refine t_getC F e_X7_advanceWord_35 fl_X7_42 (fun _ => o3) h1 hk (rd4359) ?_
        refine t_baldX F (j := m1) (tp := tp) e_X7_advanceWord_38 h1 htp (by decide) hB (nI_clamp (by omega)) (vp_in_nI (by omega) (by decide)) (by omega) (fun hb4369 => ?_)
        refine m_bipush F (v := 122) (by decide) e_X7_advanceWord_39 ?_
        refine m_icmp_gt F e_X7_advanceWord_41 (fun q41 => ?_) (fun q41 => ?_)
        · have c41 : 122 < t m1 ∧ t m1 < 128 := (sx_gt (c := t m1) (k := 122) (by omega) (by omega)).mp q41
          refine m_aload_n F rfl e_X7_advanceWord_101 ?_
          refine t_getC F e_X7_advanceWord_102 fl_X7_42 (fun _ => o3) h1 hk (rd4359) ?_
          refine m_aload_n F rfl e_X7_advanceWord_105 ?_
          refine t_getC F e_X7_advanceWord_106 fl_X7_188 (fun _ => o3) h1 hk (rd4360) ?_
          refine m_isub F e_X7_advanceWord_109 ?_
          refine Wm.topE (w := nI (m1 - st)) (pk_sub (a := m1) (b := st) (by omega)) ?_
          refine m_istore_n F (lv' := [(1, .int (nI (m1 - st))), (0, .ref a)]) e_X7_advanceWord_110 (by decide) rfl ?_
          refine m_iload_n F rfl e_X7_advanceWord_111 ?_
          refine m_bipush F (v := 6) (by decide) e_X7_advanceWord_112 ?_
          refine m_icmp_ge F e_X7_advanceWord_114 (fun q114 => ?_) (fun q114 => ?_)
          · have c114 : (m1 - st) ≥ 6 := (nI_leI (a := 6) (b := (m1 - st)) (by omega) (by omega)).mp q114
            have e9 : sc isL t n st = m1 := hi.2.2.trans (sc_stop (by first | exact Or.inl (by omega) | exact Or.inr (by unfold isL; simp; omega)))
            exact m_vret F hQ e_X7_advanceWord_134 (⟨h1, by rw [e9, if_neg (by omega)]; exact ⟨rd4355, rd4356, rd4357, rd4358, rd4359, rd4360, rd4361, rd4362, rd4363, rd4364, rd4365, rd4366, rd4367⟩, rfl⟩)
          · have c114 : (m1 - st) < 6 := by have hh := mt (nI_leI (a := 6) (b := (m1 - st)) (by omega) (by omega)).mpr q114; omega
            exfalso; omega
        · have c41 : ¬ (122 < t m1 ∧ t m1 < 128) := fun e => q41 ((sx_gt (c := t m1) (k := 122) (by omega) (by omega)).mpr e)
          refine m_aload_n F rfl e_X7_advanceWord_44 ?_
          refine m_aload_n F rfl e_X7_advanceWord_45 ?_
          refine t_getC F e_X7_advanceWord_46 fl_X7_42 (fun _ => o3) h1 hk (rd4359) ?_
          refine m_aload_n F rfl e_X7_advanceWord_49 ?_
          refine t_getC F e_X7_advanceWord_50 fl_X7_188 (fun _ => o3) h1 hk (rd4360) ?_
          refine m_isub F e_X7_advanceWord_53 ?_
          refine Wm.topE (w := nI (m1 - st)) (pk_sub (a := m1) (b := st) (by omega)) ?_
          refine m_bipush F (v := 6) (by decide) e_X7_advanceWord_54 ?_
          refine m_icmp_ge F e_X7_advanceWord_56 (fun q56 => ?_) (fun q56 => ?_)
          · have c56 : (m1 - st) ≥ 6 := (nI_leI (a := 6) (b := (m1 - st)) (by omega) (by omega)).mp q56
            refine m_iconst F (v := (-1)) (by decide) e_X7_advanceWord_84 ?_
            refine t_put F e_X7_advanceWord_85 fp_X7_70 (fun _ => o3) h1 hk rfl ⟨_, rfl⟩ rfl rfl (by decide) (fun σ4370 h4371 g4372 g4373 f4374 => ?_)
            refine m_aload_n F rfl e_X7_advanceWord_88 ?_
            refine m_dup F rfl e_X7_advanceWord_89 ?_
            refine t_getC F e_X7_advanceWord_90 fl_X7_42 (fun _ => o3) h4371 hk ((g4373 4 (by decide)).trans rd4359) ?_
            refine m_iconst F (v := 1) (by decide) e_X7_advanceWord_93 ?_
            refine m_iadd F e_X7_advanceWord_94 ?_
            refine Wm.topE (w := nI (m1 + 1)) (nI_add m1 1) ?_
            refine t_put F e_X7_advanceWord_95 fp_X7_42 (fun _ => o3) h4371 hk rfl ⟨m1 + 1, (show m1 + 1 ≤ 700 by omega), rfl⟩ rfl rfl (by decide) (fun σ4375 h4376 g4377 g4378 f4379 => ?_)
            refine m_goto F e_X7_advanceWord_98 ?_
            exact ih (m1 + 1) _ h4376 ⟨⟨(g4378 0 (by decide)).trans ((g4373 0 (by decide)).trans rd4355), (g4378 1 (by decide)).trans ((g4373 1 (by decide)).trans rd4356), (g4378 2 (by decide)).trans ((g4373 2 (by decide)).trans rd4357), (g4378 3 (by decide)).trans ((g4373 3 (by decide)).trans rd4358), f4379, (g4378 5 (by decide)).trans ((g4373 5 (by decide)).trans rd4360), (g4378 6 (by decide)).trans ((g4373 6 (by decide)).trans rd4361), (g4378 7 (by decide)).trans f4374, (g4378 8 (by decide)).trans ((g4373 8 (by decide)).trans rd4363), (g4378 9 (by decide)).trans ((g4373 9 (by decide)).trans rd4364), (g4378 10 (by decide)).trans ((g4373 10 (by decide)).trans rd4365), (g4378 11 (by decide)).trans ((g4373 11 (by decide)).trans rd4366), (g4378 12 (by decide)).trans ((g4373 12 (by decide)).trans rd4367)⟩, ⟨by omega, by omega, by rw [hi.2.2]; exact sc_go (by omega) (by unfold isL; simp; omega)⟩⟩ (by omega)
          · have c56 : (m1 - st) < 6 := by have hh := mt (nI_leI (a := 6) (b := (m1 - st)) (by omega) (by omega)).mpr q56; omega
            exfalso; omega
set_option maxRecDepth 20000 in
theorem lp_X7_advanceWordE_111 {V : VX} {G : GH} {X : MX} {b M Z T N : Nat} {σ : Mem} {a : Nat} {tp : Nat} {td : Nat} {n : Nat} {bk : Nat} {nx : Nat} {st : Nat} {tk : Int32} {vl : Int32} {py : Nat} {sd : Nat} {ln : Nat} {ft : Int32} {pl : Int32} {t : Nat → Nat}  (F : Fx V X yX7_advanceWord cX7_advanceWord 2 none (rmd 0 0 0)) (hQ : Rt V X 0 0 N (fun r τ => HK V G (b, M, Z, T) [0, 1, 2, 4, 5, 6, 7, 8, 9, 10, 11, 12, 13, 14, 15, 16, 17, 18, 19] σ τ ∧ RD τ a tp td n bk (sc isL t n st) st tk (if sc isL t n st - st ≤ 6 then nI (nmc t st (sc isL t n st) 6) else -1) py sd ln ft pl ∧ r = none)) (hk : kA b a = 3) (hp0 : nx = st) (hp1 : st ≤ 700) (hR : RD σ a tp td n bk nx st tk vl py sd ln ft pl) (hB : BY V σ tp n t) (hn7 : n ≤ 700) (hsd : sd ≤ 1) (htp : kA b tp = 2) (htd : kA b td = 4) (hbk : kA b bk = 7) (hgb : ¬ G.gd (blk (bk - b)) = 1) (hM : M + 0 ≤ 1000000000)  : ∀ (fuel : Nat) (i1 : Nat) (m1 : Nat) (v1 : Nat) (τ : Mem), HK V G (b, M, Z, T) [0, 1, 2, 4, 5, 6, 7, 8, 9, 10, 11, 12, 13, 14, 15, 16, 17, 18, 19] σ τ → (RD τ a tp td n bk m1 st tk (nI v1) py sd ln ft pl ∧ sc isL t n st = m1 ∧ st ≤ m1 ∧ m1 ≤ 700 ∧ v1 = nmc t st m1 i1 ∧ v1 < 32 ^ i1 ∧ m1 - st ≤ i1 ∧ i1 ≤ 6) → 6 - i1 < fuel → Wm V X 2 N τ 0 0 111 [(1, .int (nI i1)), (0, .ref a)] [] := by
  intro fuel
  induction fuel with
  | zero => intro i1 m1 v1 τ h1 hi hm; exact absurd hm (Nat.not_lt_zero _)
  | succ fuel ih =>
    intro i1 m1 v1 τ h1 hi hm
    obtain ⟨hR1, hi⟩ := hi
    have hrd4398 := hR1
    obtain ⟨rd4398, rd4399, rd4400, rd4401, rd4402, rd4403, rd4404, rd4405, rd4406, rd4407, rd4408, rd4409, rd4410⟩ := hrd4398
    refine m_iload_n F rfl e_X7_advanceWord_111 ?_
    refine m_bipush F (v := 6) (by decide) e_X7_advanceWord_112 ?_
    refine m_icmp_ge F e_X7_advanceWord_114 (fun q114 => ?_) (fun q114 => ?_)
    · have c114 : i1 ≥ 6 := (nI_leI (a := 6) (b := i1) (by omega) (by omega)).mp q114
      exact m_vret F hQ e_X7_advanceWord_134 (⟨h1, by rw [hi.1, if_pos (by omega), show nmc t st m1 6 = v1 by rw [hi.2.2.2.1, show i1 = 6 by omega]]; exact ⟨rd4398, rd4399, rd4400, rd4401, rd4402, rd4403, rd4404, rd4405, rd4406, rd4407, rd4408, rd4409, rd4410⟩, rfl⟩)
    · have c114 : i1 < 6 := by have hh := mt (nI_leI (a := 6) (b := i1) (by omega) (by omega)).mpr q114; omega
      refine m_aload_n F rfl e_X7_advanceWord_117 ?_
      refine m_aload_n F rfl e_X7_advanceWord_118 ?_
      refine t_getC F e_X7_advanceWord_119 fl_X7_70 (fun _ => o3) h1 hk (rd4405) ?_
      refine m_bipush F (v := 32) (by decide) e_X7_advanceWord_122 ?_
      refine m_imul F e_X7_advanceWord_124 ?_
      refine Wm.topE (w := nI (v1 * 32)) (pk_mul v1 32) ?_
      refine t_put F e_X7_advanceWord_125 fp_X7_70 (fun _ => o3) h1 hk rfl ⟨_, rfl⟩ rfl rfl (by decide) (fun σ4411 h4412 g4413 g4414 f4415 => ?_)
      refine m_iinc F (v := nI (i1 + 1)) (lv' := [(1, .int (nI (i1 + 1))), (0, .ref a)]) e_X7_advanceWord_128 rfl (nI_add i1 1) (by decide) rfl ?_
      refine m_goto F e_X7_advanceWord_131 ?_
      exact ih (i1 + 1) m1 (v1 * 32) _ h4412 ⟨⟨(g4414 0 (by decide)).trans rd4398, (g4414 1 (by decide)).trans rd4399, (g4414 2 (by decide)).trans rd4400, (g4414 3 (by decide)).trans rd4401, (g4414 4 (by decide)).trans rd4402, (g4414 5 (by decide)).trans rd4403, (g4414 6 (by decide)).trans rd4404, f4415, (g4414 8 (by decide)).trans rd4406, (g4414 9 (by decide)).trans rd4407, (g4414 10 (by decide)).trans rd4408, (g4414 11 (by decide)).trans rd4409, (g4414 12 (by decide)).trans rd4410⟩, ⟨hi.1, by omega, by omega, by rw [hi.2.2.2.1]; show _ = nmc t st m1 i1 * 32 + (if st + i1 < m1 then _ else _); rw [if_neg (by omega), Nat.add_zero], by rw [Nat.pow_succ]; omega, by omega, by omega⟩⟩ (by omega)
set_option maxRecDepth 20000 in
theorem lp_X7_advanceWordE_5 {V : VX} {G : GH} {X : MX} {b M Z T N : Nat} {σ : Mem} {a : Nat} {tp : Nat} {td : Nat} {n : Nat} {bk : Nat} {nx : Nat} {st : Nat} {tk : Int32} {vl : Int32} {py : Nat} {sd : Nat} {ln : Nat} {ft : Int32} {pl : Int32} {t : Nat → Nat}  (F : Fx V X yX7_advanceWord cX7_advanceWord 2 none (rmd 0 0 0)) (hQ : Rt V X 0 0 N (fun r τ => HK V G (b, M, Z, T) [0, 1, 2, 4, 5, 6, 7, 8, 9, 10, 11, 12, 13, 14, 15, 16, 17, 18, 19] σ τ ∧ RD τ a tp td n bk (sc isL t n st) st tk (if sc isL t n st - st ≤ 6 then nI (nmc t st (sc isL t n st) 6) else -1) py sd ln ft pl ∧ r = none)) (hk : kA b a = 3) (hp0 : nx = st) (hp1 : st ≤ 700) (hR : RD σ a tp td n bk nx st tk vl py sd ln ft pl) (hB : BY V σ tp n t) (hn7 : n ≤ 700) (hsd : sd ≤ 1) (htp : kA b tp = 2) (htd : kA b td = 4) (hbk : kA b bk = 7) (hgb : ¬ G.gd (blk (bk - b)) = 1) (hM : M + 0 ≤ 1000000000)  : ∀ (fuel : Nat) (m1 : Nat) (v1 : Nat) (τ : Mem), HK V G (b, M, Z, T) [0, 1, 2, 4, 5, 6, 7, 8, 9, 10, 11, 12, 13, 14, 15, 16, 17, 18, 19] σ τ → (RD τ a tp td n bk m1 st tk (nI v1) py sd ln ft pl ∧ st ≤ m1 ∧ m1 ≤ 700 ∧ sc isL t n st = sc isL t n m1 ∧ v1 = nmc t st m1 (m1 - st) ∧ v1 < 32 ^ (m1 - st) ∧ m1 - st ≤ 6) → 700 - m1 < fuel → Wm V X 2 N τ 0 0 5 [(0, .ref a)] [] := by
  intro fuel
  induction fuel with
  | zero => intro m1 v1 τ h1 hi hm; exact absurd hm (Nat.not_lt_zero _)
  | succ fuel ih =>
    intro m1 v1 τ h1 hi hm
    obtain ⟨hR1, hi⟩ := hi
    have hrd4416 := hR1
    obtain ⟨rd4416, rd4417, rd4418, rd4419, rd4420, rd4421, rd4422, rd4423, rd4424, rd4425, rd4426, rd4427, rd4428⟩ := hrd4416
    refine m_aload_n F rfl e_X7_advanceWord_5 ?_
    refine t_getC F e_X7_advanceWord_6 fl_X7_42 (fun _ => o3) h1 hk (rd4420) ?_
    refine m_aload_n F rfl e_X7_advanceWord_9 ?_
    refine t_getC F e_X7_advanceWord_10 fl_X7_33 (fun _ => o3) h1 hk (rd4417) ?_
    refine m_icmp_ge F e_X7_advanceWord_13 (fun q13 => ?_) (fun q13 => ?_)
    · have c13 : m1 ≥ n := (nI_leI (a := n) (b := m1) (by omega) (by omega)).mp q13
      refine m_aload_n F rfl e_X7_advanceWord_101 ?_
      refine t_getC F e_X7_advanceWord_102 fl_X7_42 (fun _ => o3) h1 hk (rd4420) ?_
      refine m_aload_n F rfl e_X7_advanceWord_105 ?_
      refine t_getC F e_X7_advanceWord_106 fl_X7_188 (fun _ => o3) h1 hk (rd4421) ?_
      refine m_isub F e_X7_advanceWord_109 ?_
      refine Wm.topE (w := nI (m1 - st)) (pk_sub (a := m1) (b := st) (by omega)) ?_
      refine m_istore_n F (lv' := [(1, .int (nI (m1 - st))), (0, .ref a)]) e_X7_advanceWord_110 (by decide) rfl ?_
      exact lp_X7_advanceWordE_111 F hQ hk hp0 hp1 hR hB hn7 hsd htp htd hbk hgb hM (6 - (m1 - st) + 1) (m1 - st) m1 v1 _ h1 ⟨⟨rd4416, rd4417, rd4418, rd4419, rd4420, rd4421, rd4422, rd4423, rd4424, rd4425, rd4426, rd4427, rd4428⟩, ⟨hi.2.2.1.trans (sc_stop (by first | exact Or.inl (by omega) | exact Or.inr (by unfold isL; simp; omega))), by omega, by omega, hi.2.2.2.1, hi.2.2.2.2.1, Nat.le_refl _, by omega⟩⟩ (Nat.lt_succ_self _)
    · have c13 : m1 < n := by have hh := mt (nI_leI (a := n) (b := m1) (by omega) (by omega)).mpr q13; omega
      refine m_aload_n F rfl e_X7_advanceWord_16 ?_
      refine t_getC F e_X7_advanceWord_17 fl_X7_19 (fun _ => o3) h1 hk (rd4416) ?_
      refine m_aload_n F rfl e_X7_advanceWord_20 ?_
      refine t_getC F e_X7_advanceWord_21 fl_X7_42 (fun _ => o3) h1 hk (rd4420) ?_
      refine t_baldX F (j := m1) (tp := tp) e_X7_advanceWord_24 h1 htp (by decide) hB (nI_clamp (by omega)) (vp_in_nI (by omega) (by decide)) (by omega) (fun hb4429 => ?_)
      refine m_bipush F (v := 97) (by decide) e_X7_advanceWord_25 ?_
      refine m_icmp_lt F e_X7_advanceWord_27 (fun q27 => ?_) (fun q27 => ?_)
      · have c27 : t m1 < 97 ∨ 128 ≤ t m1 := (sx_lt (c := t m1) (k := 97) (by omega) (by omega)).mp q27
        refine m_aload_n F rfl e_X7_advanceWord_101 ?_
        refine t_getC F e_X7_advanceWord_102 fl_X7_42 (fun _ => o3) h1 hk (rd4420) ?_
        refine m_aload_n F rfl e_X7_advanceWord_105 ?_
        refine t_getC F e_X7_advanceWord_106 fl_X7_188 (fun _ => o3) h1 hk (rd4421) ?_
        refine m_isub F e_X7_advanceWord_109 ?_
        refine Wm.topE (w := nI (m1 - st)) (pk_sub (a := m1) (b := st) (by omega)) ?_
        refine m_istore_n F (lv' := [(1, .int (nI (m1 - st))), (0, .ref a)]) e_X7_advanceWord_110 (by decide) rfl ?_
        exact lp_X7_advanceWordE_111 F hQ hk hp0 hp1 hR hB hn7 hsd htp htd hbk hgb hM (6 - (m1 - st) + 1) (m1 - st) m1 v1 _ h1 ⟨⟨rd4416, rd4417, rd4418, rd4419, rd4420, rd4421, rd4422, rd4423, rd4424, rd4425, rd4426, rd4427, rd4428⟩, ⟨hi.2.2.1.trans (sc_stop (by first | exact Or.inl (by omega) | exact Or.inr (by unfold isL; simp; omega))), by omega, by omega, hi.2.2.2.1, hi.2.2.2.2.1, Nat.le_refl _, by omega⟩⟩ (Nat.lt_succ_self _)
      · have c27 : ¬ (t m1 < 97 ∨ 128 ≤ t m1) := fun e => q27 ((sx_lt (c := t m1) (k := 97) (by omega) (by omega)).mpr e)
        refine m_aload_n F rfl e_X7_advanceWord_30 ?_
        refine t_getC F e_X7_advanceWord_31 fl_X7_19 (fun _ => o3) h1 hk (rd4416) ?_
        refine m_aload_n F rfl e_X7_advanceWord_34 ?_
        refine t_getC F e_X7_advanceWord_35 fl_X7_42 (fun _ => o3) h1 hk (rd4420) ?_
        refine t_baldX F (j := m1) (tp := tp) e_X7_advanceWord_38 h1 htp (by decide) hB (nI_clamp (by omega)) (vp_in_nI (by omega) (by decide)) (by omega) (fun hb4430 => ?_)
        refine m_bipush F (v := 122) (by decide) e_X7_advanceWord_39 ?_
        refine m_icmp_gt F e_X7_advanceWord_41 (fun q41 => ?_) (fun q41 => ?_)
        · have c41 : 122 < t m1 ∧ t m1 < 128 := (sx_gt (c := t m1) (k := 122) (by omega) (by omega)).mp q41
          refine m_aload_n F rfl e_X7_advanceWord_101 ?_
          refine t_getC F e_X7_advanceWord_102 fl_X7_42 (fun _ => o3) h1 hk (rd4420) ?_
          refine m_aload_n F rfl e_X7_advanceWord_105 ?_
          refine t_getC F e_X7_advanceWord_106 fl_X7_188 (fun _ => o3) h1 hk (rd4421) ?_
          refine m_isub F e_X7_advanceWord_109 ?_
          refine Wm.topE (w := nI (m1 - st)) (pk_sub (a := m1) (b := st) (by omega)) ?_
          refine m_istore_n F (lv' := [(1, .int (nI (m1 - st))), (0, .ref a)]) e_X7_advanceWord_110 (by decide) rfl ?_
          exact lp_X7_advanceWordE_111 F hQ hk hp0 hp1 hR hB hn7 hsd htp htd hbk hgb hM (6 - (m1 - st) + 1) (m1 - st) m1 v1 _ h1 ⟨⟨rd4416, rd4417, rd4418, rd4419, rd4420, rd4421, rd4422, rd4423, rd4424, rd4425, rd4426, rd4427, rd4428⟩, ⟨hi.2.2.1.trans (sc_stop (by first | exact Or.inl (by omega) | exact Or.inr (by unfold isL; simp; omega))), by omega, by omega, hi.2.2.2.1, hi.2.2.2.2.1, Nat.le_refl _, by omega⟩⟩ (Nat.lt_succ_self _)
        · have c41 : ¬ (122 < t m1 ∧ t m1 < 128) := fun e => q41 ((sx_gt (c := t m1) (k := 122) (by omega) (by omega)).mpr e)
          refine m_aload_n F rfl e_X7_advanceWord_44 ?_
          refine m_aload_n F rfl e_X7_advanceWord_45 ?_
          refine t_getC F e_X7_advanceWord_46 fl_X7_42 (fun _ => o3) h1 hk (rd4420) ?_
          refine m_aload_n F rfl e_X7_advanceWord_49 ?_
          refine t_getC F e_X7_advanceWord_50 fl_X7_188 (fun _ => o3) h1 hk (rd4421) ?_
          refine m_isub F e_X7_advanceWord_53 ?_
          refine Wm.topE (w := nI (m1 - st)) (pk_sub (a := m1) (b := st) (by omega)) ?_
          refine m_bipush F (v := 6) (by decide) e_X7_advanceWord_54 ?_
          refine m_icmp_ge F e_X7_advanceWord_56 (fun q56 => ?_) (fun q56 => ?_)
          · have c56 : (m1 - st) ≥ 6 := (nI_leI (a := 6) (b := (m1 - st)) (by omega) (by omega)).mp q56
            refine m_iconst F (v := (-1)) (by decide) e_X7_advanceWord_84 ?_
            refine t_put F e_X7_advanceWord_85 fp_X7_70 (fun _ => o3) h1 hk rfl ⟨_, rfl⟩ rfl rfl (by decide) (fun σ4431 h4432 g4433 g4434 f4435 => ?_)
            refine m_aload_n F rfl e_X7_advanceWord_88 ?_
            refine m_dup F rfl e_X7_advanceWord_89 ?_
            refine t_getC F e_X7_advanceWord_90 fl_X7_42 (fun _ => o3) h4432 hk ((g4434 4 (by decide)).trans rd4420) ?_
            refine m_iconst F (v := 1) (by decide) e_X7_advanceWord_93 ?_
            refine m_iadd F e_X7_advanceWord_94 ?_
            refine Wm.topE (w := nI (m1 + 1)) (nI_add m1 1) ?_
            refine t_put F e_X7_advanceWord_95 fp_X7_42 (fun _ => o3) h4432 hk rfl ⟨m1 + 1, (show m1 + 1 ≤ 700 by omega), rfl⟩ rfl rfl (by decide) (fun σ4436 h4437 g4438 g4439 f4440 => ?_)
            refine m_goto F e_X7_advanceWord_98 ?_
            exact lp_X7_advanceWordB_5 F hQ hk hp0 hp1 hR hB hn7 hsd htp htd hbk hgb hM (700 - (m1 + 1) + 1) (m1 + 1) _ h4437 ⟨⟨(g4439 0 (by decide)).trans ((g4434 0 (by decide)).trans rd4416), (g4439 1 (by decide)).trans ((g4434 1 (by decide)).trans rd4417), (g4439 2 (by decide)).trans ((g4434 2 (by decide)).trans rd4418), (g4439 3 (by decide)).trans ((g4434 3 (by decide)).trans rd4419), f4440, (g4439 5 (by decide)).trans ((g4434 5 (by decide)).trans rd4421), (g4439 6 (by decide)).trans ((g4434 6 (by decide)).trans rd4422), (g4439 7 (by decide)).trans f4435, (g4439 8 (by decide)).trans ((g4434 8 (by decide)).trans rd4424), (g4439 9 (by decide)).trans ((g4434 9 (by decide)).trans rd4425), (g4439 10 (by decide)).trans ((g4434 10 (by decide)).trans rd4426), (g4439 11 (by decide)).trans ((g4434 11 (by decide)).trans rd4427), (g4439 12 (by decide)).trans ((g4434 12 (by decide)).trans rd4428)⟩, ⟨by omega, by omega, by rw [hi.2.2.1]; exact sc_go (by omega) (by unfold isL; simp; omega)⟩⟩ (Nat.lt_succ_self _)
          · have c56 : (m1 - st) < 6 := by have hh := mt (nI_leI (a := 6) (b := (m1 - st)) (by omega) (by omega)).mpr q56; omega
            refine m_aload_n F rfl e_X7_advanceWord_59 ?_
            refine t_getC F e_X7_advanceWord_60 fl_X7_70 (fun _ => o3) h1 hk (rd4423) ?_
            refine m_bipush F (v := 32) (by decide) e_X7_advanceWord_63 ?_
            refine m_imul F e_X7_advanceWord_65 ?_
            refine Wm.topE (w := nI (v1 * 32)) (pk_mul v1 32) ?_
            refine m_aload_n F rfl e_X7_advanceWord_66 ?_
            refine t_getC F e_X7_advanceWord_67 fl_X7_19 (fun _ => o3) h1 hk (rd4416) ?_
            refine m_aload_n F rfl e_X7_advanceWord_70 ?_
            refine t_getC F e_X7_advanceWord_71 fl_X7_42 (fun _ => o3) h1 hk (rd4420) ?_
            refine t_baldX F (j := m1) (tp := tp) e_X7_advanceWord_74 h1 htp (by decide) hB (nI_clamp (by omega)) (vp_in_nI (by omega) (by decide)) (by omega) (fun hb4441 => ?_)
            refine Wm.topE (w := nI (t m1)) (sx_lo (by omega)) ?_
            refine m_iadd F e_X7_advanceWord_75 ?_
            refine Wm.topE (w := nI ((v1 * 32) + (t m1))) (nI_add (v1 * 32) (t m1)) ?_
            refine m_bipush F (v := 97) (by decide) e_X7_advanceWord_76 ?_
            refine m_isub F e_X7_advanceWord_78 ?_
            refine Wm.topE (w := nI (((v1 * 32) + (t m1)) - 97)) (pk_sub (a := (v1 * 32) + (t m1)) (b := 97) (by omega)) ?_
            refine m_iconst F (v := 1) (by decide) e_X7_advanceWord_79 ?_
            refine m_iadd F e_X7_advanceWord_80 ?_
            refine Wm.topE (w := nI (((v1 * 32) + (t m1)) - 97 + 1)) (nI_add (((v1 * 32) + (t m1)) - 97) 1) ?_
            refine m_goto F e_X7_advanceWord_81 ?_
            refine t_put F e_X7_advanceWord_85 fp_X7_70 (fun _ => o3) h1 hk rfl ⟨_, rfl⟩ rfl rfl (by decide) (fun σ4442 h4443 g4444 g4445 f4446 => ?_)
            refine m_aload_n F rfl e_X7_advanceWord_88 ?_
            refine m_dup F rfl e_X7_advanceWord_89 ?_
            refine t_getC F e_X7_advanceWord_90 fl_X7_42 (fun _ => o3) h4443 hk ((g4445 4 (by decide)).trans rd4420) ?_
            refine m_iconst F (v := 1) (by decide) e_X7_advanceWord_93 ?_
            refine m_iadd F e_X7_advanceWord_94 ?_
            refine Wm.topE (w := nI (m1 + 1)) (nI_add m1 1) ?_
            refine t_put F e_X7_advanceWord_95 fp_X7_42 (fun _ => o3) h4443 hk rfl ⟨m1 + 1, (show m1 + 1 ≤ 700 by omega), rfl⟩ rfl rfl (by decide) (fun σ4447 h4448 g4449 g4450 f4451 => ?_)
            refine m_goto F e_X7_advanceWord_98 ?_
            exact ih (m1 + 1) (((v1 * 32) + (t m1)) - 97 + 1) _ h4448 ⟨⟨(g4450 0 (by decide)).trans ((g4445 0 (by decide)).trans rd4416), (g4450 1 (by decide)).trans ((g4445 1 (by decide)).trans rd4417), (g4450 2 (by decide)).trans ((g4445 2 (by decide)).trans rd4418), (g4450 3 (by decide)).trans ((g4445 3 (by decide)).trans rd4419), f4451, (g4450 5 (by decide)).trans ((g4445 5 (by decide)).trans rd4421), (g4450 6 (by decide)).trans ((g4445 6 (by decide)).trans rd4422), (g4450 7 (by decide)).trans f4446, (g4450 8 (by decide)).trans ((g4445 8 (by decide)).trans rd4424), (g4450 9 (by decide)).trans ((g4445 9 (by decide)).trans rd4425), (g4450 10 (by decide)).trans ((g4445 10 (by decide)).trans rd4426), (g4450 11 (by decide)).trans ((g4445 11 (by decide)).trans rd4427), (g4450 12 (by decide)).trans ((g4445 12 (by decide)).trans rd4428)⟩, ⟨by omega, by omega, by rw [hi.2.2.1]; exact sc_go (by omega) (by unfold isL; simp; omega), by rw [nmc_at (by omega), ← hi.2.2.2.1]; omega, by rw [show m1 + 1 - st = (m1 - st) + 1 by omega, Nat.pow_succ]; omega, by omega⟩⟩ (by omega)
set_option maxRecDepth 20000 in
theorem s_X7_advanceWordE (l : Launch) (V : VX) (G : GH) (b M Z T N : Nat) (σ : Mem) (a : Nat) (tp : Nat) (td : Nat) (n : Nat) (bk : Nat) (nx : Nat) (st : Nat) (tk : Int32) (vl : Int32) (py : Nat) (sd : Nat) (ln : Nat) (ft : Int32) (pl : Int32) (t : Nat → Nat) (h0 : HT V G (b, M, Z, T) σ) (hk : kA b a = 3) (hp0 : nx = st) (hp1 : st ≤ 700) (hR : RD σ a tp td n bk nx st tk vl py sd ln ft pl) (hB : BY V σ tp n t) (hn7 : n ≤ 700) (hsd : sd ≤ 1) (htp : kA b tp = 2) (htd : kA b td = 4) (hbk : kA b bk = 7) (hgb : ¬ G.gd (blk (bk - b)) = 1) (hM : M + 0 ≤ 1000000000) : Ct l V yX7_advanceWord cX7_advanceWord 2 none 0 0 0 N σ [.ref a] (fun r τ => HK V G (b, M, Z, T) [0, 1, 2, 4, 5, 6, 7, 8, 9, 10, 11, 12, 13, 14, 15, 16, 17, 18, 19] σ τ ∧ RD τ a tp td n bk (sc isL t n st) st tk (if sc isL t n st - st ≤ 6 then nI (nmc t st (sc isL t n st) 6) else -1) py sd ln ft pl ∧ r = none) := by
  refine Ct.of (by decide) (Nat.le_of_ble_eq_true rfl) [(0, .ref a)] rfl (fun X hX F hQ => ?_)
  have h1 : HK V G (b, M, Z, T) [0, 1, 2, 4, 5, 6, 7, 8, 9, 10, 11, 12, 13, 14, 15, 16, 17, 18, 19] σ σ := HK.start h0
  have hrd4452 := hR
  obtain ⟨rd4452, rd4453, rd4454, rd4455, rd4456, rd4457, rd4458, rd4459, rd4460, rd4461, rd4462, rd4463, rd4464⟩ := hrd4452
  refine m_aload_n F rfl e_X7_advanceWord_0 ?_
  refine m_iconst F (v := 0) (by decide) e_X7_advanceWord_1 ?_
  refine t_put F e_X7_advanceWord_2 fp_X7_70 (fun _ => o3) h1 hk rfl ⟨_, rfl⟩ rfl rfl (by decide) (fun σ4465 h4466 g4467 g4468 f4469 => ?_)
  exact lp_X7_advanceWordE_5 F hQ hk hp0 hp1 hR hB hn7 hsd htp htd hbk hgb hM (700 - nx + 1) nx 0 _ h4466 ⟨⟨(g4468 0 (by decide)).trans rd4452, (g4468 1 (by decide)).trans rd4453, (g4468 2 (by decide)).trans rd4454, (g4468 3 (by decide)).trans rd4455, (g4468 4 (by decide)).trans rd4456, (g4468 5 (by decide)).trans rd4457, (g4468 6 (by decide)).trans rd4458, f4469, (g4468 8 (by decide)).trans rd4460, (g4468 9 (by decide)).trans rd4461, (g4468 10 (by decide)).trans rd4462, (g4468 11 (by decide)).trans rd4463, (g4468 12 (by decide)).trans rd4464⟩, ⟨by omega, by omega, by rw [hp0], by rw [hp0, Nat.sub_self]; rfl, by rw [hp0, Nat.sub_self]; decide, by omega⟩⟩ (Nat.lt_succ_self _)
theorem BY.keep {V : VX} {σ τ : Mem} {tp n : Nat} {t : Nat → Nat} (h : BY V σ tp n t) (e : τ tp = σ tp) : BY V τ tp n t := by
  obtain ⟨f, h1, h2⟩ := h
  exact ⟨f, e.trans h1, h2⟩
/-- a token as the class holds it -/
def CT (tk vl : Int32) (s v : Nat) : Prop := (s = 0 ∧ tk = 0) ∨ (s = 1 ∧ tk = 1 ∧ ∃ c, vl = nI c ∧ c < 1073741824 ∧ kix c = v ∧ v < 9) ∨ (s = 2 ∧ tk = 1 ∧ vl = nI v ∧ v < 1073741824 ∧ ¬ kix v < 9) ∨ (s = 3 ∧ tk = 2 ∧ ∃ w, w ≤ 1000000000 ∧ vl = nI w ∧ min w 10000000 = v) ∨ (s = 4 ∧ tk = 3) ∨ (s = 5 ∧ (tk = 1 ∧ vl = -1 ∨ tk = 4))
theorem nmc_b {t : Nat → Nat} {p e : Nat} (h : ∀ j, p + j < e → t (p + j) - 96 < 32) : ∀ k, nmc t p e k < 32 ^ k
  | 0 => Nat.zero_lt_one
  | k + 1 => by
    have h1 := nmc_b h k
    show nmc t p e k * 32 + (if p + k < e then _ else _) < _
    rw [Nat.pow_succ]
    split
    · have h2 := h k (by assumption); omega
    · omega
theorem scan_all {p : Nat → Bool} {t : Nat → Nat} : ∀ (f a i : Nat), a ≤ i → i < scan p t f a → p (t i) = true
  | 0, a, i, h1, h2 => absurd h2 (Nat.not_lt.mpr h1)
  | f + 1, a, i, h1, h2 => by
    have h3 : i < (if p (t a) then scan p t f (a + 1) else a) := h2
    by_cases ha : p (t a) = true
    · rw [if_pos ha] at h3
      by_cases e : i = a
      · rw [e]; exact ha
      · exact scan_all f (a + 1) i (by omega) h3
    · rw [if_neg ha] at h3; omega
theorem nmc_small {t : Nat → Nat} {n p : Nat} : nmc t p (sc isL t n p) 6 < 1073741824 := by
  refine nmc_b (fun j hj => ?_) 6
  have h1 := scan_all (p := isL) (t := t) (n - p) p (p + j) (by omega) hj
  unfold isL at h1
  simp at h1
  omega
theorem sc_in {p : Nat → Bool} {t : Nat → Nat} {n a : Nat} (h : a ≤ n) : a ≤ sc p t n a ∧ sc p t n a ≤ n := by
  have h1 := sc_le (p := p) (t := t) (n - a) a
  unfold sc; omega
set_option maxRecDepth 20000 in
theorem lp_X7_advanceE_0 {V : VX} {G : GH} {X : MX} {b M Z T N : Nat} {σ : Mem} {a : Nat} {tp : Nat} {td : Nat} {n : Nat} {bk : Nat} {nx : Nat} {st : Nat} {tk : Int32} {vl : Int32} {py : Nat} {sd : Nat} {ln : Nat} {ft : Int32} {pl : Int32} {t : Nat → Nat}  (F : Fx V X yX7_advance cX7_advance 1 none (rmd 1 0 0)) (hQ : Rt V X 0 0 N (fun r τ => HK V G (b, M, Z, T) [0, 1, 2, 4, 5, 6, 7, 8, 9, 10, 11, 12, 13, 14, 15, 16, 17, 18, 19] σ τ ∧ (∃ tk2 vl2, CT tk2 vl2 (tok t n nx).2.1 (tok t n nx).2.2.1 ∧ RD τ a tp td n bk (tok t n nx).2.2.2 (tok t n nx).1 tk2 vl2 py sd ln ft pl) ∧ r = none)) (hk : kA b a = 3) (hp0 : nx ≤ 700) (hR : RD σ a tp td n bk nx st tk vl py sd ln ft pl) (hB : BY V σ tp n t) (hn7 : n ≤ 700) (hsd : sd ≤ 1) (htp : kA b tp = 2) (htd : kA b td = 4) (hbk : kA b bk = 7) (hgb : ¬ G.gd (blk (bk - b)) = 1) (hM : M + 0 ≤ 1000000000)  : ∀ (fuel : Nat) (m1 : Nat) (τ : Mem), HK V G (b, M, Z, T) [0, 1, 2, 4, 5, 6, 7, 8, 9, 10, 11, 12, 13, 14, 15, 16, 17, 18, 19] σ τ → (RD τ a tp td n bk m1 st tk vl py sd ln ft pl ∧ m1 ≤ 700 ∧ sc isB t n nx = sc isB t n m1) → 700 - m1 < fuel → Wm V X 1 N τ 0 0 0 [(0, .ref a)] [] := by
  intro fuel
  induction fuel with
  | zero => intro m1 τ h1 hi hm; exact absurd hm (Nat.not_lt_zero _)
  | succ fuel ih =>
    intro m1 τ h1 hi hm
    obtain ⟨hR1, hi⟩ := hi
    have hrd4470 := hR1
    obtain ⟨rd4470, rd4471, rd4472, rd4473, rd4474, rd4475, rd4476, rd4477, rd4478, rd4479, rd4480, rd4481, rd4482⟩ := hrd4470
    refine m_aload_n F rfl e_X7_advance_0 ?_
    refine t_getC F e_X7_advance_1 fl_X7_42 (fun _ => o3) h1 hk (rd4474) ?_
    refine m_aload_n F rfl e_X7_advance_4 ?_
    refine t_getC F e_X7_advance_5 fl_X7_33 (fun _ => o3) h1 hk (rd4471) ?_
    refine m_icmp_ge F e_X7_advance_8 (fun q8 => ?_) (fun q8 => ?_)
    · have c8 : m1 ≥ n := (nI_leI (a := n) (b := m1) (by omega) (by omega)).mp q8
      refine m_aload_n F rfl e_X7_advance_52 ?_
      refine m_aload_n F rfl e_X7_advance_53 ?_
      refine t_getC F e_X7_advance_54 fl_X7_42 (fun _ => o3) h1 hk (rd4474) ?_
      refine t_put F e_X7_advance_57 fp_X7_188 (fun _ => o3) h1 hk rfl ⟨_, rfl⟩ rfl rfl (by decide) (fun σ4483 h4484 g4485 g4486 f4487 => ?_)
      refine m_aload_n F rfl e_X7_advance_60 ?_
      refine m_aload_n F rfl e_X7_advance_61 ?_
      refine m_aload_n F rfl e_X7_advance_62 ?_
      refine t_getC F e_X7_advance_63 fl_X7_42 (fun _ => o3) h4484 hk ((g4486 4 (by decide)).trans rd4474) ?_
      refine t_callV F e_X7_advance_66 (s_X7_tokenAtE (x_l X) V G b M Z T _ _ a m1 tp td n bk m1 m1 tk vl py sd ln ft pl t h4484.1 hk (by omega) ⟨(g4486 0 (by decide)).trans rd4470, (g4486 1 (by decide)).trans rd4471, (g4486 2 (by decide)).trans rd4472, (g4486 3 (by decide)).trans rd4473, (g4486 4 (by decide)).trans rd4474, f4487, (g4486 6 (by decide)).trans rd4476, (g4486 7 (by decide)).trans rd4477, (g4486 8 (by decide)).trans rd4478, (g4486 9 (by decide)).trans rd4479, (g4486 10 (by decide)).trans rd4480, (g4486 11 (by decide)).trans rd4481, (g4486 12 (by decide)).trans rd4482⟩ (hB.keep (h4484.2 tp (by rw [show kA _ tp = 2 from htp]; decide))) hn7 hsd htp htd hbk hgb (by omega)) cb_X7_tokenAt ml_X7_207 im_X7_tokenAt se_X7_tokenAt (fun _ => o3) h4484 hk rfl rfl (rest := [.ref a]) rfl (Nat.le_of_ble_eq_true rfl) ⟨Nat.le_of_ble_eq_true rfl, Nat.le_of_ble_eq_true rfl⟩ ⟨Nat.le_of_ble_eq_true rfl, Nat.le_of_ble_eq_true rfl⟩ (fun r σ4488 hp => ?_)
      obtain ⟨h4489, ⟨rd4491, rd4492, rd4493, rd4494, rd4495, rd4496, rd4497, rd4498, rd4499, rd4500, rd4501, rd4502, rd4503⟩, rfl⟩ := hp
      have h4490 := HK.trans h4484 h4489 (by decide)
      by_cases gk0 : n ≤ m1
      · rw [if_pos gk0]
        refine t_put F e_X7_advance_69 fp_X7_61 (fun _ => o3) h4490 hk rfl ⟨_, rfl⟩ rfl rfl (by decide) (fun σ4504 h4505 g4506 g4507 f4508 => ?_)
        refine m_aload_n F rfl e_X7_advance_72 ?_
        refine t_getC F e_X7_advance_73 fl_X7_61 (fun _ => o3) h4505 hk (f4508) ?_
        refine m_iconst F (v := 1) (by decide) e_X7_advance_76 ?_
        refine m_icmp_ne F e_X7_advance_77 (fun _ => ?_) (fun q => absurd q (by decide))
        refine m_aload_n F rfl e_X7_advance_87 ?_
        refine t_getC F e_X7_advance_88 fl_X7_61 (fun _ => o3) h4505 hk (f4508) ?_
        refine m_iconst F (v := 2) (by decide) e_X7_advance_91 ?_
        refine m_icmp_ne F e_X7_advance_92 (fun _ => ?_) (fun q => absurd q (by decide))
        refine m_aload_n F rfl e_X7_advance_102 ?_
        refine t_getC F e_X7_advance_103 fl_X7_61 (fun _ => o3) h4505 hk (f4508) ?_
        refine m_if_eq F e_X7_advance_106 (fun _ => ?_) (fun q => absurd (by decide) q)
        have e9 : sc isB t n nx = m1 := hi.2.trans (sc_stop (by first | exact Or.inl (by omega) | exact Or.inr (by unfold isB; simp; omega)))
        have et : tok t n nx = (m1, 0, 0, m1) := by unfold tok; simp only [e9]; rw [if_pos gk0]
        exact m_vret F hQ e_X7_advance_119 (⟨h4505, ⟨0, vl, by rw [et]; exact Or.inl ⟨rfl, rfl⟩, by rw [et]; exact ⟨(g4507 0 (by decide)).trans rd4491, (g4507 1 (by decide)).trans rd4492, (g4507 2 (by decide)).trans rd4493, (g4507 3 (by decide)).trans rd4494, (g4507 4 (by decide)).trans rd4495, (g4507 5 (by decide)).trans rd4496, f4508, (g4507 7 (by decide)).trans rd4498, (g4507 8 (by decide)).trans rd4499, (g4507 9 (by decide)).trans rd4500, (g4507 10 (by decide)).trans rd4501, (g4507 11 (by decide)).trans rd4502, (g4507 12 (by decide)).trans rd4503⟩⟩, rfl⟩)
      by_cases gk1 : isL (t m1) = true
      · rw [if_neg gk0, if_pos gk1]
        refine t_put F e_X7_advance_69 fp_X7_61 (fun _ => o3) h4490 hk rfl ⟨_, rfl⟩ rfl rfl (by decide) (fun σ4509 h4510 g4511 g4512 f4513 => ?_)
        refine m_aload_n F rfl e_X7_advance_72 ?_
        refine t_getC F e_X7_advance_73 fl_X7_61 (fun _ => o3) h4510 hk (f4513) ?_
        refine m_iconst F (v := 1) (by decide) e_X7_advance_76 ?_
        refine m_icmp_ne F e_X7_advance_77 (fun q => absurd (by decide) q) (fun _ => ?_)
        refine m_aload_n F rfl e_X7_advance_80 ?_
        refine t_callV F e_X7_advance_81 (s_X7_advanceWordE (x_l X) V G b M Z T _ _ a  tp td n bk m1 m1 1 vl py sd ln ft pl t h4510.1 hk rfl (by omega) ⟨(g4512 0 (by decide)).trans rd4491, (g4512 1 (by decide)).trans rd4492, (g4512 2 (by decide)).trans rd4493, (g4512 3 (by decide)).trans rd4494, (g4512 4 (by decide)).trans rd4495, (g4512 5 (by decide)).trans rd4496, f4513, (g4512 7 (by decide)).trans rd4498, (g4512 8 (by decide)).trans rd4499, (g4512 9 (by decide)).trans rd4500, (g4512 10 (by decide)).trans rd4501, (g4512 11 (by decide)).trans rd4502, (g4512 12 (by decide)).trans rd4503⟩ (hB.keep (h4510.2 tp (by rw [show kA _ tp = 2 from htp]; decide))) hn7 hsd htp htd hbk hgb (by omega)) cb_X7_advanceWord ml_X7_210 im_X7_advanceWord se_X7_advanceWord (fun _ => o3) h4510 hk rfl rfl (rest := []) rfl (Nat.le_of_ble_eq_true rfl) ⟨Nat.le_of_ble_eq_true rfl, Nat.le_of_ble_eq_true rfl⟩ ⟨Nat.le_of_ble_eq_true rfl, Nat.le_of_ble_eq_true rfl⟩ (fun r σ4514 hp => ?_)
        obtain ⟨h4515, ⟨rd4517, rd4518, rd4519, rd4520, rd4521, rd4522, rd4523, rd4524, rd4525, rd4526, rd4527, rd4528, rd4529⟩, rfl⟩ := hp
        have h4516 := HK.trans h4510 h4515 (by decide)
        refine m_goto F e_X7_advance_84 ?_
        have e9 : sc isB t n nx = m1 := hi.2.trans (sc_stop (by first | exact Or.inl (by omega) | exact Or.inr (by unfold isB; simp; omega)))
        by_cases g6 : sc isL t n m1 - m1 ≤ 6
        · by_cases gx : kix (nmc t m1 (sc isL t n m1) 6) < 9
          · have et : tok t n nx = (m1, 1, kix (nmc t m1 (sc isL t n m1) 6), sc isL t n m1) := by unfold tok; simp only [e9]; rw [if_neg gk0, if_pos gk1, if_pos g6, if_pos gx]
            exact m_vret F hQ e_X7_advance_119 (⟨h4516, ⟨1, nI (nmc t m1 (sc isL t n m1) 6), by rw [et]; exact Or.inr (Or.inl ⟨rfl, rfl, _, rfl, nmc_small, rfl, gx⟩), by rw [et]; rw [if_pos g6] at rd4524; exact ⟨rd4517, rd4518, rd4519, rd4520, rd4521, rd4522, rd4523, rd4524, rd4525, rd4526, rd4527, rd4528, rd4529⟩⟩, rfl⟩)
          · have et : tok t n nx = (m1, 2, nmc t m1 (sc isL t n m1) 6, sc isL t n m1) := by unfold tok; simp only [e9]; rw [if_neg gk0, if_pos gk1, if_pos g6, if_neg gx]
            exact m_vret F hQ e_X7_advance_119 (⟨h4516, ⟨1, nI (nmc t m1 (sc isL t n m1) 6), by rw [et]; exact Or.inr (Or.inr (Or.inl ⟨rfl, rfl, rfl, nmc_small, gx⟩)), by rw [et]; rw [if_pos g6] at rd4524; exact ⟨rd4517, rd4518, rd4519, rd4520, rd4521, rd4522, rd4523, rd4524, rd4525, rd4526, rd4527, rd4528, rd4529⟩⟩, rfl⟩)
        have et : tok t n nx = (m1, 5, 0, sc isL t n m1) := by unfold tok; simp only [e9]; rw [if_neg gk0, if_pos gk1, if_neg g6]
        rw [if_neg g6] at rd4524
        exact m_vret F hQ e_X7_advance_119 (⟨h4516, ⟨1, -1, by rw [et]; exact Or.inr (Or.inr (Or.inr (Or.inr (Or.inr ⟨rfl, Or.inl ⟨rfl, rfl⟩⟩)))), by rw [et]; exact ⟨rd4517, rd4518, rd4519, rd4520, rd4521, rd4522, rd4523, rd4524, rd4525, rd4526, rd4527, rd4528, rd4529⟩⟩, rfl⟩)
      by_cases gk2 : isD (t m1) = true
      · rw [if_neg gk0, if_neg gk1, if_pos gk2]
        refine t_put F e_X7_advance_69 fp_X7_61 (fun _ => o3) h4490 hk rfl ⟨_, rfl⟩ rfl rfl (by decide) (fun σ4530 h4531 g4532 g4533 f4534 => ?_)
        refine m_aload_n F rfl e_X7_advance_72 ?_
        refine t_getC F e_X7_advance_73 fl_X7_61 (fun _ => o3) h4531 hk (f4534) ?_
        refine m_iconst F (v := 1) (by decide) e_X7_advance_76 ?_
        refine m_icmp_ne F e_X7_advance_77 (fun _ => ?_) (fun q => absurd q (by decide))
        refine m_aload_n F rfl e_X7_advance_87 ?_
        refine t_getC F e_X7_advance_88 fl_X7_61 (fun _ => o3) h4531 hk (f4534) ?_
        refine m_iconst F (v := 2) (by decide) e_X7_advance_91 ?_
        refine m_icmp_ne F e_X7_advance_92 (fun q => absurd (by decide) q) (fun _ => ?_)
        refine m_aload_n F rfl e_X7_advance_95 ?_
        refine t_callV F e_X7_advance_96 (s_X7_advanceNumberE (x_l X) V G b M Z T _ _ a  tp td n bk m1 m1 2 vl py sd ln ft pl t h4531.1 hk rfl (by omega) ⟨(g4533 0 (by decide)).trans rd4491, (g4533 1 (by decide)).trans rd4492, (g4533 2 (by decide)).trans rd4493, (g4533 3 (by decide)).trans rd4494, (g4533 4 (by decide)).trans rd4495, (g4533 5 (by decide)).trans rd4496, f4534, (g4533 7 (by decide)).trans rd4498, (g4533 8 (by decide)).trans rd4499, (g4533 9 (by decide)).trans rd4500, (g4533 10 (by decide)).trans rd4501, (g4533 11 (by decide)).trans rd4502, (g4533 12 (by decide)).trans rd4503⟩ (hB.keep (h4531.2 tp (by rw [show kA _ tp = 2 from htp]; decide))) hn7 hsd htp htd hbk hgb (by omega)) cb_X7_advanceNumber ml_X7_213 im_X7_advanceNumber se_X7_advanceNumber (fun _ => o3) h4531 hk rfl rfl (rest := []) rfl (Nat.le_of_ble_eq_true rfl) ⟨Nat.le_of_ble_eq_true rfl, Nat.le_of_ble_eq_true rfl⟩ ⟨Nat.le_of_ble_eq_true rfl, Nat.le_of_ble_eq_true rfl⟩ (fun r σ4535 hp => ?_)
        obtain ⟨h4536, ⟨v9, hv9, ev9, rd4538, rd4539, rd4540, rd4541, rd4542, rd4543, rd4544, rd4545, rd4546, rd4547, rd4548, rd4549, rd4550⟩, rfl⟩ := hp
        have h4537 := HK.trans h4531 h4536 (by decide)
        refine m_goto F e_X7_advance_99 ?_
        have e9 : sc isB t n nx = m1 := hi.2.trans (sc_stop (by first | exact Or.inl (by omega) | exact Or.inr (by unfold isB; simp; omega)))
        have et : tok t n nx = (m1, 3, nuc t m1 (sc isD t n m1 - m1), sc isD t n m1) := by unfold tok; simp only [e9]; rw [if_neg gk0, if_neg gk1, if_pos gk2]
        exact m_vret F hQ e_X7_advance_119 (⟨h4537, ⟨2, nI v9, by rw [et]; exact Or.inr (Or.inr (Or.inr (Or.inl ⟨rfl, rfl, v9, hv9, rfl, ev9⟩))), by rw [et]; exact ⟨rd4538, rd4539, rd4540, rd4541, rd4542, rd4543, rd4544, rd4545, rd4546, rd4547, rd4548, rd4549, rd4550⟩⟩, rfl⟩)
      by_cases gk3 : t m1 = 59
      · rw [if_neg gk0, if_neg gk1, if_neg gk2, if_pos gk3]
        refine t_put F e_X7_advance_69 fp_X7_61 (fun _ => o3) h4490 hk rfl ⟨_, rfl⟩ rfl rfl (by decide) (fun σ4551 h4552 g4553 g4554 f4555 => ?_)
        refine m_aload_n F rfl e_X7_advance_72 ?_
        refine t_getC F e_X7_advance_73 fl_X7_61 (fun _ => o3) h4552 hk (f4555) ?_
        refine m_iconst F (v := 1) (by decide) e_X7_advance_76 ?_
        refine m_icmp_ne F e_X7_advance_77 (fun _ => ?_) (fun q => absurd q (by decide))
        refine m_aload_n F rfl e_X7_advance_87 ?_
        refine t_getC F e_X7_advance_88 fl_X7_61 (fun _ => o3) h4552 hk (f4555) ?_
        refine m_iconst F (v := 2) (by decide) e_X7_advance_91 ?_
        refine m_icmp_ne F e_X7_advance_92 (fun _ => ?_) (fun q => absurd q (by decide))
        refine m_aload_n F rfl e_X7_advance_102 ?_
        refine t_getC F e_X7_advance_103 fl_X7_61 (fun _ => o3) h4552 hk (f4555) ?_
        refine m_if_eq F e_X7_advance_106 (fun q => absurd q (by decide)) (fun _ => ?_)
        refine m_aload_n F rfl e_X7_advance_109 ?_
        refine m_dup F rfl e_X7_advance_110 ?_
        refine t_getC F e_X7_advance_111 fl_X7_42 (fun _ => o3) h4552 hk ((g4554 4 (by decide)).trans rd4495) ?_
        refine m_iconst F (v := 1) (by decide) e_X7_advance_114 ?_
        refine m_iadd F e_X7_advance_115 ?_
        refine Wm.topE (w := nI (m1 + 1)) (nI_add m1 1) ?_
        refine t_put F e_X7_advance_116 fp_X7_42 (fun _ => o3) h4552 hk rfl ⟨m1 + 1, (show m1 + 1 ≤ 700 by omega), rfl⟩ rfl rfl (by decide) (fun σ4556 h4557 g4558 g4559 f4560 => ?_)
        have e9 : sc isB t n nx = m1 := hi.2.trans (sc_stop (by first | exact Or.inl (by omega) | exact Or.inr (by unfold isB; simp; omega)))
        have et : tok t n nx = (m1, 4, 0, m1 + 1) := by unfold tok; simp only [e9]; rw [if_neg gk0, if_neg gk1, if_neg gk2, if_pos gk3]
        exact m_vret F hQ e_X7_advance_119 (⟨h4557, ⟨3, vl, by rw [et]; exact Or.inr (Or.inr (Or.inr (Or.inr (Or.inl ⟨rfl, rfl⟩)))), by rw [et]; exact ⟨(g4559 0 (by decide)).trans ((g4554 0 (by decide)).trans rd4491), (g4559 1 (by decide)).trans ((g4554 1 (by decide)).trans rd4492), (g4559 2 (by decide)).trans ((g4554 2 (by decide)).trans rd4493), (g4559 3 (by decide)).trans ((g4554 3 (by decide)).trans rd4494), f4560, (g4559 5 (by decide)).trans ((g4554 5 (by decide)).trans rd4496), (g4559 6 (by decide)).trans f4555, (g4559 7 (by decide)).trans ((g4554 7 (by decide)).trans rd4498), (g4559 8 (by decide)).trans ((g4554 8 (by decide)).trans rd4499), (g4559 9 (by decide)).trans ((g4554 9 (by decide)).trans rd4500), (g4559 10 (by decide)).trans ((g4554 10 (by decide)).trans rd4501), (g4559 11 (by decide)).trans ((g4554 11 (by decide)).trans rd4502), (g4559 12 (by decide)).trans ((g4554 12 (by decide)).trans rd4503)⟩⟩, rfl⟩)
      rw [if_neg gk0, if_neg gk1, if_neg gk2, if_neg gk3]
      refine t_put F e_X7_advance_69 fp_X7_61 (fun _ => o3) h4490 hk rfl ⟨_, rfl⟩ rfl rfl (by decide) (fun σ4561 h4562 g4563 g4564 f4565 => ?_)
      refine m_aload_n F rfl e_X7_advance_72 ?_
      refine t_getC F e_X7_advance_73 fl_X7_61 (fun _ => o3) h4562 hk (f4565) ?_
      refine m_iconst F (v := 1) (by decide) e_X7_advance_76 ?_
      refine m_icmp_ne F e_X7_advance_77 (fun _ => ?_) (fun q => absurd q (by decide))
      refine m_aload_n F rfl e_X7_advance_87 ?_
      refine t_getC F e_X7_advance_88 fl_X7_61 (fun _ => o3) h4562 hk (f4565) ?_
      refine m_iconst F (v := 2) (by decide) e_X7_advance_91 ?_
      refine m_icmp_ne F e_X7_advance_92 (fun _ => ?_) (fun q => absurd q (by decide))
      refine m_aload_n F rfl e_X7_advance_102 ?_
      refine t_getC F e_X7_advance_103 fl_X7_61 (fun _ => o3) h4562 hk (f4565) ?_
      refine m_if_eq F e_X7_advance_106 (fun q => absurd q (by decide)) (fun _ => ?_)
      refine m_aload_n F rfl e_X7_advance_109 ?_
      refine m_dup F rfl e_X7_advance_110 ?_
      refine t_getC F e_X7_advance_111 fl_X7_42 (fun _ => o3) h4562 hk ((g4564 4 (by decide)).trans rd4495) ?_
      refine m_iconst F (v := 1) (by decide) e_X7_advance_114 ?_
      refine m_iadd F e_X7_advance_115 ?_
      refine Wm.topE (w := nI (m1 + 1)) (nI_add m1 1) ?_
      refine t_put F e_X7_advance_116 fp_X7_42 (fun _ => o3) h4562 hk rfl ⟨m1 + 1, (show m1 + 1 ≤ 700 by omega), rfl⟩ rfl rfl (by decide) (fun σ4566 h4567 g4568 g4569 f4570 => ?_)
      have e9 : sc isB t n nx = m1 := hi.2.trans (sc_stop (by first | exact Or.inl (by omega) | exact Or.inr (by unfold isB; simp; omega)))
      have et : tok t n nx = (m1, 5, 0, m1 + 1) := by unfold tok; simp only [e9]; rw [if_neg gk0, if_neg gk1, if_neg gk2, if_neg gk3]
      exact m_vret F hQ e_X7_advance_119 (⟨h4567, ⟨4, vl, by rw [et]; exact Or.inr (Or.inr (Or.inr (Or.inr (Or.inr ⟨rfl, Or.inr rfl⟩)))), by rw [et]; exact ⟨(g4569 0 (by decide)).trans ((g4564 0 (by decide)).trans rd4491), (g4569 1 (by decide)).trans ((g4564 1 (by decide)).trans rd4492), (g4569 2 (by decide)).trans ((g4564 2 (by decide)).trans rd4493), (g4569 3 (by decide)).trans ((g4564 3 (by decide)).trans rd4494), f4570, (g4569 5 (by decide)).trans ((g4564 5 (by decide)).trans rd4496), (g4569 6 (by decide)).trans f4565, (g4569 7 (by decide)).trans ((g4564 7 (by decide)).trans rd4498), (g4569 8 (by decide)).trans ((g4564 8 (by decide)).trans rd4499), (g4569 9 (by decide)).trans ((g4564 9 (by decide)).trans rd4500), (g4569 10 (by decide)).trans ((g4564 10 (by decide)).trans rd4501), (g4569 11 (by decide)).trans ((g4564 11 (by decide)).trans rd4502), (g4569 12 (by decide)).trans ((g4564 12 (by decide)).trans rd4503)⟩⟩, rfl⟩)
    · have c8 : m1 < n := by have hh := mt (nI_leI (a := n) (b := m1) (by omega) (by omega)).mpr q8; omega
      refine m_aload_n F rfl e_X7_advance_11 ?_
      refine t_getC F e_X7_advance_12 fl_X7_19 (fun _ => o3) h1 hk (rd4470) ?_
      refine m_aload_n F rfl e_X7_advance_15 ?_
      refine t_getC F e_X7_advance_16 fl_X7_42 (fun _ => o3) h1 hk (rd4474) ?_
      refine t_baldX F (j := m1) (tp := tp) e_X7_advance_19 h1 htp (by decide) hB (nI_clamp (by omega)) (vp_in_nI (by omega) (by decide)) (by omega) (fun hb4571 => ?_)
      refine m_bipush F (v := 10) (by decide) e_X7_advance_20 ?_
      refine m_icmp_eq F e_X7_advance_22 (fun q22 => ?_) (fun q22 => ?_)
      · have c22 : t m1 = 10 := (sx_eq (c := t m1) (k := 10) (by omega) (by omega)).mp q22
        refine m_aload_n F rfl e_X7_advance_39 ?_
        refine m_dup F rfl e_X7_advance_40 ?_
        refine t_getC F e_X7_advance_41 fl_X7_42 (fun _ => o3) h1 hk (rd4474) ?_
        refine m_iconst F (v := 1) (by decide) e_X7_advance_44 ?_
        refine m_iadd F e_X7_advance_45 ?_
        refine Wm.topE (w := nI (m1 + 1)) (nI_add m1 1) ?_
        refine t_put F e_X7_advance_46 fp_X7_42 (fun _ => o3) h1 hk rfl ⟨m1 + 1, (show m1 + 1 ≤ 700 by omega), rfl⟩ rfl rfl (by decide) (fun σ4572 h4573 g4574 g4575 f4576 => ?_)
        refine m_goto F e_X7_advance_49 ?_
        exact ih (m1 + 1) _ h4573 ⟨⟨(g4575 0 (by decide)).trans rd4470, (g4575 1 (by decide)).trans rd4471, (g4575 2 (by decide)).trans rd4472, (g4575 3 (by decide)).trans rd4473, f4576, (g4575 5 (by decide)).trans rd4475, (g4575 6 (by decide)).trans rd4476, (g4575 7 (by decide)).trans rd4477, (g4575 8 (by decide)).trans rd4478, (g4575 9 (by decide)).trans rd4479, (g4575 10 (by decide)).trans rd4480, (g4575 11 (by decide)).trans rd4481, (g4575 12 (by decide)).trans rd4482⟩, ⟨by omega, by rw [hi.2]; exact sc_go (by omega) (by unfold isB; simp; omega)⟩⟩ (by omega)
      · have c22 : t m1 ≠ 10 := fun e => q22 ((sx_eq (c := t m1) (k := 10) (by omega) (by omega)).mpr e)
        refine m_aload_n F rfl e_X7_advance_25 ?_
        refine t_getC F e_X7_advance_26 fl_X7_19 (fun _ => o3) h1 hk (rd4470) ?_
        refine m_aload_n F rfl e_X7_advance_29 ?_
        refine t_getC F e_X7_advance_30 fl_X7_42 (fun _ => o3) h1 hk (rd4474) ?_
        refine t_baldX F (j := m1) (tp := tp) e_X7_advance_33 h1 htp (by decide) hB (nI_clamp (by omega)) (vp_in_nI (by omega) (by decide)) (by omega) (fun hb4577 => ?_)
        refine m_bipush F (v := 32) (by decide) e_X7_advance_34 ?_
        refine m_icmp_ne F e_X7_advance_36 (fun q36 => ?_) (fun q36 => ?_)
        · have c36 : t m1 ≠ 32 := fun e => q36 ((sx_eq (c := t m1) (k := 32) (by omega) (by omega)).mpr e)
          refine m_aload_n F rfl e_X7_advance_52 ?_
          refine m_aload_n F rfl e_X7_advance_53 ?_
          refine t_getC F e_X7_advance_54 fl_X7_42 (fun _ => o3) h1 hk (rd4474) ?_
          refine t_put F e_X7_advance_57 fp_X7_188 (fun _ => o3) h1 hk rfl ⟨_, rfl⟩ rfl rfl (by decide) (fun σ4578 h4579 g4580 g4581 f4582 => ?_)
          refine m_aload_n F rfl e_X7_advance_60 ?_
          refine m_aload_n F rfl e_X7_advance_61 ?_
          refine m_aload_n F rfl e_X7_advance_62 ?_
          refine t_getC F e_X7_advance_63 fl_X7_42 (fun _ => o3) h4579 hk ((g4581 4 (by decide)).trans rd4474) ?_
          refine t_callV F e_X7_advance_66 (s_X7_tokenAtE (x_l X) V G b M Z T _ _ a m1 tp td n bk m1 m1 tk vl py sd ln ft pl t h4579.1 hk (by omega) ⟨(g4581 0 (by decide)).trans rd4470, (g4581 1 (by decide)).trans rd4471, (g4581 2 (by decide)).trans rd4472, (g4581 3 (by decide)).trans rd4473, (g4581 4 (by decide)).trans rd4474, f4582, (g4581 6 (by decide)).trans rd4476, (g4581 7 (by decide)).trans rd4477, (g4581 8 (by decide)).trans rd4478, (g4581 9 (by decide)).trans rd4479, (g4581 10 (by decide)).trans rd4480, (g4581 11 (by decide)).trans rd4481, (g4581 12 (by decide)).trans rd4482⟩ (hB.keep (h4579.2 tp (by rw [show kA _ tp = 2 from htp]; decide))) hn7 hsd htp htd hbk hgb (by omega)) cb_X7_tokenAt ml_X7_207 im_X7_tokenAt se_X7_tokenAt (fun _ => o3) h4579 hk rfl rfl (rest := [.ref a]) rfl (Nat.le_of_ble_eq_true rfl) ⟨Nat.le_of_ble_eq_true rfl, Nat.le_of_ble_eq_true rfl⟩ ⟨Nat.le_of_ble_eq_true rfl, Nat.le_of_ble_eq_true rfl⟩ (fun r σ4583 hp => ?_)
          obtain ⟨h4584, ⟨rd4586, rd4587, rd4588, rd4589, rd4590, rd4591, rd4592, rd4593, rd4594, rd4595, rd4596, rd4597, rd4598⟩, rfl⟩ := hp
          have h4585 := HK.trans h4579 h4584 (by decide)
          by_cases gk0 : n ≤ m1
          · rw [if_pos gk0]
            refine t_put F e_X7_advance_69 fp_X7_61 (fun _ => o3) h4585 hk rfl ⟨_, rfl⟩ rfl rfl (by decide) (fun σ4599 h4600 g4601 g4602 f4603 => ?_)
            refine m_aload_n F rfl e_X7_advance_72 ?_
            refine t_getC F e_X7_advance_73 fl_X7_61 (fun _ => o3) h4600 hk (f4603) ?_
            refine m_iconst F (v := 1) (by decide) e_X7_advance_76 ?_
            refine m_icmp_ne F e_X7_advance_77 (fun _ => ?_) (fun q => absurd q (by decide))
            refine m_aload_n F rfl e_X7_advance_87 ?_
            refine t_getC F e_X7_advance_88 fl_X7_61 (fun _ => o3) h4600 hk (f4603) ?_
            refine m_iconst F (v := 2) (by decide) e_X7_advance_91 ?_
            refine m_icmp_ne F e_X7_advance_92 (fun _ => ?_) (fun q => absurd q (by decide))
            refine m_aload_n F rfl e_X7_advance_102 ?_
            refine t_getC F e_X7_advance_103 fl_X7_61 (fun _ => o3) h4600 hk (f4603) ?_
            refine m_if_eq F e_X7_advance_106 (fun _ => ?_) (fun q => absurd (by decide) q)
            have e9 : sc isB t n nx = m1 := hi.2.trans (sc_stop (by first | exact Or.inl (by omega) | exact Or.inr (by unfold isB; simp; omega)))
            have et : tok t n nx = (m1, 0, 0, m1) := by unfold tok; simp only [e9]; rw [if_pos gk0]
            exact m_vret F hQ e_X7_advance_119 (⟨h4600, ⟨0, vl, by rw [et]; exact Or.inl ⟨rfl, rfl⟩, by rw [et]; exact ⟨(g4602 0 (by decide)).trans rd4586, (g4602 1 (by decide)).trans rd4587, (g4602 2 (by decide)).trans rd4588, (g4602 3 (by decide)).trans rd4589, (g4602 4 (by decide)).trans rd4590, (g4602 5 (by decide)).trans rd4591, f4603, (g4602 7 (by decide)).trans rd4593, (g4602 8 (by decide)).trans rd4594, (g4602 9 (by decide)).trans rd4595, (g4602 10 (by decide)).trans rd4596, (g4602 11 (by decide)).trans rd4597, (g4602 12 (by decide)).trans rd4598⟩⟩, rfl⟩)
          by_cases gk1 : isL (t m1) = true
          · rw [if_neg gk0, if_pos gk1]
            refine t_put F e_X7_advance_69 fp_X7_61 (fun _ => o3) h4585 hk rfl ⟨_, rfl⟩ rfl rfl (by decide) (fun σ4604 h4605 g4606 g4607 f4608 => ?_)
            refine m_aload_n F rfl e_X7_advance_72 ?_
            refine t_getC F e_X7_advance_73 fl_X7_61 (fun _ => o3) h4605 hk (f4608) ?_
            refine m_iconst F (v := 1) (by decide) e_X7_advance_76 ?_
            refine m_icmp_ne F e_X7_advance_77 (fun q => absurd (by decide) q) (fun _ => ?_)
            refine m_aload_n F rfl e_X7_advance_80 ?_
            refine t_callV F e_X7_advance_81 (s_X7_advanceWordE (x_l X) V G b M Z T _ _ a  tp td n bk m1 m1 1 vl py sd ln ft pl t h4605.1 hk rfl (by omega) ⟨(g4607 0 (by decide)).trans rd4586, (g4607 1 (by decide)).trans rd4587, (g4607 2 (by decide)).trans rd4588, (g4607 3 (by decide)).trans rd4589, (g4607 4 (by decide)).trans rd4590, (g4607 5 (by decide)).trans rd4591, f4608, (g4607 7 (by decide)).trans rd4593, (g4607 8 (by decide)).trans rd4594, (g4607 9 (by decide)).trans rd4595, (g4607 10 (by decide)).trans rd4596, (g4607 11 (by decide)).trans rd4597, (g4607 12 (by decide)).trans rd4598⟩ (hB.keep (h4605.2 tp (by rw [show kA _ tp = 2 from htp]; decide))) hn7 hsd htp htd hbk hgb (by omega)) cb_X7_advanceWord ml_X7_210 im_X7_advanceWord se_X7_advanceWord (fun _ => o3) h4605 hk rfl rfl (rest := []) rfl (Nat.le_of_ble_eq_true rfl) ⟨Nat.le_of_ble_eq_true rfl, Nat.le_of_ble_eq_true rfl⟩ ⟨Nat.le_of_ble_eq_true rfl, Nat.le_of_ble_eq_true rfl⟩ (fun r σ4609 hp => ?_)
            obtain ⟨h4610, ⟨rd4612, rd4613, rd4614, rd4615, rd4616, rd4617, rd4618, rd4619, rd4620, rd4621, rd4622, rd4623, rd4624⟩, rfl⟩ := hp
            have h4611 := HK.trans h4605 h4610 (by decide)
            refine m_goto F e_X7_advance_84 ?_
            have e9 : sc isB t n nx = m1 := hi.2.trans (sc_stop (by first | exact Or.inl (by omega) | exact Or.inr (by unfold isB; simp; omega)))
            by_cases g6 : sc isL t n m1 - m1 ≤ 6
            · by_cases gx : kix (nmc t m1 (sc isL t n m1) 6) < 9
              · have et : tok t n nx = (m1, 1, kix (nmc t m1 (sc isL t n m1) 6), sc isL t n m1) := by unfold tok; simp only [e9]; rw [if_neg gk0, if_pos gk1, if_pos g6, if_pos gx]
                exact m_vret F hQ e_X7_advance_119 (⟨h4611, ⟨1, nI (nmc t m1 (sc isL t n m1) 6), by rw [et]; exact Or.inr (Or.inl ⟨rfl, rfl, _, rfl, nmc_small, rfl, gx⟩), by rw [et]; rw [if_pos g6] at rd4619; exact ⟨rd4612, rd4613, rd4614, rd4615, rd4616, rd4617, rd4618, rd4619, rd4620, rd4621, rd4622, rd4623, rd4624⟩⟩, rfl⟩)
              · have et : tok t n nx = (m1, 2, nmc t m1 (sc isL t n m1) 6, sc isL t n m1) := by unfold tok; simp only [e9]; rw [if_neg gk0, if_pos gk1, if_pos g6, if_neg gx]
                exact m_vret F hQ e_X7_advance_119 (⟨h4611, ⟨1, nI (nmc t m1 (sc isL t n m1) 6), by rw [et]; exact Or.inr (Or.inr (Or.inl ⟨rfl, rfl, rfl, nmc_small, gx⟩)), by rw [et]; rw [if_pos g6] at rd4619; exact ⟨rd4612, rd4613, rd4614, rd4615, rd4616, rd4617, rd4618, rd4619, rd4620, rd4621, rd4622, rd4623, rd4624⟩⟩, rfl⟩)
            have et : tok t n nx = (m1, 5, 0, sc isL t n m1) := by unfold tok; simp only [e9]; rw [if_neg gk0, if_pos gk1, if_neg g6]
            rw [if_neg g6] at rd4619
            exact m_vret F hQ e_X7_advance_119 (⟨h4611, ⟨1, -1, by rw [et]; exact Or.inr (Or.inr (Or.inr (Or.inr (Or.inr ⟨rfl, Or.inl ⟨rfl, rfl⟩⟩)))), by rw [et]; exact ⟨rd4612, rd4613, rd4614, rd4615, rd4616, rd4617, rd4618, rd4619, rd4620, rd4621, rd4622, rd4623, rd4624⟩⟩, rfl⟩)
          by_cases gk2 : isD (t m1) = true
          · rw [if_neg gk0, if_neg gk1, if_pos gk2]
            refine t_put F e_X7_advance_69 fp_X7_61 (fun _ => o3) h4585 hk rfl ⟨_, rfl⟩ rfl rfl (by decide) (fun σ4625 h4626 g4627 g4628 f4629 => ?_)
            refine m_aload_n F rfl e_X7_advance_72 ?_
            refine t_getC F e_X7_advance_73 fl_X7_61 (fun _ => o3) h4626 hk (f4629) ?_
            refine m_iconst F (v := 1) (by decide) e_X7_advance_76 ?_
            refine m_icmp_ne F e_X7_advance_77 (fun _ => ?_) (fun q => absurd q (by decide))
            refine m_aload_n F rfl e_X7_advance_87 ?_
            refine t_getC F e_X7_advance_88 fl_X7_61 (fun _ => o3) h4626 hk (f4629) ?_
            refine m_iconst F (v := 2) (by decide) e_X7_advance_91 ?_
            refine m_icmp_ne F e_X7_advance_92 (fun q => absurd (by decide) q) (fun _ => ?_)
            refine m_aload_n F rfl e_X7_advance_95 ?_
            refine t_callV F e_X7_advance_96 (s_X7_advanceNumberE (x_l X) V G b M Z T _ _ a  tp td n bk m1 m1 2 vl py sd ln ft pl t h4626.1 hk rfl (by omega) ⟨(g4628 0 (by decide)).trans rd4586, (g4628 1 (by decide)).trans rd4587, (g4628 2 (by decide)).trans rd4588, (g4628 3 (by decide)).trans rd4589, (g4628 4 (by decide)).trans rd4590, (g4628 5 (by decide)).trans rd4591, f4629, (g4628 7 (by decide)).trans rd4593, (g4628 8 (by decide)).trans rd4594, (g4628 9 (by decide)).trans rd4595, (g4628 10 (by decide)).trans rd4596, (g4628 11 (by decide)).trans rd4597, (g4628 12 (by decide)).trans rd4598⟩ (hB.keep (h4626.2 tp (by rw [show kA _ tp = 2 from htp]; decide))) hn7 hsd htp htd hbk hgb (by omega)) cb_X7_advanceNumber ml_X7_213 im_X7_advanceNumber se_X7_advanceNumber (fun _ => o3) h4626 hk rfl rfl (rest := []) rfl (Nat.le_of_ble_eq_true rfl) ⟨Nat.le_of_ble_eq_true rfl, Nat.le_of_ble_eq_true rfl⟩ ⟨Nat.le_of_ble_eq_true rfl, Nat.le_of_ble_eq_true rfl⟩ (fun r σ4630 hp => ?_)
            obtain ⟨h4631, ⟨v9, hv9, ev9, rd4633, rd4634, rd4635, rd4636, rd4637, rd4638, rd4639, rd4640, rd4641, rd4642, rd4643, rd4644, rd4645⟩, rfl⟩ := hp
            have h4632 := HK.trans h4626 h4631 (by decide)
            refine m_goto F e_X7_advance_99 ?_
            have e9 : sc isB t n nx = m1 := hi.2.trans (sc_stop (by first | exact Or.inl (by omega) | exact Or.inr (by unfold isB; simp; omega)))
            have et : tok t n nx = (m1, 3, nuc t m1 (sc isD t n m1 - m1), sc isD t n m1) := by unfold tok; simp only [e9]; rw [if_neg gk0, if_neg gk1, if_pos gk2]
            exact m_vret F hQ e_X7_advance_119 (⟨h4632, ⟨2, nI v9, by rw [et]; exact Or.inr (Or.inr (Or.inr (Or.inl ⟨rfl, rfl, v9, hv9, rfl, ev9⟩))), by rw [et]; exact ⟨rd4633, rd4634, rd4635, rd4636, rd4637, rd4638, rd4639, rd4640, rd4641, rd4642, rd4643, rd4644, rd4645⟩⟩, rfl⟩)
          by_cases gk3 : t m1 = 59
          · rw [if_neg gk0, if_neg gk1, if_neg gk2, if_pos gk3]
            refine t_put F e_X7_advance_69 fp_X7_61 (fun _ => o3) h4585 hk rfl ⟨_, rfl⟩ rfl rfl (by decide) (fun σ4646 h4647 g4648 g4649 f4650 => ?_)
            refine m_aload_n F rfl e_X7_advance_72 ?_
            refine t_getC F e_X7_advance_73 fl_X7_61 (fun _ => o3) h4647 hk (f4650) ?_
            refine m_iconst F (v := 1) (by decide) e_X7_advance_76 ?_
            refine m_icmp_ne F e_X7_advance_77 (fun _ => ?_) (fun q => absurd q (by decide))
            refine m_aload_n F rfl e_X7_advance_87 ?_
            refine t_getC F e_X7_advance_88 fl_X7_61 (fun _ => o3) h4647 hk (f4650) ?_
            refine m_iconst F (v := 2) (by decide) e_X7_advance_91 ?_
            refine m_icmp_ne F e_X7_advance_92 (fun _ => ?_) (fun q => absurd q (by decide))
            refine m_aload_n F rfl e_X7_advance_102 ?_
            refine t_getC F e_X7_advance_103 fl_X7_61 (fun _ => o3) h4647 hk (f4650) ?_
            refine m_if_eq F e_X7_advance_106 (fun q => absurd q (by decide)) (fun _ => ?_)
            refine m_aload_n F rfl e_X7_advance_109 ?_
            refine m_dup F rfl e_X7_advance_110 ?_
            refine t_getC F e_X7_advance_111 fl_X7_42 (fun _ => o3) h4647 hk ((g4649 4 (by decide)).trans rd4590) ?_
            refine m_iconst F (v := 1) (by decide) e_X7_advance_114 ?_
            refine m_iadd F e_X7_advance_115 ?_
            refine Wm.topE (w := nI (m1 + 1)) (nI_add m1 1) ?_
            refine t_put F e_X7_advance_116 fp_X7_42 (fun _ => o3) h4647 hk rfl ⟨m1 + 1, (show m1 + 1 ≤ 700 by omega), rfl⟩ rfl rfl (by decide) (fun σ4651 h4652 g4653 g4654 f4655 => ?_)
            have e9 : sc isB t n nx = m1 := hi.2.trans (sc_stop (by first | exact Or.inl (by omega) | exact Or.inr (by unfold isB; simp; omega)))
            have et : tok t n nx = (m1, 4, 0, m1 + 1) := by unfold tok; simp only [e9]; rw [if_neg gk0, if_neg gk1, if_neg gk2, if_pos gk3]
            exact m_vret F hQ e_X7_advance_119 (⟨h4652, ⟨3, vl, by rw [et]; exact Or.inr (Or.inr (Or.inr (Or.inr (Or.inl ⟨rfl, rfl⟩)))), by rw [et]; exact ⟨(g4654 0 (by decide)).trans ((g4649 0 (by decide)).trans rd4586), (g4654 1 (by decide)).trans ((g4649 1 (by decide)).trans rd4587), (g4654 2 (by decide)).trans ((g4649 2 (by decide)).trans rd4588), (g4654 3 (by decide)).trans ((g4649 3 (by decide)).trans rd4589), f4655, (g4654 5 (by decide)).trans ((g4649 5 (by decide)).trans rd4591), (g4654 6 (by decide)).trans f4650, (g4654 7 (by decide)).trans ((g4649 7 (by decide)).trans rd4593), (g4654 8 (by decide)).trans ((g4649 8 (by decide)).trans rd4594), (g4654 9 (by decide)).trans ((g4649 9 (by decide)).trans rd4595), (g4654 10 (by decide)).trans ((g4649 10 (by decide)).trans rd4596), (g4654 11 (by decide)).trans ((g4649 11 (by decide)).trans rd4597), (g4654 12 (by decide)).trans ((g4649 12 (by decide)).trans rd4598)⟩⟩, rfl⟩)
          rw [if_neg gk0, if_neg gk1, if_neg gk2, if_neg gk3]
          refine t_put F e_X7_advance_69 fp_X7_61 (fun _ => o3) h4585 hk rfl ⟨_, rfl⟩ rfl rfl (by decide) (fun σ4656 h4657 g4658 g4659 f4660 => ?_)
          refine m_aload_n F rfl e_X7_advance_72 ?_
          refine t_getC F e_X7_advance_73 fl_X7_61 (fun _ => o3) h4657 hk (f4660) ?_
          refine m_iconst F (v := 1) (by decide) e_X7_advance_76 ?_
          refine m_icmp_ne F e_X7_advance_77 (fun _ => ?_) (fun q => absurd q (by decide))
          refine m_aload_n F rfl e_X7_advance_87 ?_
          refine t_getC F e_X7_advance_88 fl_X7_61 (fun _ => o3) h4657 hk (f4660) ?_
          refine m_iconst F (v := 2) (by decide) e_X7_advance_91 ?_
          refine m_icmp_ne F e_X7_advance_92 (fun _ => ?_) (fun q => absurd q (by decide))
          refine m_aload_n F rfl e_X7_advance_102 ?_
          refine t_getC F e_X7_advance_103 fl_X7_61 (fun _ => o3) h4657 hk (f4660) ?_
          refine m_if_eq F e_X7_advance_106 (fun q => absurd q (by decide)) (fun _ => ?_)
          refine m_aload_n F rfl e_X7_advance_109 ?_
          refine m_dup F rfl e_X7_advance_110 ?_
          refine t_getC F e_X7_advance_111 fl_X7_42 (fun _ => o3) h4657 hk ((g4659 4 (by decide)).trans rd4590) ?_
          refine m_iconst F (v := 1) (by decide) e_X7_advance_114 ?_
          refine m_iadd F e_X7_advance_115 ?_
          refine Wm.topE (w := nI (m1 + 1)) (nI_add m1 1) ?_
          refine t_put F e_X7_advance_116 fp_X7_42 (fun _ => o3) h4657 hk rfl ⟨m1 + 1, (show m1 + 1 ≤ 700 by omega), rfl⟩ rfl rfl (by decide) (fun σ4661 h4662 g4663 g4664 f4665 => ?_)
          have e9 : sc isB t n nx = m1 := hi.2.trans (sc_stop (by first | exact Or.inl (by omega) | exact Or.inr (by unfold isB; simp; omega)))
          have et : tok t n nx = (m1, 5, 0, m1 + 1) := by unfold tok; simp only [e9]; rw [if_neg gk0, if_neg gk1, if_neg gk2, if_neg gk3]
          exact m_vret F hQ e_X7_advance_119 (⟨h4662, ⟨4, vl, by rw [et]; exact Or.inr (Or.inr (Or.inr (Or.inr (Or.inr ⟨rfl, Or.inr rfl⟩)))), by rw [et]; exact ⟨(g4664 0 (by decide)).trans ((g4659 0 (by decide)).trans rd4586), (g4664 1 (by decide)).trans ((g4659 1 (by decide)).trans rd4587), (g4664 2 (by decide)).trans ((g4659 2 (by decide)).trans rd4588), (g4664 3 (by decide)).trans ((g4659 3 (by decide)).trans rd4589), f4665, (g4664 5 (by decide)).trans ((g4659 5 (by decide)).trans rd4591), (g4664 6 (by decide)).trans f4660, (g4664 7 (by decide)).trans ((g4659 7 (by decide)).trans rd4593), (g4664 8 (by decide)).trans ((g4659 8 (by decide)).trans rd4594), (g4664 9 (by decide)).trans ((g4659 9 (by decide)).trans rd4595), (g4664 10 (by decide)).trans ((g4659 10 (by decide)).trans rd4596), (g4664 11 (by decide)).trans ((g4659 11 (by decide)).trans rd4597), (g4664 12 (by decide)).trans ((g4659 12 (by decide)).trans rd4598)⟩⟩, rfl⟩)
        · have c36 : t m1 = 32 := (sx_eq (c := t m1) (k := 32) (by omega) (by omega)).mp q36
          refine m_aload_n F rfl e_X7_advance_39 ?_
          refine m_dup F rfl e_X7_advance_40 ?_
          refine t_getC F e_X7_advance_41 fl_X7_42 (fun _ => o3) h1 hk (rd4474) ?_
          refine m_iconst F (v := 1) (by decide) e_X7_advance_44 ?_
          refine m_iadd F e_X7_advance_45 ?_
          refine Wm.topE (w := nI (m1 + 1)) (nI_add m1 1) ?_
          refine t_put F e_X7_advance_46 fp_X7_42 (fun _ => o3) h1 hk rfl ⟨m1 + 1, (show m1 + 1 ≤ 700 by omega), rfl⟩ rfl rfl (by decide) (fun σ4666 h4667 g4668 g4669 f4670 => ?_)
          refine m_goto F e_X7_advance_49 ?_
          exact ih (m1 + 1) _ h4667 ⟨⟨(g4669 0 (by decide)).trans rd4470, (g4669 1 (by decide)).trans rd4471, (g4669 2 (by decide)).trans rd4472, (g4669 3 (by decide)).trans rd4473, f4670, (g4669 5 (by decide)).trans rd4475, (g4669 6 (by decide)).trans rd4476, (g4669 7 (by decide)).trans rd4477, (g4669 8 (by decide)).trans rd4478, (g4669 9 (by decide)).trans rd4479, (g4669 10 (by decide)).trans rd4480, (g4669 11 (by decide)).trans rd4481, (g4669 12 (by decide)).trans rd4482⟩, ⟨by omega, by rw [hi.2]; exact sc_go (by omega) (by unfold isB; simp; omega)⟩⟩ (by omega)
set_option maxRecDepth 20000 in
theorem s_X7_advanceE (l : Launch) (V : VX) (G : GH) (b M Z T N : Nat) (σ : Mem) (a : Nat) (tp : Nat) (td : Nat) (n : Nat) (bk : Nat) (nx : Nat) (st : Nat) (tk : Int32) (vl : Int32) (py : Nat) (sd : Nat) (ln : Nat) (ft : Int32) (pl : Int32) (t : Nat → Nat) (h0 : HT V G (b, M, Z, T) σ) (hk : kA b a = 3) (hp0 : nx ≤ 700) (hR : RD σ a tp td n bk nx st tk vl py sd ln ft pl) (hB : BY V σ tp n t) (hn7 : n ≤ 700) (hsd : sd ≤ 1) (htp : kA b tp = 2) (htd : kA b td = 4) (hbk : kA b bk = 7) (hgb : ¬ G.gd (blk (bk - b)) = 1) (hM : M + 0 ≤ 1000000000) : Ct l V yX7_advance cX7_advance 1 none 1 0 0 N σ [.ref a] (fun r τ => HK V G (b, M, Z, T) [0, 1, 2, 4, 5, 6, 7, 8, 9, 10, 11, 12, 13, 14, 15, 16, 17, 18, 19] σ τ ∧ (∃ tk2 vl2, CT tk2 vl2 (tok t n nx).2.1 (tok t n nx).2.2.1 ∧ RD τ a tp td n bk (tok t n nx).2.2.2 (tok t n nx).1 tk2 vl2 py sd ln ft pl) ∧ r = none) := by
  refine Ct.of (by decide) (Nat.le_of_ble_eq_true rfl) [(0, .ref a)] rfl (fun X hX F hQ => ?_)
  have h1 : HK V G (b, M, Z, T) [0, 1, 2, 4, 5, 6, 7, 8, 9, 10, 11, 12, 13, 14, 15, 16, 17, 18, 19] σ σ := HK.start h0
  have hrd4671 := hR
  obtain ⟨rd4671, rd4672, rd4673, rd4674, rd4675, rd4676, rd4677, rd4678, rd4679, rd4680, rd4681, rd4682, rd4683⟩ := hrd4671
  exact lp_X7_advanceE_0 F hQ hk hp0 hR hB hn7 hsd htp htd hbk hgb hM (700 - nx + 1) nx _ h1 ⟨⟨rd4671, rd4672, rd4673, rd4674, rd4675, rd4676, rd4677, rd4678, rd4679, rd4680, rd4681, rd4682, rd4683⟩, ⟨by omega, rfl⟩⟩ (Nat.lt_succ_self _)
