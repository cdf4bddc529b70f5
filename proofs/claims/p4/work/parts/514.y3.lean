/-! what the reference holds of the text that it reads -/
def NR (σ : Mem) (c np no sd : Nat) : Prop := elI σ (c + 2) 6 = some (nI np) ∧ elI σ (c + 2) 8 = some (nI no) ∧ ∃ w, w ≤ 100000 ∧ elI σ (c + 2) 9 = some (nI w) ∧ (w = 0 ↔ sd = 0)
theorem NR.of {σ τ : Mem} {c np no sd : Nat} (h : NR σ c np no sd) (e : τ (c + 2) = σ (c + 2)) : NR τ c np no sd := by
  obtain ⟨h1, h2, w, h3, h4, h5⟩ := h
  exact ⟨(elI_eq e).trans h1, (elI_eq e).trans h2, w, h3, (elI_eq e).trans h4, h5⟩
def MR (σ : Mem) (c nl : Nat) (nm : Nat → Nat) : Prop := ∀ i, i < nl → nm i < 1073741824 ∧ elI σ (c + 3) (4 + i) = some (nI (nm i))
theorem MR.of {σ τ : Mem} {c nl : Nat} {nm : Nat → Nat} (h : MR σ c nl nm) (e : τ (c + 3) = σ (c + 3)) : MR τ c nl nm := fun i hi => ⟨(h i hi).1, (elI_eq e).trans (h i hi).2⟩
def mk2 (f : Nat → Bool) : Nat := (if f 0 then 1 else 0) + (if f 3 then 2 else 0)
def KR (σ : Mem) (c nl : Nat) (md : Nat → Nat → Bool) : Prop := ∀ i, i < nl → elI σ (c + 7) (4 + i) = some (nI (mk2 (md i)))
theorem KR.of {σ τ : Mem} {c nl : Nat} {md : Nat → Nat → Bool} (h : KR σ c nl md) (e : τ (c + 7) = σ (c + 7)) : KR τ c nl md := fun i hi => (elI_eq e).trans (h i hi)
def FR (σ : Mem) (c q b nl : Nat) (md : Nat → Nat → Bool) : Prop := ∀ i, i < nl → ∃ w, w ≤ 10000000 ∧ elI σ (c + q) (4 + i) = some (nI w) ∧ (w = 0 ↔ md i b = false)
theorem FR.of {σ τ : Mem} {c q b nl : Nat} {md : Nat → Nat → Bool} (h : FR σ c q b nl md) (e : τ (c + q) = σ (c + q)) : FR τ c q b nl md := fun i hi => by
  obtain ⟨w, h1, h2, h3⟩ := h i hi
  exact ⟨w, h1, (elI_eq e).trans h2, h3⟩
def QR (σ : Mem) (c nc lc : Nat) : Prop := nc = 0 ∧ lc = 0 ∨ 1 ≤ nc ∧ 1 ≤ lc ∧ lc ≤ 100 ∧ elI σ (c + 11) (7 + nc) = some (nI (lc - 1))
theorem QR.of {σ τ : Mem} {c nc lc : Nat} (h : QR σ c nc lc) (e : τ (c + 11) = σ (c + 11)) : QR τ c nc lc := by
  rcases h with h | ⟨h1, h2, h3, h4⟩
  · exact Or.inl h
  · exact Or.inr ⟨h1, h2, h3, (elI_eq e).trans h4⟩
def FM (σ : Mem) (c f p : Nat) : Prop := fld σ c 23 = some (.int (nI f)) ∧ fld σ c 24 = some (.int (nI p))
/-- the reference's reader, in a state without a fault -/
def MS (σ : Mem) (c n : Nat) (P : NP) : SS → Prop
  | (k, nl, nm, np, nc, lc, no, sd, md, ln) => ∃ so va fp, MT so va k.2.1 k.2.2.1 ∧ YD σ c n k.1 so va ln 0 fp ∧ (P.a = k.2.2.2 ∧ P.n5 = nl ∧ P.n7 = nc) ∧ NR σ c np no sd ∧ MR σ c nl nm ∧ KR σ c nl md ∧ FR σ c 8 1 nl md ∧ FR σ c 9 2 nl md ∧ QR σ c nc lc ∧ k.2.2.2 ≤ n ∧ k.1 ≤ n ∧ np ≤ 12 ∧ no ≤ 4 ∧ sd ≤ 1
def RM (σ : Mem) (c n : Nat) (P : NP) (o : RO) : Prop := match o with
  | .inl e => FM σ c e.1 e.2 ∧ 1 ≤ e.1 ∧ e.1 ≤ 4 ∧ e.2 ≤ n
  | .inr S => MS σ c n P S
theorem RM.l {σ : Mem} {c n f p : Nat} {P : NP} (h : fld σ c 23 = some (.int (nI f))) (h2 : fld σ c 24 = some (.int (nI p))) (h3 : 1 ≤ f) (h4 : f ≤ 4) (h5 : p ≤ n) : RM σ c n P (.inl (f, p)) := ⟨⟨h, h2⟩, h3, h4, h5⟩
theorem RM.r {σ : Mem} {c n : Nat} {P : NP} {k : Tk} {nl : Nat} {nm : Nat → Nat} {np nc lc no sd : Nat} {md : Nat → Nat → Bool} {ln : Nat} {so va fp : Int32} (h1 : MT so va k.2.1 k.2.2.1) (h2 : YD σ c n k.1 so va ln 0 fp) (ha : P.a = k.2.2.2) (h5 : P.n5 = nl) (h7 : P.n7 = nc) (hN : NR σ c np no sd) (hM : MR σ c nl nm) (hK : KR σ c nl md) (hF : FR σ c 8 1 nl md) (hG : FR σ c 9 2 nl md) (hQ : QR σ c nc lc) (b1 : k.2.2.2 ≤ n) (b2 : k.1 ≤ n) (b3 : np ≤ 12) (b4 : no ≤ 4) (b5 : sd ≤ 1) : RM σ c n P (.inr (k, nl, nm, np, nc, lc, no, sd, md, ln)) := ⟨so, va, fp, h1, h2, ⟨ha, h5, h7⟩, hN, hM, hK, hF, hG, hQ, b1, b2, b3, b4, b5⟩
theorem RM.to {σ τ : Mem} {c n : Nat} {P Q : NP} {o : RO} (h : RM σ c n P o) (e0 : ∀ j, fld τ c j = fld σ c j) (e2 : ∀ i, i ≠ 5 → i ≠ 7 → elI τ (c + 2) i = elI σ (c + 2) i) (e3 : τ (c + 3) = σ (c + 3)) (e7 : τ (c + 7) = σ (c + 7)) (e8 : τ (c + 8) = σ (c + 8)) (e9 : τ (c + 9) = σ (c + 9)) (e11 : τ (c + 11) = σ (c + 11)) (ha : Q.a = P.a) (h5 : Q.n5 = P.n5) (h7 : Q.n7 = P.n7) : RM τ c n Q o := by
  cases o with
  | inl e =>
    obtain ⟨⟨a1, a2⟩, a3⟩ := h
    exact ⟨⟨(e0 _).trans a1, (e0 _).trans a2⟩, a3⟩
  | inr S =>
    obtain ⟨k, nl, nm, np, nc, lc, no, sd, md, ln⟩ := S
    obtain ⟨so, va, fp, h1, ⟨y1, y2, y3, y4, y5, y6, y7⟩, ⟨p1, p2, p3⟩, ⟨n1, n2, w, n3, n4, n5⟩, hM, hK, hF, hG, hQ, b⟩ := h
    exact ⟨so, va, fp, h1, ⟨(e0 _).trans y1, (e0 _).trans y2, (e0 _).trans y3, (e0 _).trans y4, (e0 _).trans y5, (e0 _).trans y6, (e0 _).trans y7⟩, ⟨ha.trans p1, h5.trans p2, h7.trans p3⟩, ⟨(e2 6 (by decide) (by decide)).trans n1, (e2 8 (by decide) (by decide)).trans n2, w, n3, (e2 9 (by decide) (by decide)).trans n4, n5⟩, hM.of e3, hK.of e7, hF.of e8, hG.of e9, hQ.of e11, b⟩
theorem RM.g {σ τ : Mem} {c n : Nat} {P Q : NP} {o : RO} (h : RM σ c n P o) (g : ∀ x, x ≠ c + 10 → τ x = σ x) (ha : Q.a = P.a) (h5 : Q.n5 = P.n5) (h7 : Q.n7 = P.n7) : RM τ c n Q o :=
  h.to (fun j => fld_eq (g c (by omega))) (fun i _ _ => elI_eq (g (c + 2) (by omega))) (g _ (by omega)) (g _ (by omega)) (g _ (by omega)) (g _ (by omega)) (g _ (by omega)) ha h5 h7
theorem mk2_and {f : Nat → Bool} : ((nI (mk2 f) &&& 1 = 0) ↔ f 0 = false) ∧ ((nI (mk2 f) &&& 2 = 0) ↔ f 3 = false) := by
  have key : ∀ (b0 b3 : Bool), ((nI ((if b0 then 1 else 0) + (if b3 then 2 else 0)) &&& 1 = 0) ↔ b0 = false) ∧ ((nI ((if b0 then 1 else 0) + (if b3 then 2 else 0)) &&& 2 = 0) ↔ b3 = false) := by decide
  exact key (f 0) (f 3)
theorem mk2_or {f : Nat → Bool} : nI (mk2 f) ||| 1 = nI (mk2 (fun j => if j = 0 then true else f j)) ∧ nI (mk2 f) ||| 2 = nI (mk2 (fun j => if j = 3 then true else f j)) := by
  have key : ∀ (b0 b3 : Bool), nI ((if b0 then 1 else 0) + (if b3 then 2 else 0)) ||| 1 = nI (1 + (if b3 then 2 else 0)) ∧ nI ((if b0 then 1 else 0) + (if b3 then 2 else 0)) ||| 2 = nI ((if b0 then 1 else 0) + 2) := by decide
  exact key (f 0) (f 3)
theorem FR.upbL {σ : Mem} {c q b b' nl l : Nat} {md : Nat → Nat → Bool} (h : FR σ c q b nl md) (hb : b ≠ b') : FR σ c q b nl (upb md l b') := fun i hi => by
  obtain ⟨w, h1, h2, h3⟩ := h i hi
  refine ⟨w, h1, h2, ?_⟩
  rw [h3]
  unfold upb upm
  by_cases e : i = l
  · subst e; simp only [if_true, if_neg hb]
  · simp only [if_neg e]
theorem KR.upbL {σ : Mem} {c b' nl l : Nat} {md : Nat → Nat → Bool} (h : KR σ c nl md) (hb : b' ≠ 0) (hb3 : b' ≠ 3) : KR σ c nl (upb md l b') := fun i hi => by
  rw [h i hi]
  unfold upb upm mk2
  by_cases e : i = l
  · subst e; simp only [if_true, if_neg hb.symm, if_neg hb3.symm]
  · simp only [if_neg e]
theorem KR.put {σ τ : Mem} {c b nl l : Nat} {md : Nat → Nat → Bool} (h : KR σ c nl md) (e1 : elI τ (c + 7) (4 + l) = some (nI (mk2 (fun j => if j = b then true else md l j)))) (e2 : ∀ i, i ≠ 4 + l → elI τ (c + 7) i = elI σ (c + 7) i) : KR τ c nl (upb md l b) := fun i hi => by
  unfold upb upm
  by_cases e : i = l
  · subst e; simp only [if_true]; exact e1
  · simp only [if_neg e]; exact (e2 _ (by omega)).trans (h i hi)
theorem FR.put {σ τ : Mem} {c q b nl l w : Nat} {md : Nat → Nat → Bool} (h : FR σ c q b nl md) (hw : w ≤ 10000000) (hz : 1 ≤ w) (e1 : elI τ (c + q) (4 + l) = some (nI w)) (e2 : ∀ i, i ≠ 4 + l → elI τ (c + q) i = elI σ (c + q) i) : FR τ c q b nl (upb md l b) := fun i hi => by
  unfold upb upm
  by_cases e : i = l
  · subst e; simp only [if_true]; exact ⟨w, hw, e1, by omega, fun q => absurd q (by decide)⟩
  · simp only [if_neg e]
    obtain ⟨w, h1, h2, h3⟩ := h i hi
    exact ⟨w, h1, (e2 _ (by omega)).trans h2, h3⟩
theorem MR.put {σ τ : Mem} {c nl v : Nat} {nm : Nat → Nat} (h : MR σ c nl nm) (hv : v < 1073741824) (e1 : elI τ (c + 3) (4 + nl) = some (nI v)) (e2 : ∀ i, i ≠ 4 + nl → elI τ (c + 3) i = elI σ (c + 3) i) : MR τ c (nl + 1) (upn nm nl v) := fun i hi => by
  unfold upn
  by_cases e : i = nl
  · subst e; rw [if_pos rfl]; exact ⟨hv, e1⟩
  · rw [if_neg e]; exact ⟨(h i (by omega)).1, (e2 _ (by omega)).trans (h i (by omega)).2⟩
theorem KR.new {σ τ : Mem} {c nl : Nat} {md : Nat → Nat → Bool} (h : KR σ c nl md) (e1 : elI τ (c + 7) (4 + nl) = some (nI 0)) (e2 : ∀ i, i ≠ 4 + nl → elI τ (c + 7) i = elI σ (c + 7) i) : KR τ c (nl + 1) (upm md nl (fun _ => false)) := fun i hi => by
  unfold upm
  by_cases e : i = nl
  · subst e; rw [if_pos rfl]; exact e1
  · rw [if_neg e]; exact (e2 _ (by omega)).trans (h i (by omega))
theorem FR.new {σ τ : Mem} {c q b nl : Nat} {md : Nat → Nat → Bool} (h : FR σ c q b nl md) (e1 : elI τ (c + q) (4 + nl) = some (nI 0)) (e2 : ∀ i, i ≠ 4 + nl → elI τ (c + q) i = elI σ (c + q) i) : FR τ c q b (nl + 1) (upm md nl (fun _ => false)) := fun i hi => by
  unfold upm
  by_cases e : i = nl
  · subst e; rw [if_pos rfl]; exact ⟨0, by decide, e1, fun _ => rfl, fun _ => rfl⟩
  · rw [if_neg e]
    obtain ⟨w, h1, h2, h3⟩ := h i (by omega)
    exact ⟨w, h1, (e2 _ (by omega)).trans h2, h3⟩
theorem MT.w {so va : Int32} {s v : Nat} (h : MT so va s v) (e : s = 2) : so = 1 ∧ va = nI v ∧ v < 1073741824 := by
  rcases h with h | h | h | h | h | h
  · omega
  · omega
  · exact ⟨h.2.1, h.2.2.1, h.2.2.2⟩
  · omega
  · omega
  · omega
set_option maxRecDepth 20000 in
theorem q_X10_wrongG (l : Launch) (V : VX) (c T Z u h : Nat) (P : NP) (L : Nat → LQ) (N : Nat) (σ : Mem) (x901 : Int32) (ft : Int32) (h0 : HR V c ⟨T, Z, u, h, P, L⟩ σ) (hob : OKB L) (hP : OKP P) (hp0 : fld σ c 23 = some (.int ft)) (hp1 : ft ≠ 0) : Ct l V yX10_wrong cX10_wrong 2 none 0 0 0 N σ [.ref c, .int x901] (fun r τ => HS V c (⟨T, Z, u, h, P, L⟩ : RG) [0, 1, 2, 3, 4, 5, 6, 7, 8, 9, 10, 11, 12, 13, 14, 15, 16, 17, 18, 19, 20, 21, 22, 23] σ τ ∧ τ = σ ∧ r = none) := by
  refine Ct.of (by decide) (Nat.le_of_ble_eq_true rfl) [(0, .ref c), (1, .int x901)] rfl (fun X hX F hQ => ?_)
  have hPP := hP
  unfold OKP at hPP
  have h1 : HS V c ⟨T, Z, u, h, P, L⟩ [0, 1, 2, 3, 4, 5, 6, 7, 8, 9, 10, 11, 12, 13, 14, 15, 16, 17, 18, 19, 20, 21, 22, 23] σ σ := HS.start h0
  refine m_aload_n F rfl e_X10_wrong_0 ?_
  refine r_getC F e_X10_wrong_1 fl_X10_141 h1 (hp0) ?_
  refine m_if_eq F e_X10_wrong_4 (fun q4 => ?_) (fun q4 => ?_)
  · exact absurd q4 hp1
  · exact m_vret F hQ e_X10_wrong_7 (⟨h1, rfl, rfl⟩)
set_option maxRecDepth 20000 in
theorem q_X10_goOnG (l : Launch) (V : VX) (c T Z u h : Nat) (P : NP) (L : Nat → LQ) (N : Nat) (σ : Mem) (ft : Int32) (h0 : HR V c ⟨T, Z, u, h, P, L⟩ σ) (hob : OKB L) (hP : OKP P) (hp0 : fld σ c 23 = some (.int ft)) (hp1 : ft ≠ 0) : Ct l V yX10_goOn cX10_goOn 1 none 6 0 0 N σ [.ref c] (fun r τ => HS V c (⟨T, Z, u, h, P, L⟩ : RG) [0, 1, 2, 3, 4, 5, 6, 7, 8, 9, 10, 11, 12, 13, 14, 15, 16, 17, 18, 19, 20, 21, 22, 23] σ τ ∧ τ = σ ∧ r = none) := by
  refine Ct.of (by decide) (Nat.le_of_ble_eq_true rfl) [(0, .ref c)] rfl (fun X hX F hQ => ?_)
  have hPP := hP
  unfold OKP at hPP
  have h1 : HS V c ⟨T, Z, u, h, P, L⟩ [0, 1, 2, 3, 4, 5, 6, 7, 8, 9, 10, 11, 12, 13, 14, 15, 16, 17, 18, 19, 20, 21, 22, 23] σ σ := HS.start h0
  refine m_aload_n F rfl e_X10_goOn_0 ?_
  refine r_getC F e_X10_goOn_1 fl_X10_141 h1 (hp0) ?_
  refine m_if_ne F e_X10_goOn_4 (fun q4 => ?_) (fun q4 => ?_)
  · exact m_vret F hQ e_X10_goOn_11 (⟨h1, rfl, rfl⟩)
  · exact absurd q4 hp1
set_option maxRecDepth 20000 in
theorem q_X10_numeralG (l : Launch) (V : VX) (c T Z u h : Nat) (P : NP) (L : Nat → LQ) (N : Nat) (σ : Mem) (n901 : Nat) (n902 : Nat) (ft : Int32) (h0 : HR V c ⟨T, Z, u, h, P, L⟩ σ) (hob : OKB L) (hP : OKP P) (hn901 : n901 ≤ 10000000) (hn902 : n902 ≤ 10000000) (hp0 : fld σ c 23 = some (.int ft)) (hp1 : ft ≠ 0) : Ct l V yX10_numeral cX10_numeral 4 (some .int) 7 0 0 N σ [.ref c, .int (nI n901), .int (nI n902)] (fun r τ => HS V c (⟨T, Z, u, h, P, L⟩ : RG) [0, 1, 2, 3, 4, 5, 6, 7, 8, 9, 10, 11, 12, 13, 14, 15, 16, 17, 18, 19, 20, 21, 22, 23] σ τ ∧ τ = σ ∧ r = some (.int (nI n901))) := by
  refine Ct.of (by decide) (Nat.le_of_ble_eq_true rfl) [(0, .ref c), (1, .int (nI n901)), (2, .int (nI n902))] rfl (fun X hX F hQ => ?_)
  have hPP := hP
  unfold OKP at hPP
  have h1 : HS V c ⟨T, Z, u, h, P, L⟩ [0, 1, 2, 3, 4, 5, 6, 7, 8, 9, 10, 11, 12, 13, 14, 15, 16, 17, 18, 19, 20, 21, 22, 23] σ σ := HS.start h0
  refine m_aload_n F rfl e_X10_numeral_0 ?_
  refine r_getC F e_X10_numeral_1 fl_X10_141 h1 (hp0) ?_
  refine m_if_eq F e_X10_numeral_4 (fun q4 => ?_) (fun q4 => ?_)
  · exact absurd q4 hp1
  · refine m_iload_n F rfl e_X10_numeral_7 ?_
    exact m_iret F hQ e_X10_numeral_8 (⟨h1, rfl, rfl⟩)
set_option maxRecDepth 20000 in
theorem q_X10_atHandG (l : Launch) (V : VX) (c T Z u h : Nat) (P : NP) (L : Nat → LQ) (N : Nat) (σ : Mem) (ft : Int32) (h0 : HR V c ⟨T, Z, u, h, P, L⟩ σ) (hob : OKB L) (hP : OKP P) (hp0 : fld σ c 23 = some (.int ft)) (hp1 : ft ≠ 0) : Ct l V yX10_atHand cX10_atHand 2 (some .int) 7 0 0 N σ [.ref c] (fun r τ => HS V c (⟨T, Z, u, h, P, L⟩ : RG) [0, 1, 2, 3, 4, 5, 6, 7, 8, 9, 10, 11, 12, 13, 14, 15, 16, 17, 18, 19, 20, 21, 22, 23] σ τ ∧ τ = σ ∧ r = some (.int (nI 4))) := by
  refine Ct.of (by decide) (Nat.le_of_ble_eq_true rfl) [(0, .ref c)] rfl (fun X hX F hQ => ?_)
  have hPP := hP
  unfold OKP at hPP
  have h1 : HS V c ⟨T, Z, u, h, P, L⟩ [0, 1, 2, 3, 4, 5, 6, 7, 8, 9, 10, 11, 12, 13, 14, 15, 16, 17, 18, 19, 20, 21, 22, 23] σ σ := HS.start h0
  refine m_aload_n F rfl e_X10_atHand_0 ?_
  refine r_callV F e_X10_atHand_1 (q_X10_goOnG (x_l X) V c T Z u h P L _ _  ft h1.1 (hob) hP  (hp0) (by assumption)) cb_X10_goOn ml_X10_154 im_X10_goOn se_X10_goOn h1 rfl rfl (rest := []) rfl (Nat.le_of_ble_eq_true rfl) ⟨Nat.le_of_ble_eq_true rfl, Nat.le_of_ble_eq_true rfl⟩ ⟨Nat.le_of_ble_eq_true rfl, Nat.le_of_ble_eq_true rfl⟩ (fun r σ11592 hp => ?_)
  obtain ⟨h11593, hp⟩ := hp
  have h11594 := HS.trans h1 h11593 (by decide)
  obtain ⟨rfl, rfl⟩ := hp
  refine m_aload_n F rfl e_X10_atHand_4 ?_
  refine r_getC F e_X10_atHand_5 fl_X10_141 h11594 (hp0) ?_
  refine m_if_eq F e_X10_atHand_8 (fun q8 => ?_) (fun q8 => ?_)
  · exact absurd q8 hp1
  · refine m_iconst F (v := 4) (by decide) e_X10_atHand_11 ?_
    exact m_iret F hQ e_X10_atHand_12 (⟨h11594, rfl, rfl⟩)
set_option maxRecDepth 20000 in
theorem q_X10_wrongE (l : Launch) (V : VX) (c T Z u h : Nat) (P : NP) (L : Nat → LQ) (N : Nat) (σ : Mem) (n901 : Nat) (n st : Nat) (so va : Int32) (ln : Nat) (fp : Int32) (h0 : HR V c ⟨T, Z, u, h, P, L⟩ σ) (hob : OKB L) (hP : OKP P) (hn901 : n901 ≤ 4) (hp0 : YD σ c n st so va ln 0 fp) (hp1 : 1 ≤ n901) : Ct l V yX10_wrong cX10_wrong 2 none 0 0 0 N σ [.ref c, .int (nI n901)] (fun r τ => HS V c (⟨T, 0, u, h, P, L⟩ : RG) [0, 2, 3, 4, 5, 6, 7, 8, 9, 10, 11, 12, 13, 14, 15, 16, 17, 18, 19, 20, 21, 22, 23] σ τ ∧ YD τ c n st so va ln (nI n901) (nI st) ∧ r = none) := by
  refine Ct.of (by decide) (Nat.le_of_ble_eq_true rfl) [(0, .ref c), (1, .int (nI n901))] rfl (fun X hX F hQ => ?_)
  have hPP := hP
  unfold OKP at hPP
  have h1 : HS V c ⟨T, Z, u, h, P, L⟩ [0, 2, 3, 4, 5, 6, 7, 8, 9, 10, 11, 12, 13, 14, 15, 16, 17, 18, 19, 20, 21, 22, 23] σ σ := HS.start h0
  have hyd11595 := hp0
  obtain ⟨yd11595, yd11596, yd11597, yd11598, yd11599, yd11600, yd11601⟩ := hyd11595
  refine m_aload_n F rfl e_X10_wrong_0 ?_
  refine r_getC F e_X10_wrong_1 fl_X10_141 h1 (yd11600) ?_
  refine m_if_eq F e_X10_wrong_4 (fun _ => ?_) (fun q => absurd (by decide) q)
  refine m_aload_n F rfl e_X10_wrong_8 ?_
  refine m_iload_n F rfl e_X10_wrong_9 ?_
  refine r_put F (g' := (⟨T, 0, u, h, P, L⟩ : RG)) e_X10_wrong_10 fp_X10_141 h1 (by decide) ⟨_, (fun _ => (fun e => absurd (nI_inj9 (b := 0) (by omega) (by omega) e) (by omega))), rfl⟩ ctl_Z CR.ctl rfl rfl (by decide) (fun σ11602 h11603 g11604 g11605 f11606 => ?_)
  refine m_aload_n F rfl e_X10_wrong_13 ?_
  refine m_aload_n F rfl e_X10_wrong_14 ?_
  refine r_getC F e_X10_wrong_15 fl_X10_107 h11603 ((g11605 20 (by decide)).trans yd11597) ?_
  refine r_put F (g' := (⟨T, 0, u, h, P, L⟩ : RG)) e_X10_wrong_18 fp_X10_144 h11603 (by decide) ⟨_, rfl⟩ (fun _ _ _ _ q => q) (fun _ _ _ q => q) rfl rfl (by decide) (fun σ11607 h11608 g11609 g11610 f11611 => ?_)
  exact m_vret F hQ e_X10_wrong_21 (⟨h11608, ⟨((g11610 17 (by decide)).trans ((g11605 17 (by decide)).trans yd11595)), ((g11610 18 (by decide)).trans ((g11605 18 (by decide)).trans yd11596)), ((g11610 20 (by decide)).trans ((g11605 20 (by decide)).trans yd11597)), ((g11610 21 (by decide)).trans ((g11605 21 (by decide)).trans yd11598)), ((g11610 22 (by decide)).trans ((g11605 22 (by decide)).trans yd11599)), ((g11610 23 (by decide)).trans f11606), (f11611)⟩, rfl⟩)
set_option maxRecDepth 20000 in
theorem q_X10_goOnE (l : Launch) (V : VX) (c T Z u h : Nat) (P : NP) (L : Nat → LQ) (N : Nat) (σ : Mem) (n st : Nat) (so va : Int32) (ln : Nat) (fp : Int32) (t : Nat → Nat) (h0 : HR V c ⟨T, Z, u, h, P, L⟩ σ) (hob : OKB L) (hP : OKP P) (hp0 : YD σ c n st so va ln 0 fp) (hp1 : BR σ c n t) (hp2 : n ≤ 700) (hp3 : P.a ≤ n) : Ct l V yX10_goOn cX10_goOn 1 none 6 0 0 N σ [.ref c] (fun r τ => ∃ P9 : NP, OKP P9 ∧ RA P P9 ∧ P9.a = (tok t n P.a).2.2.2 ∧ (∃ so2 va2, MT so2 va2 (tok t n P.a).2.1 (tok t n P.a).2.2.1 ∧ YD τ c n (tok t n P.a).1 so2 va2 ln 0 fp) ∧ HS V c (⟨T, Z, u, h, P9, L⟩ : RG) [0, 2, 3, 4, 5, 6, 7, 8, 9, 10, 11, 12, 13, 14, 15, 16, 17, 18, 19, 20, 21, 22, 23] σ τ ∧ r = none) := by
  refine Ct.of (by decide) (Nat.le_of_ble_eq_true rfl) [(0, .ref c)] rfl (fun X hX F hQ => ?_)
  have hPP := hP
  unfold OKP at hPP
  have h1 : HS V c ⟨T, Z, u, h, P, L⟩ [0, 2, 3, 4, 5, 6, 7, 8, 9, 10, 11, 12, 13, 14, 15, 16, 17, 18, 19, 20, 21, 22, 23] σ σ := HS.start h0
  have hyd11612 := hp0
  obtain ⟨yd11612, yd11613, yd11614, yd11615, yd11616, yd11617, yd11618⟩ := hyd11612
  have hn7 := hp2
  refine m_aload_n F rfl e_X10_goOn_0 ?_
  refine r_getC F e_X10_goOn_1 fl_X10_141 h1 (yd11617) ?_
  refine m_if_ne F e_X10_goOn_4 (fun q => absurd (by decide) q) (fun _ => ?_)
  refine m_aload_n F rfl e_X10_goOn_7 ?_
  refine r_callV F e_X10_goOn_8 (q_X10_tokenE (x_l X) V c T Z u h P L _ _  n st so va ln 0 fp t h1.1 (hob) hP  ⟨(yd11612), (yd11613), (yd11614), (yd11615), (yd11616), (yd11617), (yd11618)⟩ hp1 hn7 (by omega)) cb_X10_token ml_X10_147 im_X10_token se_X10_token h1 rfl rfl (rest := []) rfl (Nat.le_of_ble_eq_true rfl) ⟨Nat.le_of_ble_eq_true rfl, Nat.le_of_ble_eq_true rfl⟩ ⟨Nat.le_of_ble_eq_true rfl, Nat.le_of_ble_eq_true rfl⟩ (fun r σ11619 hp => ?_)
  obtain ⟨P11622, oP11622, rP11622, pr11623, pr11624, h11620, hp⟩ := hp
  have h11621 := HS.trans h1 h11620 (by decide)
  have xP11622 := oP11622
  unfold OKP at xP11622
  unfold RA at rP11622
  have ga11625 := hp1.of (h11620.2 (c + 1) (by rw [kC_at (k := 1) (by decide)]; decide))
  obtain rfl := hp
  exact m_vret F hQ e_X10_goOn_11 (⟨P11622, oP11622, (by unfold RA; omega), pr11623, pr11624, h11621, rfl⟩)
set_option maxRecDepth 20000 in
theorem q_X10_numeralE (l : Launch) (V : VX) (c T Z u h : Nat) (P : NP) (L : Nat → LQ) (N : Nat) (σ : Mem) (n901 : Nat) (n902 : Nat) (n st : Nat) (so va : Int32) (ln : Nat) (fp : Int32) (t : Nat → Nat) (s9 v9 : Nat) (h0 : HR V c ⟨T, Z, u, h, P, L⟩ σ) (hob : OKB L) (hP : OKP P) (hn901 : n901 ≤ 9999999) (hn902 : n902 ≤ 9999999) (hp0 : YD σ c n st so va ln 0 fp) (hp1 : BR σ c n t) (hp2 : n ≤ 700) (hp3 : P.a ≤ n) (hp4 : MT so va s9 v9) : Ct l V yX10_numeral cX10_numeral 4 (some .int) 7 0 0 N σ [.ref c, .int (nI n901), .int (nI n902)] (fun r τ => ∃ P9 : NP, OKP P9 ∧ RA P P9 ∧ ((s9 = 3 ∧ n901 ≤ v9 ∧ v9 ≤ n902 ∧ P9.a = (tok t n P.a).2.2.2 ∧ (∃ so2 va2, MT so2 va2 (tok t n P.a).2.1 (tok t n P.a).2.2.1 ∧ YD τ c n (tok t n P.a).1 so2 va2 ln 0 fp) ∧ r = some (.int (nI v9))) ∨ (s9 ≠ 3 ∧ FM τ c 1 st ∧ r = some (.int (nI n901))) ∨ (s9 = 3 ∧ (v9 < n901 ∨ n902 < v9) ∧ FM τ c 2 st ∧ r = some (.int (nI n901)))) ∧ HS V c (⟨T, Z, u, h, P9, L⟩ : RG) [0, 2, 3, 4, 5, 6, 7, 8, 9, 10, 11, 12, 13, 14, 15, 16, 17, 18, 19, 20, 21, 22, 23] σ τ ∧ True) := by
  refine Ct.of (by decide) (Nat.le_of_ble_eq_true rfl) [(0, .ref c), (1, .int (nI n901)), (2, .int (nI n902))] rfl (fun X hX F hQ => ?_)
  have hPP := hP
  unfold OKP at hPP
  have h1 : HS V c ⟨T, Z, u, h, P, L⟩ [0, 2, 3, 4, 5, 6, 7, 8, 9, 10, 11, 12, 13, 14, 15, 16, 17, 18, 19, 20, 21, 22, 23] σ σ := HS.start h0
  have hyd11626 := hp0
  obtain ⟨yd11626, yd11627, yd11628, yd11629, yd11630, yd11631, yd11632⟩ := hyd11626
  have hn7 := hp2
  refine m_aload_n F rfl e_X10_numeral_0 ?_
  refine r_getC F e_X10_numeral_1 fl_X10_141 h1 (yd11631) ?_
  refine m_if_eq F e_X10_numeral_4 (fun _ => ?_) (fun q => absurd (by decide) q)
  refine m_aload_n F rfl e_X10_numeral_9 ?_
  have hmt := hp4
  rcases hmt with ⟨rfl, rfl⟩ | ⟨rfl, rfl, rfl, hv9⟩ | ⟨rfl, rfl, rfl, hv9⟩ | ⟨rfl, rfl, w9, hw9, rfl, hm9⟩ | ⟨rfl, rfl⟩ | ⟨rfl, rfl⟩
  · refine r_getC F e_X10_numeral_10 fl_X10_110 h1 (yd11629) ?_
    refine m_iconst F (v := 2) (by decide) e_X10_numeral_13 ?_
    refine m_icmp_eq F e_X10_numeral_14 (fun q => absurd q (by decide)) (fun _ => ?_)
    refine m_aload_n F rfl e_X10_numeral_17 ?_
    refine m_iconst F (v := 1) (by decide) e_X10_numeral_18 ?_
    refine r_callV F e_X10_numeral_19 (q_X10_wrongE (x_l X) V c T Z u h P L _ _ 1 n st 4 va ln fp h1.1 (hob) hP (by omega) ⟨(yd11626), (yd11627), (yd11628), (yd11629), (yd11630), (yd11631), (yd11632)⟩ (by decide)) cb_X10_wrong ml_X10_150 im_X10_wrong se_X10_wrong h1 rfl rfl (rest := []) rfl (Nat.le_of_ble_eq_true rfl) ⟨Nat.le_of_ble_eq_true rfl, Nat.le_of_ble_eq_true rfl⟩ ⟨Nat.le_of_ble_eq_true rfl, Nat.le_of_ble_eq_true rfl⟩ (fun r σ11633 hp => ?_)
    obtain ⟨h11634, hp⟩ := hp
    have h11635 := HS.trans h1 h11634 (by decide)
    have ga11636 := hp1.of (h11634.2 (c + 1) (by rw [kC_at (k := 1) (by decide)]; decide))
    obtain ⟨hp, rfl⟩ := hp
    have hyd11637 := hp
    obtain ⟨yd11637, yd11638, yd11639, yd11640, yd11641, yd11642, yd11643⟩ := hyd11637
    refine m_goto F e_X10_numeral_22 ?_
    refine m_aload_n F rfl e_X10_numeral_46 ?_
    refine r_getC F e_X10_numeral_47 fl_X10_141 h11635 (yd11642) ?_
    refine m_if_ne F e_X10_numeral_50 (fun _ => ?_) (fun q => absurd q (by decide))
    refine m_iload_n F rfl e_X10_numeral_60 ?_
    refine m_istore_n F (lv' := [(3, .int (nI n901)), (0, .ref c), (1, .int (nI n901)), (2, .int (nI n902))]) e_X10_numeral_61 (by decide) rfl ?_
    refine m_aload_n F rfl e_X10_numeral_62 ?_
    refine r_callV F e_X10_numeral_63 (q_X10_goOnG (x_l X) V c T 0 u h P L _ _  1 h11635.1 (hob) hP  (yd11642) (by decide)) cb_X10_goOn ml_X10_154 im_X10_goOn se_X10_goOn h11635 rfl rfl (rest := []) rfl (Nat.le_of_ble_eq_true rfl) ⟨Nat.le_of_ble_eq_true rfl, Nat.le_of_ble_eq_true rfl⟩ ⟨Nat.le_of_ble_eq_true rfl, Nat.le_of_ble_eq_true rfl⟩ (fun r σ11644 hp => ?_)
    obtain ⟨h11645, hp⟩ := hp
    have h11646 := HS.trans h11635 h11645 (by decide)
    have ga11647 := ga11636.of (h11645.2 (c + 1) (by rw [kC_at (k := 1) (by decide)]; decide))
    obtain ⟨rfl, rfl⟩ := hp
    refine m_iload_n F rfl e_X10_numeral_66 ?_
    have h11648 : HS V c _ [0, 2, 3, 4, 5, 6, 7, 8, 9, 10, 11, 12, 13, 14, 15, 16, 17, 18, 19, 20, 21, 22, 23] _ _ := ⟨HR.mono (Z' := Z) (by intro e; first | rfl | assumption | omega) h11646.1, h11646.2⟩
    exact m_iret F hQ e_X10_numeral_67 (⟨P, hP, (by unfold RA; omega), (Or.inr (Or.inl ⟨by decide, ⟨yd11642, yd11643⟩, rfl⟩)), h11648, trivial⟩)
  · refine r_getC F e_X10_numeral_10 fl_X10_110 h1 (yd11629) ?_
    refine m_iconst F (v := 2) (by decide) e_X10_numeral_13 ?_
    refine m_icmp_eq F e_X10_numeral_14 (fun q => absurd q (by decide)) (fun _ => ?_)
    refine m_aload_n F rfl e_X10_numeral_17 ?_
    refine m_iconst F (v := 1) (by decide) e_X10_numeral_18 ?_
    refine r_callV F e_X10_numeral_19 (q_X10_wrongE (x_l X) V c T Z u h P L _ _ 1 n st 0 (nI v9) ln fp h1.1 (hob) hP (by omega) ⟨(yd11626), (yd11627), (yd11628), (yd11629), (yd11630), (yd11631), (yd11632)⟩ (by decide)) cb_X10_wrong ml_X10_150 im_X10_wrong se_X10_wrong h1 rfl rfl (rest := []) rfl (Nat.le_of_ble_eq_true rfl) ⟨Nat.le_of_ble_eq_true rfl, Nat.le_of_ble_eq_true rfl⟩ ⟨Nat.le_of_ble_eq_true rfl, Nat.le_of_ble_eq_true rfl⟩ (fun r σ11649 hp => ?_)
    obtain ⟨h11650, hp⟩ := hp
    have h11651 := HS.trans h1 h11650 (by decide)
    have ga11652 := hp1.of (h11650.2 (c + 1) (by rw [kC_at (k := 1) (by decide)]; decide))
    obtain ⟨hp, rfl⟩ := hp
    have hyd11653 := hp
    obtain ⟨yd11653, yd11654, yd11655, yd11656, yd11657, yd11658, yd11659⟩ := hyd11653
    refine m_goto F e_X10_numeral_22 ?_
    refine m_aload_n F rfl e_X10_numeral_46 ?_
    refine r_getC F e_X10_numeral_47 fl_X10_141 h11651 (yd11658) ?_
    refine m_if_ne F e_X10_numeral_50 (fun _ => ?_) (fun q => absurd q (by decide))
    refine m_iload_n F rfl e_X10_numeral_60 ?_
    refine m_istore_n F (lv' := [(3, .int (nI n901)), (0, .ref c), (1, .int (nI n901)), (2, .int (nI n902))]) e_X10_numeral_61 (by decide) rfl ?_
    refine m_aload_n F rfl e_X10_numeral_62 ?_
    refine r_callV F e_X10_numeral_63 (q_X10_goOnG (x_l X) V c T 0 u h P L _ _  1 h11651.1 (hob) hP  (yd11658) (by decide)) cb_X10_goOn ml_X10_154 im_X10_goOn se_X10_goOn h11651 rfl rfl (rest := []) rfl (Nat.le_of_ble_eq_true rfl) ⟨Nat.le_of_ble_eq_true rfl, Nat.le_of_ble_eq_true rfl⟩ ⟨Nat.le_of_ble_eq_true rfl, Nat.le_of_ble_eq_true rfl⟩ (fun r σ11660 hp => ?_)
    obtain ⟨h11661, hp⟩ := hp
    have h11662 := HS.trans h11651 h11661 (by decide)
    have ga11663 := ga11652.of (h11661.2 (c + 1) (by rw [kC_at (k := 1) (by decide)]; decide))
    obtain ⟨rfl, rfl⟩ := hp
    refine m_iload_n F rfl e_X10_numeral_66 ?_
    have h11664 : HS V c _ [0, 2, 3, 4, 5, 6, 7, 8, 9, 10, 11, 12, 13, 14, 15, 16, 17, 18, 19, 20, 21, 22, 23] _ _ := ⟨HR.mono (Z' := Z) (by intro e; first | rfl | assumption | omega) h11662.1, h11662.2⟩
    exact m_iret F hQ e_X10_numeral_67 (⟨P, hP, (by unfold RA; omega), (Or.inr (Or.inl ⟨by decide, ⟨yd11658, yd11659⟩, rfl⟩)), h11664, trivial⟩)
  · refine r_getC F e_X10_numeral_10 fl_X10_110 h1 (yd11629) ?_
    refine m_iconst F (v := 2) (by decide) e_X10_numeral_13 ?_
    refine m_icmp_eq F e_X10_numeral_14 (fun q => absurd q (by decide)) (fun _ => ?_)
    refine m_aload_n F rfl e_X10_numeral_17 ?_
    refine m_iconst F (v := 1) (by decide) e_X10_numeral_18 ?_
    refine r_callV F e_X10_numeral_19 (q_X10_wrongE (x_l X) V c T Z u h P L _ _ 1 n st 1 (nI v9) ln fp h1.1 (hob) hP (by omega) ⟨(yd11626), (yd11627), (yd11628), (yd11629), (yd11630), (yd11631), (yd11632)⟩ (by decide)) cb_X10_wrong ml_X10_150 im_X10_wrong se_X10_wrong h1 rfl rfl (rest := []) rfl (Nat.le_of_ble_eq_true rfl) ⟨Nat.le_of_ble_eq_true rfl, Nat.le_of_ble_eq_true rfl⟩ ⟨Nat.le_of_ble_eq_true rfl, Nat.le_of_ble_eq_true rfl⟩ (fun r σ11665 hp => ?_)
    obtain ⟨h11666, hp⟩ := hp
    have h11667 := HS.trans h1 h11666 (by decide)
    have ga11668 := hp1.of (h11666.2 (c + 1) (by rw [kC_at (k := 1) (by decide)]; decide))
    obtain ⟨hp, rfl⟩ := hp
    have hyd11669 := hp
    obtain ⟨yd11669, yd11670, yd11671, yd11672, yd11673, yd11674, yd11675⟩ := hyd11669
    refine m_goto F e_X10_numeral_22 ?_
    refine m_aload_n F rfl e_X10_numeral_46 ?_
    refine r_getC F e_X10_numeral_47 fl_X10_141 h11667 (yd11674) ?_
    refine m_if_ne F e_X10_numeral_50 (fun _ => ?_) (fun q => absurd q (by decide))
    refine m_iload_n F rfl e_X10_numeral_60 ?_
    refine m_istore_n F (lv' := [(3, .int (nI n901)), (0, .ref c), (1, .int (nI n901)), (2, .int (nI n902))]) e_X10_numeral_61 (by decide) rfl ?_
    refine m_aload_n F rfl e_X10_numeral_62 ?_
    refine r_callV F e_X10_numeral_63 (q_X10_goOnG (x_l X) V c T 0 u h P L _ _  1 h11667.1 (hob) hP  (yd11674) (by decide)) cb_X10_goOn ml_X10_154 im_X10_goOn se_X10_goOn h11667 rfl rfl (rest := []) rfl (Nat.le_of_ble_eq_true rfl) ⟨Nat.le_of_ble_eq_true rfl, Nat.le_of_ble_eq_true rfl⟩ ⟨Nat.le_of_ble_eq_true rfl, Nat.le_of_ble_eq_true rfl⟩ (fun r σ11676 hp => ?_)
    obtain ⟨h11677, hp⟩ := hp
    have h11678 := HS.trans h11667 h11677 (by decide)
    have ga11679 := ga11668.of (h11677.2 (c + 1) (by rw [kC_at (k := 1) (by decide)]; decide))
    obtain ⟨rfl, rfl⟩ := hp
    refine m_iload_n F rfl e_X10_numeral_66 ?_
    have h11680 : HS V c _ [0, 2, 3, 4, 5, 6, 7, 8, 9, 10, 11, 12, 13, 14, 15, 16, 17, 18, 19, 20, 21, 22, 23] _ _ := ⟨HR.mono (Z' := Z) (by intro e; first | rfl | assumption | omega) h11678.1, h11678.2⟩
    exact m_iret F hQ e_X10_numeral_67 (⟨P, hP, (by unfold RA; omega), (Or.inr (Or.inl ⟨by decide, ⟨yd11674, yd11675⟩, rfl⟩)), h11680, trivial⟩)
  · refine r_getC F e_X10_numeral_10 fl_X10_110 h1 (yd11629) ?_
    refine m_iconst F (v := 2) (by decide) e_X10_numeral_13 ?_
    refine m_icmp_eq F e_X10_numeral_14 (fun _ => ?_) (fun q => absurd (by decide) q)
    refine m_aload_n F rfl e_X10_numeral_25 ?_
    refine r_getC F e_X10_numeral_26 fl_X10_120 h1 (yd11630) ?_
    refine m_iload_n F rfl e_X10_numeral_29 ?_
    refine m_icmp_lt F e_X10_numeral_30 (fun q30 => ?_) (fun q30 => ?_)
    · have c30 : w9 < n901 := (nI_ltI (a := w9) (b := n901) (by omega) (by omega)).mp q30
      refine m_aload_n F rfl e_X10_numeral_41 ?_
      refine m_iconst F (v := 2) (by decide) e_X10_numeral_42 ?_
      refine r_callV F e_X10_numeral_43 (q_X10_wrongE (x_l X) V c T Z u h P L _ _ 2 n st 2 (nI w9) ln fp h1.1 (hob) hP (by omega) ⟨(yd11626), (yd11627), (yd11628), (yd11629), (yd11630), (yd11631), (yd11632)⟩ (by decide)) cb_X10_wrong ml_X10_150 im_X10_wrong se_X10_wrong h1 rfl rfl (rest := []) rfl (Nat.le_of_ble_eq_true rfl) ⟨Nat.le_of_ble_eq_true rfl, Nat.le_of_ble_eq_true rfl⟩ ⟨Nat.le_of_ble_eq_true rfl, Nat.le_of_ble_eq_true rfl⟩ (fun r σ11681 hp => ?_)
      obtain ⟨h11682, hp⟩ := hp
      have h11683 := HS.trans h1 h11682 (by decide)
      have ga11684 := hp1.of (h11682.2 (c + 1) (by rw [kC_at (k := 1) (by decide)]; decide))
      obtain ⟨hp, rfl⟩ := hp
      have hyd11685 := hp
      obtain ⟨yd11685, yd11686, yd11687, yd11688, yd11689, yd11690, yd11691⟩ := hyd11685
      refine m_aload_n F rfl e_X10_numeral_46 ?_
      refine r_getC F e_X10_numeral_47 fl_X10_141 h11683 (yd11690) ?_
      refine m_if_ne F e_X10_numeral_50 (fun _ => ?_) (fun q => absurd q (by decide))
      refine m_iload_n F rfl e_X10_numeral_60 ?_
      refine m_istore_n F (lv' := [(3, .int (nI n901)), (0, .ref c), (1, .int (nI n901)), (2, .int (nI n902))]) e_X10_numeral_61 (by decide) rfl ?_
      refine m_aload_n F rfl e_X10_numeral_62 ?_
      refine r_callV F e_X10_numeral_63 (q_X10_goOnG (x_l X) V c T 0 u h P L _ _  2 h11683.1 (hob) hP  (yd11690) (by decide)) cb_X10_goOn ml_X10_154 im_X10_goOn se_X10_goOn h11683 rfl rfl (rest := []) rfl (Nat.le_of_ble_eq_true rfl) ⟨Nat.le_of_ble_eq_true rfl, Nat.le_of_ble_eq_true rfl⟩ ⟨Nat.le_of_ble_eq_true rfl, Nat.le_of_ble_eq_true rfl⟩ (fun r σ11692 hp => ?_)
      obtain ⟨h11693, hp⟩ := hp
      have h11694 := HS.trans h11683 h11693 (by decide)
      have ga11695 := ga11684.of (h11693.2 (c + 1) (by rw [kC_at (k := 1) (by decide)]; decide))
      obtain ⟨rfl, rfl⟩ := hp
      refine m_iload_n F rfl e_X10_numeral_66 ?_
      have h11696 : HS V c _ [0, 2, 3, 4, 5, 6, 7, 8, 9, 10, 11, 12, 13, 14, 15, 16, 17, 18, 19, 20, 21, 22, 23] _ _ := ⟨HR.mono (Z' := Z) (by intro e; first | rfl | assumption | omega) h11694.1, h11694.2⟩
      exact m_iret F hQ e_X10_numeral_67 (⟨P, hP, (by unfold RA; omega), (Or.inr (Or.inr ⟨rfl, by omega, ⟨yd11690, yd11691⟩, rfl⟩)), h11696, trivial⟩)
    · have c30 : w9 ≥ n901 := by have hh := mt (nI_ltI (a := w9) (b := n901) (by omega) (by omega)).mpr q30; omega
      refine m_aload_n F rfl e_X10_numeral_33 ?_
      refine r_getC F e_X10_numeral_34 fl_X10_120 h1 (yd11630) ?_
      refine m_iload_n F rfl e_X10_numeral_37 ?_
      refine m_icmp_le F e_X10_numeral_38 (fun q38 => ?_) (fun q38 => ?_)
      · have c38 : w9 ≤ n902 := (nI_leI (a := w9) (b := n902) (by omega) (by omega)).mp q38
        refine m_aload_n F rfl e_X10_numeral_46 ?_
        refine r_getC F e_X10_numeral_47 fl_X10_141 h1 (yd11631) ?_
        refine m_if_ne F e_X10_numeral_50 (fun q => absurd (by decide) q) (fun _ => ?_)
        refine m_aload_n F rfl e_X10_numeral_53 ?_
        refine r_getC F e_X10_numeral_54 fl_X10_120 h1 (yd11630) ?_
        refine m_goto F e_X10_numeral_57 ?_
        refine m_istore_n F (lv' := [(3, .int (nI w9)), (0, .ref c), (1, .int (nI n901)), (2, .int (nI n902))]) e_X10_numeral_61 (by decide) rfl ?_
        refine m_aload_n F rfl e_X10_numeral_62 ?_
        refine r_callV F e_X10_numeral_63 (q_X10_goOnE (x_l X) V c T Z u h P L _ _  n st 2 (nI w9) ln fp t h1.1 (hob) hP  ⟨(yd11626), (yd11627), (yd11628), (yd11629), (yd11630), (yd11631), (yd11632)⟩ hp1 hn7 (by omega)) cb_X10_goOn ml_X10_154 im_X10_goOn se_X10_goOn h1 rfl rfl (rest := []) rfl (Nat.le_of_ble_eq_true rfl) ⟨Nat.le_of_ble_eq_true rfl, Nat.le_of_ble_eq_true rfl⟩ ⟨Nat.le_of_ble_eq_true rfl, Nat.le_of_ble_eq_true rfl⟩ (fun r σ11697 hp => ?_)
        obtain ⟨P11700, oP11700, rP11700, pr11701, pr11702, h11698, hp⟩ := hp
        have h11699 := HS.trans h1 h11698 (by decide)
        have xP11700 := oP11700
        unfold OKP at xP11700
        unfold RA at rP11700
        have ga11703 := hp1.of (h11698.2 (c + 1) (by rw [kC_at (k := 1) (by decide)]; decide))
        obtain rfl := hp
        refine m_iload_n F rfl e_X10_numeral_66 ?_
        have ew : w9 = v9 := by omega
        subst ew
        exact m_iret F hQ e_X10_numeral_67 (⟨P11700, oP11700, (by unfold RA; omega), (Or.inl ⟨rfl, by omega, by omega, pr11701, pr11702, rfl⟩), h11699, trivial⟩)
      · have c38 : w9 > n902 := by have hh := mt (nI_leI (a := w9) (b := n902) (by omega) (by omega)).mpr q38; omega
        refine m_aload_n F rfl e_X10_numeral_41 ?_
        refine m_iconst F (v := 2) (by decide) e_X10_numeral_42 ?_
        refine r_callV F e_X10_numeral_43 (q_X10_wrongE (x_l X) V c T Z u h P L _ _ 2 n st 2 (nI w9) ln fp h1.1 (hob) hP (by omega) ⟨(yd11626), (yd11627), (yd11628), (yd11629), (yd11630), (yd11631), (yd11632)⟩ (by decide)) cb_X10_wrong ml_X10_150 im_X10_wrong se_X10_wrong h1 rfl rfl (rest := []) rfl (Nat.le_of_ble_eq_true rfl) ⟨Nat.le_of_ble_eq_true rfl, Nat.le_of_ble_eq_true rfl⟩ ⟨Nat.le_of_ble_eq_true rfl, Nat.le_of_ble_eq_true rfl⟩ (fun r σ11704 hp => ?_)
        obtain ⟨h11705, hp⟩ := hp
        have h11706 := HS.trans h1 h11705 (by decide)
        have ga11707 := hp1.of (h11705.2 (c + 1) (by rw [kC_at (k := 1) (by decide)]; decide))
        obtain ⟨hp, rfl⟩ := hp
        have hyd11708 := hp
        obtain ⟨yd11708, yd11709, yd11710, yd11711, yd11712, yd11713, yd11714⟩ := hyd11708
        refine m_aload_n F rfl e_X10_numeral_46 ?_
        refine r_getC F e_X10_numeral_47 fl_X10_141 h11706 (yd11713) ?_
        refine m_if_ne F e_X10_numeral_50 (fun _ => ?_) (fun q => absurd q (by decide))
        refine m_iload_n F rfl e_X10_numeral_60 ?_
        refine m_istore_n F (lv' := [(3, .int (nI n901)), (0, .ref c), (1, .int (nI n901)), (2, .int (nI n902))]) e_X10_numeral_61 (by decide) rfl ?_
        refine m_aload_n F rfl e_X10_numeral_62 ?_
        refine r_callV F e_X10_numeral_63 (q_X10_goOnG (x_l X) V c T 0 u h P L _ _  2 h11706.1 (hob) hP  (yd11713) (by decide)) cb_X10_goOn ml_X10_154 im_X10_goOn se_X10_goOn h11706 rfl rfl (rest := []) rfl (Nat.le_of_ble_eq_true rfl) ⟨Nat.le_of_ble_eq_true rfl, Nat.le_of_ble_eq_true rfl⟩ ⟨Nat.le_of_ble_eq_true rfl, Nat.le_of_ble_eq_true rfl⟩ (fun r σ11715 hp => ?_)
        obtain ⟨h11716, hp⟩ := hp
        have h11717 := HS.trans h11706 h11716 (by decide)
        have ga11718 := ga11707.of (h11716.2 (c + 1) (by rw [kC_at (k := 1) (by decide)]; decide))
        obtain ⟨rfl, rfl⟩ := hp
        refine m_iload_n F rfl e_X10_numeral_66 ?_
        have h11719 : HS V c _ [0, 2, 3, 4, 5, 6, 7, 8, 9, 10, 11, 12, 13, 14, 15, 16, 17, 18, 19, 20, 21, 22, 23] _ _ := ⟨HR.mono (Z' := Z) (by intro e; first | rfl | assumption | omega) h11717.1, h11717.2⟩
        exact m_iret F hQ e_X10_numeral_67 (⟨P, hP, (by unfold RA; omega), (Or.inr (Or.inr ⟨rfl, by omega, ⟨yd11713, yd11714⟩, rfl⟩)), h11719, trivial⟩)
  · refine r_getC F e_X10_numeral_10 fl_X10_110 h1 (yd11629) ?_
    refine m_iconst F (v := 2) (by decide) e_X10_numeral_13 ?_
    refine m_icmp_eq F e_X10_numeral_14 (fun q => absurd q (by decide)) (fun _ => ?_)
    refine m_aload_n F rfl e_X10_numeral_17 ?_
    refine m_iconst F (v := 1) (by decide) e_X10_numeral_18 ?_
    refine r_callV F e_X10_numeral_19 (q_X10_wrongE (x_l X) V c T Z u h P L _ _ 1 n st 3 va ln fp h1.1 (hob) hP (by omega) ⟨(yd11626), (yd11627), (yd11628), (yd11629), (yd11630), (yd11631), (yd11632)⟩ (by decide)) cb_X10_wrong ml_X10_150 im_X10_wrong se_X10_wrong h1 rfl rfl (rest := []) rfl (Nat.le_of_ble_eq_true rfl) ⟨Nat.le_of_ble_eq_true rfl, Nat.le_of_ble_eq_true rfl⟩ ⟨Nat.le_of_ble_eq_true rfl, Nat.le_of_ble_eq_true rfl⟩ (fun r σ11720 hp => ?_)
    obtain ⟨h11721, hp⟩ := hp
    have h11722 := HS.trans h1 h11721 (by decide)
    have ga11723 := hp1.of (h11721.2 (c + 1) (by rw [kC_at (k := 1) (by decide)]; decide))
    obtain ⟨hp, rfl⟩ := hp
    have hyd11724 := hp
    obtain ⟨yd11724, yd11725, yd11726, yd11727, yd11728, yd11729, yd11730⟩ := hyd11724
    refine m_goto F e_X10_numeral_22 ?_
    refine m_aload_n F rfl e_X10_numeral_46 ?_
    refine r_getC F e_X10_numeral_47 fl_X10_141 h11722 (yd11729) ?_
    refine m_if_ne F e_X10_numeral_50 (fun _ => ?_) (fun q => absurd q (by decide))
    refine m_iload_n F rfl e_X10_numeral_60 ?_
    refine m_istore_n F (lv' := [(3, .int (nI n901)), (0, .ref c), (1, .int (nI n901)), (2, .int (nI n902))]) e_X10_numeral_61 (by decide) rfl ?_
    refine m_aload_n F rfl e_X10_numeral_62 ?_
    refine r_callV F e_X10_numeral_63 (q_X10_goOnG (x_l X) V c T 0 u h P L _ _  1 h11722.1 (hob) hP  (yd11729) (by decide)) cb_X10_goOn ml_X10_154 im_X10_goOn se_X10_goOn h11722 rfl rfl (rest := []) rfl (Nat.le_of_ble_eq_true rfl) ⟨Nat.le_of_ble_eq_true rfl, Nat.le_of_ble_eq_true rfl⟩ ⟨Nat.le_of_ble_eq_true rfl, Nat.le_of_ble_eq_true rfl⟩ (fun r σ11731 hp => ?_)
    obtain ⟨h11732, hp⟩ := hp
    have h11733 := HS.trans h11722 h11732 (by decide)
    have ga11734 := ga11723.of (h11732.2 (c + 1) (by rw [kC_at (k := 1) (by decide)]; decide))
    obtain ⟨rfl, rfl⟩ := hp
    refine m_iload_n F rfl e_X10_numeral_66 ?_
    have h11735 : HS V c _ [0, 2, 3, 4, 5, 6, 7, 8, 9, 10, 11, 12, 13, 14, 15, 16, 17, 18, 19, 20, 21, 22, 23] _ _ := ⟨HR.mono (Z' := Z) (by intro e; first | rfl | assumption | omega) h11733.1, h11733.2⟩
    exact m_iret F hQ e_X10_numeral_67 (⟨P, hP, (by unfold RA; omega), (Or.inr (Or.inl ⟨by decide, ⟨yd11729, yd11730⟩, rfl⟩)), h11735, trivial⟩)
  · refine r_getC F e_X10_numeral_10 fl_X10_110 h1 (yd11629) ?_
    refine m_iconst F (v := 2) (by decide) e_X10_numeral_13 ?_
    refine m_icmp_eq F e_X10_numeral_14 (fun q => absurd q (by decide)) (fun _ => ?_)
    refine m_aload_n F rfl e_X10_numeral_17 ?_
    refine m_iconst F (v := 1) (by decide) e_X10_numeral_18 ?_
    refine r_callV F e_X10_numeral_19 (q_X10_wrongE (x_l X) V c T Z u h P L _ _ 1 n st 5 va ln fp h1.1 (hob) hP (by omega) ⟨(yd11626), (yd11627), (yd11628), (yd11629), (yd11630), (yd11631), (yd11632)⟩ (by decide)) cb_X10_wrong ml_X10_150 im_X10_wrong se_X10_wrong h1 rfl rfl (rest := []) rfl (Nat.le_of_ble_eq_true rfl) ⟨Nat.le_of_ble_eq_true rfl, Nat.le_of_ble_eq_true rfl⟩ ⟨Nat.le_of_ble_eq_true rfl, Nat.le_of_ble_eq_true rfl⟩ (fun r σ11736 hp => ?_)
    obtain ⟨h11737, hp⟩ := hp
    have h11738 := HS.trans h1 h11737 (by decide)
    have ga11739 := hp1.of (h11737.2 (c + 1) (by rw [kC_at (k := 1) (by decide)]; decide))
    obtain ⟨hp, rfl⟩ := hp
    have hyd11740 := hp
    obtain ⟨yd11740, yd11741, yd11742, yd11743, yd11744, yd11745, yd11746⟩ := hyd11740
    refine m_goto F e_X10_numeral_22 ?_
    refine m_aload_n F rfl e_X10_numeral_46 ?_
    refine r_getC F e_X10_numeral_47 fl_X10_141 h11738 (yd11745) ?_
    refine m_if_ne F e_X10_numeral_50 (fun _ => ?_) (fun q => absurd q (by decide))
    refine m_iload_n F rfl e_X10_numeral_60 ?_
    refine m_istore_n F (lv' := [(3, .int (nI n901)), (0, .ref c), (1, .int (nI n901)), (2, .int (nI n902))]) e_X10_numeral_61 (by decide) rfl ?_
    refine m_aload_n F rfl e_X10_numeral_62 ?_
    refine r_callV F e_X10_numeral_63 (q_X10_goOnG (x_l X) V c T 0 u h P L _ _  1 h11738.1 (hob) hP  (yd11745) (by decide)) cb_X10_goOn ml_X10_154 im_X10_goOn se_X10_goOn h11738 rfl rfl (rest := []) rfl (Nat.le_of_ble_eq_true rfl) ⟨Nat.le_of_ble_eq_true rfl, Nat.le_of_ble_eq_true rfl⟩ ⟨Nat.le_of_ble_eq_true rfl, Nat.le_of_ble_eq_true rfl⟩ (fun r σ11747 hp => ?_)
    obtain ⟨h11748, hp⟩ := hp
    have h11749 := HS.trans h11738 h11748 (by decide)
    have ga11750 := ga11739.of (h11748.2 (c + 1) (by rw [kC_at (k := 1) (by decide)]; decide))
    obtain ⟨rfl, rfl⟩ := hp
    refine m_iload_n F rfl e_X10_numeral_66 ?_
    have h11751 : HS V c _ [0, 2, 3, 4, 5, 6, 7, 8, 9, 10, 11, 12, 13, 14, 15, 16, 17, 18, 19, 20, 21, 22, 23] _ _ := ⟨HR.mono (Z' := Z) (by intro e; first | rfl | assumption | omega) h11749.1, h11749.2⟩
    exact m_iret F hQ e_X10_numeral_67 (⟨P, hP, (by unfold RA; omega), (Or.inr (Or.inl ⟨by decide, ⟨yd11745, yd11746⟩, rfl⟩)), h11751, trivial⟩)
set_option maxRecDepth 20000 in
theorem lq_X10_namedAtE_3 {V : VX} {X : MX} {N : Nat} {σ : Mem} {c T Z u h : Nat} {P : NP} {L : Nat → LQ}  {n902 : Nat} {n903 : Nat} {nm : Nat → Nat} (F : Fx V X yX10_namedAt cX10_namedAt 5 (some .int) (rmd 0 0 0)) (hQ : Rt V X 0 0 N (fun r τ => HS V c (⟨T, Z, u, h, P, L⟩ : RG) [0, 1, 2, 3, 4, 5, 6, 7, 8, 9, 10, 11, 12, 13, 14, 15, 16, 17, 18, 19, 20, 21, 22, 23] σ τ ∧ ((fx nm n903 n902 < n902 ∧ r = some (.int (nI (fx nm n903 n902)))) ∨ (¬ fx nm n903 n902 < n902 ∧ r = some (.int (-1)))))) (hob : OKB L) (hP : OKP P) (hn902 : n902 ≤ 4) (hn903 : n903 ≤ 1073741823) (hp0 : MR σ c n902 nm)  : ∀ (fuel : Nat) (i : Nat) (τ : Mem), HS V c (⟨T, Z, u, h, P, L⟩ : RG) [0, 1, 2, 3, 4, 5, 6, 7, 8, 9, 10, 11, 12, 13, 14, 15, 16, 17, 18, 19, 20, 21, 22, 23] σ τ → i ≤ n902 ∧ (∀ j, j < i → nm j ≠ n903) ∧ fx nm n903 n902 = sc (fun c => c != n903) nm n902 i → n902 - i < fuel → Wm V X 5 N τ 0 0 3 [(0, .ref c), (1, .int 4), (2, .int (nI n902)), (3, .int (nI n903)), (4, .int (nI i))] [] := by
  intro fuel
  induction fuel with
  | zero => intros; rename_i hm; exact absurd hm (Nat.not_lt_zero _)
  | succ fuel ih =>
    intro i τ h1 hi hm
    have hPP := hP
    unfold OKP at hPP
    obtain ⟨i1, i2, i3⟩ := hi
    have hM1 := hp0.of (h1.2 (c + 3) (by rw [kC_at (k := 3) (by decide)]; decide))
    refine m_iload F rfl e_X10_namedAt_3 ?_
    refine m_iload_n F rfl e_X10_namedAt_5 ?_
    refine m_icmp_ge F e_X10_namedAt_6 (fun q6 => ?_) (fun q6 => ?_)
    · have c6 : i ≥ n902 := (nI_leI (a := n902) (b := i) (by omega) (by omega)).mp q6
      refine m_iconst F (v := (-1)) (by decide) e_X10_namedAt_31 ?_
      exact m_iret F hQ e_X10_namedAt_32 (⟨h1, Or.inr ⟨by rw [i3, sc_stop (Or.inl (by omega))]; omega, rfl⟩⟩)
    · have c6 : i < n902 := by have hh := mt (nI_leI (a := n902) (b := i) (by omega) (by omega)).mpr q6; omega
      refine m_aload_n F rfl e_X10_namedAt_9 ?_
      refine r_get F e_X10_namedAt_10 fl_X10_16 h1 rfl (fun v hv f11752 => ?_)
      obtain rfl : v = .ref (c + 3) := hv
      refine m_iload_n F rfl e_X10_namedAt_13 ?_
      refine m_iload F rfl e_X10_namedAt_14 ?_
      refine m_iadd F e_X10_namedAt_16 ?_
      refine Wm.topE (w := nI (4 + i)) (nI_add 4 i) ?_
      have hb9 := (hM1 i (by omega)).1
      refine r_iald F (len := 8) (j := 4 + i) e_X10_namedAt_17 h1 (fun _ h => h) (by decide) (nI_clamp (by omega)) (vp_in_nI (by omega) (by decide)) (fun x11753 h11754 f11755 => ?_)
      obtain rfl := Option.some.inj ((f11755).symm.trans ((hM1 i (by omega)).2))
      refine m_iload_n F rfl e_X10_namedAt_18 ?_
      refine m_icmp_ne F e_X10_namedAt_19 (fun q19 => ?_) (fun q19 => ?_)
      · have c19 : (nm i) ≠ n903 := by have hh := mt (nI_eq (a := (nm i)) (b := n903) (by omega) (by omega)).mpr q19; omega
        refine m_iinc F (v := nI (i + 1)) (lv' := [(4, .int (nI (i + 1))), (0, .ref c), (1, .int 4), (2, .int (nI n902)), (3, .int (nI n903))]) e_X10_namedAt_25 rfl (nI_add i 1) (by decide) rfl ?_
        refine m_goto F e_X10_namedAt_28 ?_
        refine Wm.lvsub (lv' := [(0, .ref c), (1, .int 4), (2, .int (nI n902)), (3, .int (nI n903)), (4, .int (nI (i + 1)))]) ?_ [1, 2, 3, 4, 0] rfl
        exact ih (i + 1) _ h1 ⟨by omega, fun j hj => if e : j = i then (by rw [e]; omega) else i2 j (by omega), by rw [i3]; exact sc_go (by omega) (by simp; omega)⟩ (by omega)
      · have c19 : (nm i) = n903 := (nI_eq (a := (nm i)) (b := n903) (by omega) (by omega)).mp q19
        refine m_iload F rfl e_X10_namedAt_22 ?_
        exact m_iret F hQ e_X10_namedAt_24 (⟨h1, Or.inl ⟨by rw [i3, sc_stop (Or.inr (by simp; omega))]; omega, by rw [i3, sc_stop (Or.inr (by simp; omega))]⟩⟩)
set_option maxRecDepth 20000 in
theorem q_X10_namedAtE (l : Launch) (V : VX) (c T Z u h : Nat) (P : NP) (L : Nat → LQ) (N : Nat) (σ : Mem) (n902 : Nat) (n903 : Nat) (nm : Nat → Nat) (h0 : HR V c ⟨T, Z, u, h, P, L⟩ σ) (hob : OKB L) (hP : OKP P) (hn902 : n902 ≤ 4) (hn903 : n903 ≤ 1073741823) (hp0 : MR σ c n902 nm) : Ct l V yX10_namedAt cX10_namedAt 5 (some .int) 0 0 0 N σ [.ref c, .int 4, .int (nI n902), .int (nI n903)] (fun r τ => HS V c (⟨T, Z, u, h, P, L⟩ : RG) [0, 1, 2, 3, 4, 5, 6, 7, 8, 9, 10, 11, 12, 13, 14, 15, 16, 17, 18, 19, 20, 21, 22, 23] σ τ ∧ ((fx nm n903 n902 < n902 ∧ r = some (.int (nI (fx nm n903 n902)))) ∨ (¬ fx nm n903 n902 < n902 ∧ r = some (.int (-1))))) := by
  refine Ct.of (by decide) (Nat.le_of_ble_eq_true rfl) [(0, .ref c), (1, .int 4), (2, .int (nI n902)), (3, .int (nI n903))] rfl (fun X hX F hQ => ?_)
  have hPP := hP
  unfold OKP at hPP
  have h1 : HS V c ⟨T, Z, u, h, P, L⟩ [0, 1, 2, 3, 4, 5, 6, 7, 8, 9, 10, 11, 12, 13, 14, 15, 16, 17, 18, 19, 20, 21, 22, 23] σ σ := HS.start h0
  refine m_iconst F (v := 0) (by decide) e_X10_namedAt_0 ?_
  refine m_istore F (lv' := [(4, .int 0), (0, .ref c), (1, .int 4), (2, .int (nI n902)), (3, .int (nI n903))]) e_X10_namedAt_1 (by decide) rfl ?_
  refine Wm.lvsub (lv' := [(0, .ref c), (1, .int 4), (2, .int (nI n902)), (3, .int (nI n903)), (4, .int 0)]) ?_ [1, 2, 3, 4, 0] rfl
  exact lq_X10_namedAtE_3 F hQ hob hP hn902 hn903 hp0 (n902 - 0 + 1) 0 _ h1 ⟨by omega, fun j hj => absurd hj (Nat.not_lt_zero _), rfl⟩ (Nat.lt_succ_self _)
