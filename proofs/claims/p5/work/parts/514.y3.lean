/-! what the reference holds of the text that it reads -/
def NR (σ : Mem) (c np no sd : Nat) : Prop := elI σ (c + 2) 6 = some (nI np) ∧ elI σ (c + 2) 8 = some (nI no) ∧ ∃ w, w ≤ 100000 ∧ elI σ (c + 2) 9 = some (nI w) ∧ (w = 0 ↔ sd = 0)
theorem NR.of {σ τ : Mem} {c np no sd : Nat} (h : NR σ c np no sd) (e : τ (c + 2) = σ (c + 2)) : NR τ c np no sd := by
  obtain ⟨h1, h2, w, h3, h4, h5⟩ := h
  exact ⟨(elI_eq e).trans h1, (elI_eq e).trans h2, w, h3, (elI_eq e).trans h4, h5⟩
def MR (σ : Mem) (c nl : Nat) (nm : Nat → Nat) : Prop := ∀ i, i < nl → nm i < 1073741824 ∧ elI σ (c + 3) (4 + i) = some (nI (nm i))
theorem MR.of {σ τ : Mem} {c nl : Nat} {nm : Nat → Nat} (h : MR σ c nl nm) (e : τ (c + 3) = σ (c + 3)) : MR τ c nl nm := fun i hi => ⟨(h i hi).1, (elI_eq e).trans (h i hi).2⟩
def mk2 (f : Nat → Bool) : Nat := (if f 0 then 1 else 0) + (if f 3 then 2 else 0)
def KR (σ : Mem) (c nl : Nat) (md : Nat → Nat → Bool) : Prop := ∀ i, i < nl → elI σ (c + 7) (4 + i) = some (nI (mk2 (md i)))
theorem KR.of {σ τ : Mem} {c nl : Nat} {md : Nat → Nat → Bool} (h : KR σ c nl md) (e : τ (c + 7) = σ (c + 7)) : KR τ c nl md := fun i hi => (elI_eq e).trans (h i hi)
def FR (σ : Mem) (c q b nl : Nat) (md : Nat → Nat → Bool) : Prop := ∀ i, i < nl → ∃ w, w ≤ 10000000 ∧ elI σ (c + q) (4 + i) = some (nI w) ∧ (w = 0 ↔ md i b = false)
theorem FR.of {σ τ : Mem} {c q b nl : Nat} {md : Nat → Nat → Bool} (h : FR σ c q b nl md) (e : τ (c + q) = σ (c + q)) : FR τ c q b nl md := fun i hi => by
  obtain ⟨w, h1, h2, h3⟩ := h i hi
  exact ⟨w, h1, (elI_eq e).trans h2, h3⟩
def QR (σ : Mem) (c nc lc : Nat) : Prop := nc = 0 ∧ lc = 0 ∨ 1 ≤ nc ∧ 1 ≤ lc ∧ lc ≤ 100 ∧ elI σ (c + 11) (7 + nc) = some (nI (lc - 1))
theorem QR.of {σ τ : Mem} {c nc lc : Nat} (h : QR σ c nc lc) (e : τ (c + 11) = σ (c + 11)) : QR τ c nc lc := by
  rcases h with h | ⟨h1, h2, h3, h4⟩
  · exact Or.inl h
  · exact Or.inr ⟨h1, h2, h3, (elI_eq e).trans h4⟩
def FM (σ : Mem) (c f p : Nat) : Prop := fld σ c 23 = some (.int (nI f)) ∧ fld σ c 24 = some (.int (nI p))
/-- the reference's reader, in a state without a fault -/
def MS (σ : Mem) (c n : Nat) (P : NP) : SS → Prop
  | (k, nl, nm, np, nc, lc, no, sd, md, ln) => ∃ so va fp, MT so va k.2.1 k.2.2.1 ∧ YD σ c n k.1 so va ln 0 fp ∧ (P.a = k.2.2.2 ∧ P.n5 = nl ∧ P.n7 = nc) ∧ NR σ c np no sd ∧ MR σ c nl nm ∧ KR σ c nl md ∧ FR σ c 8 1 nl md ∧ FR σ c 9 2 nl md ∧ QR σ c nc lc ∧ k.2.2.2 ≤ n ∧ k.1 ≤ n ∧ np ≤ 12 ∧ no ≤ 4 ∧ sd ≤ 1
def RM (σ : Mem) (c n : Nat) (P : NP) (o : RO) : Prop := match o with
  | .inl e => FM σ c e.1 e.2 ∧ 1 ≤ e.1 ∧ e.1 ≤ 4 ∧ e.2 ≤ n
  | .inr S => MS σ c n P S
theorem RM.l {σ : Mem} {c n f p : Nat} {P : NP} (h : fld σ c 23 = some (.int (nI f))) (h2 : fld σ c 24 = some (.int (nI p))) (h3 : 1 ≤ f) (h4 : f ≤ 4) (h5 : p ≤ n) : RM σ c n P (.inl (f, p)) := ⟨⟨h, h2⟩, h3, h4, h5⟩
theorem RM.r {σ : Mem} {c n : Nat} {P : NP} {k : Tk} {nl : Nat} {nm : Nat → Nat} {np nc lc no sd : Nat} {md : Nat → Nat → Bool} {ln : Nat} {so va fp : Int32} (h1 : MT so va k.2.1 k.2.2.1) (h2 : YD σ c n k.1 so va ln 0 fp) (ha : P.a = k.2.2.2) (h5 : P.n5 = nl) (h7 : P.n7 = nc) (hN : NR σ c np no sd) (hM : MR σ c nl nm) (hK : KR σ c nl md) (hF : FR σ c 8 1 nl md) (hG : FR σ c 9 2 nl md) (hQ : QR σ c nc lc) (b1 : k.2.2.2 ≤ n) (b2 : k.1 ≤ n) (b3 : np ≤ 12) (b4 : no ≤ 4) (b5 : sd ≤ 1) : RM σ c n P (.inr (k, nl, nm, np, nc, lc, no, sd, md, ln)) := ⟨so, va, fp, h1, h2, ⟨ha, h5, h7⟩, hN, hM, hK, hF, hG, hQ, b1, b2, b3, b4, b5⟩
theorem RM.to {σ τ : Mem} {c n : Nat} {P Q : NP} {o : RO} (h : RM σ c n P o) (e0 : ∀ j, fld τ c j = fld σ c j) (e2 : ∀ i, i ≠ 5 → i ≠ 7 → elI τ (c + 2) i = elI σ (c + 2) i) (e3 : τ (c + 3) = σ (c + 3)) (e7 : τ (c + 7) = σ (c + 7)) (e8 : τ (c + 8) = σ (c + 8)) (e9 : τ (c + 9) = σ (c + 9)) (e11 : τ (c + 11) = σ (c + 11)) (ha : Q.a = P.a) (h5 : Q.n5 = P.n5) (h7 : Q.n7 = P.n7) : RM τ c n Q o := by
  cases o with
  | inl e =>
    obtain ⟨⟨a1, a2⟩, a3⟩ := h
    exact ⟨⟨(e0 _).trans a1, (e0 _).trans a2⟩, a3⟩
  | inr S =>
    obtain ⟨k, nl, nm, np, nc, lc, no, sd, md, ln⟩ := S
    obtain ⟨so, va, fp, h1, ⟨y1, y2, y3, y4, y5, y6, y7⟩, ⟨p1, p2, p3⟩, ⟨n1, n2, w, n3, n4, n5⟩, hM, hK, hF, hG, hQ, b⟩ := h
    exact ⟨so, va, fp, h1, ⟨(e0 _).trans y1, (e0 _).trans y2, (e0 _).trans y3, (e0 _).trans y4, (e0 _).trans y5, (e0 _).trans y6, (e0 _).trans y7⟩, ⟨ha.trans p1, h5.trans p2, h7.trans p3⟩, ⟨(e2 6 (by decide) (by decide)).trans n1, (e2 8 (by decide) (by decide)).trans n2, w, n3, (e2 9 (by decide) (by decide)).trans n4, n5⟩, hM.of e3, hK.of e7, hF.of e8, hG.of e9, hQ.of e11, b⟩
theorem RM.g {σ τ : Mem} {c n : Nat} {P Q : NP} {o : RO} (h : RM σ c n P o) (g : ∀ x, x ≠ c + 10 → τ x = σ x) (ha : Q.a = P.a) (h5 : Q.n5 = P.n5) (h7 : Q.n7 = P.n7) : RM τ c n Q o :=
  h.to (fun j => fld_eq (g c (by omega))) (fun i _ _ => elI_eq (g (c + 2) (by omega))) (g _ (by omega)) (g _ (by omega)) (g _ (by omega)) (g _ (by omega)) (g _ (by omega)) ha h5 h7
theorem mk2_and {f : Nat → Bool} : ((nI (mk2 f) &&& 1 = 0) ↔ f 0 = false) ∧ ((nI (mk2 f) &&& 2 = 0) ↔ f 3 = false) := by
  have key : ∀ (b0 b3 : Bool), ((nI ((if b0 then 1 else 0) + (if b3 then 2 else 0)) &&& 1 = 0) ↔ b0 = false) ∧ ((nI ((if b0 then 1 else 0) + (if b3 then 2 else 0)) &&& 2 = 0) ↔ b3 = false) := by decide
  exact key (f 0) (f 3)
theorem mk2_or {f : Nat → Bool} : nI (mk2 f) ||| 1 = nI (mk2 (fun j => if j = 0 then true else f j)) ∧ nI (mk2 f) ||| 2 = nI (mk2 (fun j => if j = 3 then true else f j)) := by
  have key : ∀ (b0 b3 : Bool), nI ((if b0 then 1 else 0) + (if b3 then 2 else 0)) ||| 1 = nI (1 + (if b3 then 2 else 0)) ∧ nI ((if b0 then 1 else 0) + (if b3 then 2 else 0)) ||| 2 = nI ((if b0 then 1 else 0) + 2) := by decide
  exact key (f 0) (f 3)
theorem FR.upbL {σ : Mem} {c q b b' nl l : Nat} {md : Nat → Nat → Bool} (h : FR σ c q b nl md) (hb : b ≠ b') : FR σ c q b nl (upb md l b') := fun i hi => by
  obtain ⟨w, h1, h2, h3⟩ := h i hi
  refine ⟨w, h1, h2, ?_⟩
  rw [h3]
  unfold upb upm
  by_cases e : i = l
  · subst e; simp only [if_true, if_neg hb]
  · simp only [if_neg e]
theorem KR.upbL {σ : Mem} {c b' nl l : Nat} {md : Nat → Nat → Bool} (h : KR σ c nl md) (hb : b' ≠ 0) (hb3 : b' ≠ 3) : KR σ c nl (upb md l b') := fun i hi => by
  rw [h i hi]
  unfold upb upm mk2
  by_cases e : i = l
  · subst e; simp only [if_true, if_neg hb.symm, if_neg hb3.symm]
  · simp only [if_neg e]
theorem KR.put {σ τ : Mem} {c b nl l : Nat} {md : Nat → Nat → Bool} (h : KR σ c nl md) (e1 : elI τ (c + 7) (4 + l) = some (nI (mk2 (fun j => if j = b then true else md l j)))) (e2 : ∀ i, i ≠ 4 + l → elI τ (c + 7) i = elI σ (c + 7) i) : KR τ c nl (upb md l b) := fun i hi => by
  unfold upb upm
  by_cases e : i = l
  · subst e; simp only [if_true]; exact e1
  · simp only [if_neg e]; exact (e2 _ (by omega)).trans (h i hi)
theorem FR.put {σ τ : Mem} {c q b nl l w : Nat} {md : Nat → Nat → Bool} (h : FR σ c q b nl md) (hw : w ≤ 10000000) (hz : 1 ≤ w) (e1 : elI τ (c + q) (4 + l) = some (nI w)) (e2 : ∀ i, i ≠ 4 + l → elI τ (c + q) i = elI σ (c + q) i) : FR τ c q b nl (upb md l b) := fun i hi => by
  unfold upb upm
  by_cases e : i = l
  · subst e; simp only [if_true]; exact ⟨w, hw, e1, by omega, fun q => absurd q (by decide)⟩
  · simp only [if_neg e]
    obtain ⟨w, h1, h2, h3⟩ := h i hi
    exact ⟨w, h1, (e2 _ (by omega)).trans h2, h3⟩
theorem MR.put {σ τ : Mem} {c nl v : Nat} {nm : Nat → Nat} (h : MR σ c nl nm) (hv : v < 1073741824) (e1 : elI τ (c + 3) (4 + nl) = some (nI v)) (e2 : ∀ i, i ≠ 4 + nl → elI τ (c + 3) i = elI σ (c + 3) i) : MR τ c (nl + 1) (upn nm nl v) := fun i hi => by
  unfold upn
  by_cases e : i = nl
  · subst e; rw [if_pos rfl]; exact ⟨hv, e1⟩
  · rw [if_neg e]; exact ⟨(h i (by omega)).1, (e2 _ (by omega)).trans (h i (by omega)).2⟩
theorem KR.new {σ τ : Mem} {c nl : Nat} {md : Nat → Nat → Bool} (h : KR σ c nl md) (e1 : elI τ (c + 7) (4 + nl) = some (nI 0)) (e2 : ∀ i, i ≠ 4 + nl → elI τ (c + 7) i = elI σ (c + 7) i) : KR τ c (nl + 1) (upm md nl (fun _ => false)) := fun i hi => by
  unfold upm
  by_cases e : i = nl
  · subst e; rw [if_pos rfl]; exact e1
  · rw [if_neg e]; exact (e2 _ (by omega)).trans (h i (by omega))
theorem FR.new {σ τ : Mem} {c q b nl : Nat} {md : Nat → Nat → Bool} (h : FR σ c q b nl md) (e1 : elI τ (c + q) (4 + nl) = some (nI 0)) (e2 : ∀ i, i ≠ 4 + nl → elI τ (c + q) i = elI σ (c + q) i) : FR τ c q b (nl + 1) (upm md nl (fun _ => false)) := fun i hi => by
  unfold upm
  by_cases e : i = nl
  · subst e; rw [if_pos rfl]; exact ⟨0, by decide, e1, fun _ => rfl, fun _ => rfl⟩
  · rw [if_neg e]
    obtain ⟨w, h1, h2, h3⟩ := h i (by omega)
    exact ⟨w, h1, (e2 _ (by omega)).trans h2, h3⟩
theorem MT.w {so va : Int32} {s v : Nat} (h : MT so va s v) (e : s = 2) : so = 1 ∧ va = nI v ∧ v < 1073741824 := by
  rcases h with h | h | h | h | h | h
  · omega
  · omega
  · exact ⟨h.2.1, h.2.2.1, h.2.2.2⟩
  · omega
  · omega
  · omega
set_option maxRecDepth 20000 in
theorem q_X10_wrongG (l : Launch) (V : VX) (c T Z u h : Nat) (P : NP) (L : Nat → LQ) (N : Nat) (σ : Mem) (x901 : Int32) (ft : Int32) (h0 : HR V c ⟨T, Z, u, h, P, L⟩ σ) (hob : OKB L) (hP : OKP P) (hp0 : fld σ c 23 = some (.int ft)) (hp1 : ft ≠ 0) : Ct l V yX10_wrong cX10_wrong 2 none 0 0 0 N σ [.ref c, .int x901] (fun r τ => HS V c (⟨T, Z, u, h, P, L⟩ : RG) [0, 1, 2, 3, 4, 5, 6, 7, 8, 9, 10, 11, 12, 13, 14, 15, 16, 17, 18, 19, 20, 21, 22, 23] σ τ ∧ τ = σ ∧ r = none) := by
  refine Ct.of (by decide) (Nat.le_of_ble_eq_true rfl) [(0, .ref c), (1, .int x901)] rfl (fun X hX F hQ => ?_)
  have hPP := hP
  unfold OKP at hPP
  have h1 : HS V c ⟨T, Z, u, h, P, L⟩ [0, 1, 2, 3, 4, 5, 6, 7, 8, 9, 10, 11, 12, 13, 14, 15, 16, 17, 18, 19, 20, 21, 22, 23] σ σ := HS.start h0
  refine m_aload_n F rfl e_X10_wrong_0 ?_
  refine r_getC F e_X10_wrong_1 fl_X10_141 h1 (hp0) ?_
  refine m_if_eq F e_X10_wrong_4 (fun q4 => ?_) (fun q4 => ?_)
  · exact absurd q4 hp1
  · exact m_vret F hQ e_X10_wrong_7 (⟨h1, rfl, rfl⟩)
set_option maxRecDepth 20000 in
theorem q_X10_goOnG (l : Launch) (V : VX) (c T Z u h : Nat) (P : NP) (L : Nat → LQ) (N : Nat) (σ : Mem) (ft : Int32) (h0 : HR V c ⟨T, Z, u, h, P, L⟩ σ) (hob : OKB L) (hP : OKP P) (hp0 : fld σ c 23 = some (.int ft)) (hp1 : ft ≠ 0) : Ct l V yX10_goOn cX10_goOn 1 none 6 0 0 N σ [.ref c] (fun r τ => HS V c (⟨T, Z, u, h, P, L⟩ : RG) [0, 1, 2, 3, 4, 5, 6, 7, 8, 9, 10, 11, 12, 13, 14, 15, 16, 17, 18, 19, 20, 21, 22, 23] σ τ ∧ τ = σ ∧ r = none) := by
  refine Ct.of (by decide) (Nat.le_of_ble_eq_true rfl) [(0, .ref c)] rfl (fun X hX F hQ => ?_)
  have hPP := hP
  unfold OKP at hPP
  have h1 : HS V c ⟨T, Z, u, h, P, L⟩ [0, 1, 2, 3, 4, 5, 6, 7, 8, 9, 10, 11, 12, 13, 14, 15, 16, 17, 18, 19, 20, 21, 22, 23] σ σ := HS.start h0
  refine m_aload_n F rfl e_X10_goOn_0 ?_
  refine r_getC F e_X10_goOn_1 fl_X10_141 h1 (hp0) ?_
  refine m_if_ne F e_X10_goOn_4 (fun q4 => ?_) (fun q4 => ?_)
  · exact m_vret F hQ e_X10_goOn_11 (⟨h1, rfl, rfl⟩)
  · exact absurd q4 hp1
set_option maxRecDepth 20000 in
theorem q_X10_numeralG (l : Launch) (V : VX) (c T Z u h : Nat) (P : NP) (L : Nat → LQ) (N : Nat) (σ : Mem) (n901 : Nat) (n902 : Nat) (ft : Int32) (h0 : HR V c ⟨T, Z, u, h, P, L⟩ σ) (hob : OKB L) (hP : OKP P) (hn901 : n901 ≤ 10000000) (hn902 : n902 ≤ 10000000) (hp0 : fld σ c 23 = some (.int ft)) (hp1 : ft ≠ 0) : Ct l V yX10_numeral cX10_numeral 4 (some .int) 7 0 0 N σ [.ref c, .int (nI n901), .int (nI n902)] (fun r τ => HS V c (⟨T, Z, u, h, P, L⟩ : RG) [0, 1, 2, 3, 4, 5, 6, 7, 8, 9, 10, 11, 12, 13, 14, 15, 16, 17, 18, 19, 20, 21, 22, 23] σ τ ∧ τ = σ ∧ r = some (.int (nI n901))) := by
  refine Ct.of (by decide) (Nat.le_of_ble_eq_true rfl) [(0, .ref c), (1, .int (nI n901)), (2, .int (nI n902))] rfl (fun X hX F hQ => ?_)
  have hPP := hP
  unfold OKP at hPP
  have h1 : HS V c ⟨T, Z, u, h, P, L⟩ [0, 1, 2, 3, 4, 5, 6, 7, 8, 9, 10, 11, 12, 13, 14, 15, 16, 17, 18, 19, 20, 21, 22, 23] σ σ := HS.start h0
  refine m_aload_n F rfl e_X10_numeral_0 ?_
  refine r_getC F e_X10_numeral_1 fl_X10_141 h1 (hp0) ?_
  refine m_if_eq F e_X10_numeral_4 (fun q4 => ?_) (fun q4 => ?_)
  · exact absurd q4 hp1
  · refine m_iload_n F rfl e_X10_numeral_7 ?_
    exact m_iret F hQ e_X10_numeral_8 (⟨h1, rfl, rfl⟩)
set_option maxRecDepth 20000 in
theorem q_X10_atHandG (l : Launch) (V : VX) (c T Z u h : Nat) (P : NP) (L : Nat → LQ) (N : Nat) (σ : Mem) (ft : Int32) (h0 : HR V c ⟨T, Z, u, h, P, L⟩ σ) (hob : OKB L) (hP : OKP P) (hp0 : fld σ c 23 = some (.int ft)) (hp1 : ft ≠ 0) : Ct l V yX10_atHand cX10_atHand 2 (some .int) 7 0 0 N σ [.ref c] (fun r τ => HS V c (⟨T, Z, u, h, P, L⟩ : RG) [0, 1, 2, 3, 4, 5, 6, 7, 8, 9, 10, 11, 12, 13, 14, 15, 16, 17, 18, 19, 20, 21, 22, 23] σ τ ∧ τ = σ ∧ r = some (.int (nI 4))) := by
  refine Ct.of (by decide) (Nat.le_of_ble_eq_true rfl) [(0, .ref c)] rfl (fun X hX F hQ => ?_)
  have hPP := hP
  unfold OKP at hPP
  have h1 : HS V c ⟨T, Z, u, h, P, L⟩ [0, 1, 2, 3, 4, 5, 6, 7, 8, 9, 10, 11, 12, 13, 14, 15, 16, 17, 18, 19, 20, 21, 22, 23] σ σ := HS.start h0
  refine m_aload_n F rfl e_X10_atHand_0 ?_
  refine r_callV F e_X10_atHand_1 (q_X10_goOnG (x_l X) V c T Z u h P L _ _  ft h1.1 (hob) hP  (hp0) (by assumption)) cb_X10_goOn ml_X10_154 im_X10_goOn se_X10_goOn h1 rfl rfl (rest := []) rfl (Nat.le_of_ble_eq_true rfl) ⟨Nat.le_of_ble_eq_true rfl, Nat.le_of_ble_eq_true rfl⟩ ⟨Nat.le_of_ble_eq_true rfl, Nat.le_of_ble_eq_true rfl⟩ (fun r σ11490 hp => ?_)
  obtain ⟨h11491, hp⟩ := hp
  have h11492 := HS.trans h1 h11491 (by decide)
  obtain ⟨rfl, rfl⟩ := hp
  refine m_aload_n F rfl e_X10_atHand_4 ?_
  refine r_getC F e_X10_atHand_5 fl_X10_141 h11492 (hp0) ?_
  refine m_if_eq F e_X10_atHand_8 (fun q8 => ?_) (fun q8 => ?_)
  · exact absurd q8 hp1
  · refine m_iconst F (v := 4) (by decide) e_X10_atHand_11 ?_
    exact m_iret F hQ e_X10_atHand_12 (⟨h11492, rfl, rfl⟩)
set_option maxRecDepth 20000 in
theorem q_X10_wrongE (l : Launch) (V : VX) (c T Z u h : Nat) (P : NP) (L : Nat → LQ) (N : Nat) (σ : Mem) (n901 : Nat) (n st : Nat) (so va : Int32) (ln : Nat) (fp : Int32) (h0 : HR V c ⟨T, Z, u, h, P, L⟩ σ) (hob : OKB L) (hP : OKP P) (hn901 : n901 ≤ 4) (hp0 : YD σ c n st so va ln 0 fp) (hp1 : 1 ≤ n901) : Ct l V yX10_wrong cX10_wrong 2 none 0 0 0 N σ [.ref c, .int (nI n901)] (fun r τ => HS V c (⟨T, 0, u, h, P, L⟩ : RG) [0, 2, 3, 4, 5, 6, 7, 8, 9, 10, 11, 12, 13, 14, 15, 16, 17, 18, 19, 20, 21, 22, 23] σ τ ∧ YD τ c n st so va ln (nI n901) (nI st) ∧ r = none) := by
  refine Ct.of (by decide) (Nat.le_of_ble_eq_true rfl) [(0, .ref c), (1, .int (nI n901))] rfl (fun X hX F hQ => ?_)
  have hPP := hP
  unfold OKP at hPP
  have h1 : HS V c ⟨T, Z, u, h, P, L⟩ [0, 2, 3, 4, 5, 6, 7, 8, 9, 10, 11, 12, 13, 14, 15, 16, 17, 18, 19, 20, 21, 22, 23] σ σ := HS.start h0
  have hyd11493 := hp0
  obtain ⟨yd11493, yd11494, yd11495, yd11496, yd11497, yd11498, yd11499⟩ := hyd11493
  refine m_aload_n F rfl e_X10_wrong_0 ?_
  refine r_getC F e_X10_wrong_1 fl_X10_141 h1 (yd11498) ?_
  refine m_if_eq F e_X10_wrong_4 (fun _ => ?_) (fun q => absurd (by decide) q)
  refine m_aload_n F rfl e_X10_wrong_8 ?_
  refine m_iload_n F rfl e_X10_wrong_9 ?_
  refine r_put F (g' := (⟨T, 0, u, h, P, L⟩ : RG)) e_X10_wrong_10 fp_X10_141 h1 (by decide) ⟨_, (fun _ => (fun e => absurd (nI_inj9 (b := 0) (by omega) (by omega) e) (by omega))), rfl⟩ ctl_Z CR.ctl rfl rfl (by decide) (fun σ11500 h11501 g11502 g11503 f11504 => ?_)
  refine m_aload_n F rfl e_X10_wrong_13 ?_
  refine m_aload_n F rfl e_X10_wrong_14 ?_
  refine r_getC F e_X10_wrong_15 fl_X10_107 h11501 ((g11503 20 (by decide)).trans yd11495) ?_
  refine r_put F (g' := (⟨T, 0, u, h, P, L⟩ : RG)) e_X10_wrong_18 fp_X10_144 h11501 (by decide) ⟨_, rfl⟩ (fun _ _ _ _ q => q) (fun _ _ _ q => q) rfl rfl (by decide) (fun σ11505 h11506 g11507 g11508 f11509 => ?_)
  exact m_vret F hQ e_X10_wrong_21 (⟨h11506, ⟨((g11508 17 (by decide)).trans ((g11503 17 (by decide)).trans yd11493)), ((g11508 18 (by decide)).trans ((g11503 18 (by decide)).trans yd11494)), ((g11508 20 (by decide)).trans ((g11503 20 (by decide)).trans yd11495)), ((g11508 21 (by decide)).trans ((g11503 21 (by decide)).trans yd11496)), ((g11508 22 (by decide)).trans ((g11503 22 (by decide)).trans yd11497)), ((g11508 23 (by decide)).trans f11504), (f11509)⟩, rfl⟩)
set_option maxRecDepth 20000 in
theorem q_X10_goOnE (l : Launch) (V : VX) (c T Z u h : Nat) (P : NP) (L : Nat → LQ) (N : Nat) (σ : Mem) (n st : Nat) (so va : Int32) (ln : Nat) (fp : Int32) (t : Nat → Nat) (h0 : HR V c ⟨T, Z, u, h, P, L⟩ σ) (hob : OKB L) (hP : OKP P) (hp0 : YD σ c n st so va ln 0 fp) (hp1 : BR σ c n t) (hp2 : n ≤ 700) (hp3 : P.a ≤ n) : Ct l V yX10_goOn cX10_goOn 1 none 6 0 0 N σ [.ref c] (fun r τ => ∃ P9 : NP, OKP P9 ∧ RA P P9 ∧ P9.a = (tok t n P.a).2.2.2 ∧ (∃ so2 va2, MT so2 va2 (tok t n P.a).2.1 (tok t n P.a).2.2.1 ∧ YD τ c n (tok t n P.a).1 so2 va2 ln 0 fp) ∧ HS V c (⟨T, Z, u, h, P9, L⟩ : RG) [0, 2, 3, 4, 5, 6, 7, 8, 9, 10, 11, 12, 13, 14, 15, 16, 17, 18, 19, 20, 21, 22, 23] σ τ ∧ r = none) := by
  refine Ct.of (by decide) (Nat.le_of_ble_eq_true rfl) [(0, .ref c)] rfl (fun X hX F hQ => ?_)
  have hPP := hP
  unfold OKP at hPP
  have h1 : HS V c ⟨T, Z, u, h, P, L⟩ [0, 2, 3, 4, 5, 6, 7, 8, 9, 10, 11, 12, 13, 14, 15, 16, 17, 18, 19, 20, 21, 22, 23] σ σ := HS.start h0
  have hyd11510 := hp0
  obtain ⟨yd11510, yd11511, yd11512, yd11513, yd11514, yd11515, yd11516⟩ := hyd11510
  have hn7 := hp2
  refine m_aload_n F rfl e_X10_goOn_0 ?_
  refine r_getC F e_X10_goOn_1 fl_X10_141 h1 (yd11515) ?_
  refine m_if_ne F e_X10_goOn_4 (fun q => absurd (by decide) q) (fun _ => ?_)
  refine m_aload_n F rfl e_X10_goOn_7 ?_
  refine r_callV F e_X10_goOn_8 (q_X10_tokenE (x_l X) V c T Z u h P L _ _  n st so va ln 0 fp t h1.1 (hob) hP  ⟨(yd11510), (yd11511), (yd11512), (yd11513), (yd11514), (yd11515), (yd11516)⟩ hp1 hn7 (by omega)) cb_X10_token ml_X10_147 im_X10_token se_X10_token h1 rfl rfl (rest := []) rfl (Nat.le_of_ble_eq_true rfl) ⟨Nat.le_of_ble_eq_true rfl, Nat.le_of_ble_eq_true rfl⟩ ⟨Nat.le_of_ble_eq_true rfl, Nat.le_of_ble_eq_true rfl⟩ (fun r σ11517 hp => ?_)
  obtain ⟨P11520, oP11520, rP11520, pr11521, pr11522, h11518, hp⟩ := hp
  have h11519 := HS.trans h1 h11518 (by decide)
  have xP11520 := oP11520
  unfold OKP at xP11520
  unfold RA at rP11520
  have ga11523 := hp1.of (h11518.2 (c + 1) (by rw [kC_at (k := 1) (by decide)]; decide))
  obtain rfl := hp
  exact m_vret F hQ e_X10_goOn_11 (⟨P11520, oP11520, (by unfold RA; omega), pr11521, pr11522, h11519, rfl⟩)
set_option maxRecDepth 20000 in
theorem q_X10_numeralE (l : Launch) (V : VX) (c T Z u h : Nat) (P : NP) (L : Nat → LQ) (N : Nat) (σ : Mem) (n901 : Nat) (n902 : Nat) (n st : Nat) (so va : Int32) (ln : Nat) (fp : Int32) (t : Nat → Nat) (s9 v9 : Nat) (h0 : HR V c ⟨T, Z, u, h, P, L⟩ σ) (hob : OKB L) (hP : OKP P) (hn901 : n901 ≤ 9999999) (hn902 : n902 ≤ 9999999) (hp0 : YD σ c n st so va ln 0 fp) (hp1 : BR σ c n t) (hp2 : n ≤ 700) (hp3 : P.a ≤ n) (hp4 : MT so va s9 v9) : Ct l V yX10_numeral cX10_numeral 4 (some .int) 7 0 0 N σ [.ref c, .int (nI n901), .int (nI n902)] (fun r τ => ∃ P9 : NP, OKP P9 ∧ RA P P9 ∧ ((s9 = 3 ∧ n901 ≤ v9 ∧ v9 ≤ n902 ∧ P9.a = (tok t n P.a).2.2.2 ∧ (∃ so2 va2, MT so2 va2 (tok t n P.a).2.1 (tok t n P.a).2.2.1 ∧ YD τ c n (tok t n P.a).1 so2 va2 ln 0 fp) ∧ r = some (.int (nI v9))) ∨ (s9 ≠ 3 ∧ FM τ c 1 st ∧ r = some (.int (nI n901))) ∨ (s9 = 3 ∧ (v9 < n901 ∨ n902 < v9) ∧ FM τ c 2 st ∧ r = some (.int (nI n901)))) ∧ HS V c (⟨T, Z, u, h, P9, L⟩ : RG) [0, 2, 3, 4, 5, 6, 7, 8, 9, 10, 11, 12, 13, 14, 15, 16, 17, 18, 19, 20, 21, 22, 23] σ τ ∧ True) := by
  refine Ct.of (by decide) (Nat.le_of_ble_eq_true rfl) [(0, .ref c), (1, .int (nI n901)), (2, .int (nI n902))] rfl (fun X hX F hQ => ?_)
  have hPP := hP
  unfold OKP at hPP
  have h1 : HS V c ⟨T, Z, u, h, P, L⟩ [0, 2, 3, 4, 5, 6, 7, 8, 9, 10, 11, 12, 13, 14, 15, 16, 17, 18, 19, 20, 21, 22, 23] σ σ := HS.start h0
  have hyd11524 := hp0
  obtain ⟨yd11524, yd11525, yd11526, yd11527, yd11528, yd11529, yd11530⟩ := hyd11524
  have hn7 := hp2
  refine m_aload_n F rfl e_X10_numeral_0 ?_
  refine r_getC F e_X10_numeral_1 fl_X10_141 h1 (yd11529) ?_
  refine m_if_eq F e_X10_numeral_4 (fun _ => ?_) (fun q => absurd (by decide) q)
  refine m_aload_n F rfl e_X10_numeral_9 ?_
  have hmt := hp4
  rcases hmt with ⟨rfl, rfl⟩ | ⟨rfl, rfl, rfl, hv9⟩ | ⟨rfl, rfl, rfl, hv9⟩ | ⟨rfl, rfl, w9, hw9, rfl, hm9⟩ | ⟨rfl, rfl⟩ | ⟨rfl, rfl⟩
  · refine r_getC F e_X10_numeral_10 fl_X10_110 h1 (yd11527) ?_
    refine m_iconst F (v := 2) (by decide) e_X10_numeral_13 ?_
    refine m_icmp_eq F e_X10_numeral_14 (fun q => absurd q (by decide)) (fun _ => ?_)
    refine m_aload_n F rfl e_X10_numeral_17 ?_
    refine m_iconst F (v := 1) (by decide) e_X10_numeral_18 ?_
    refine r_callV F e_X10_numeral_19 (q_X10_wrongE (x_l X) V c T Z u h P L _ _ 1 n st 4 va ln fp h1.1 (hob) hP (by omega) ⟨(yd11524), (yd11525), (yd11526), (yd11527), (yd11528), (yd11529), (yd11530)⟩ (by decide)) cb_X10_wrong ml_X10_150 im_X10_wrong se_X10_wrong h1 rfl rfl (rest := []) rfl (Nat.le_of_ble_eq_true rfl) ⟨Nat.le_of_ble_eq_true rfl, Nat.le_of_ble_eq_true rfl⟩ ⟨Nat.le_of_ble_eq_true rfl, Nat.le_of_ble_eq_true rfl⟩ (fun r σ11531 hp => ?_)
    obtain ⟨h11532, hp⟩ := hp
    have h11533 := HS.trans h1 h11532 (by decide)
    have ga11534 := hp1.of (h11532.2 (c + 1) (by rw [kC_at (k := 1) (by decide)]; decide))
    obtain ⟨hp, rfl⟩ := hp
    have hyd11535 := hp
    obtain ⟨yd11535, yd11536, yd11537, yd11538, yd11539, yd11540, yd11541⟩ := hyd11535
    refine m_goto F e_X10_numeral_22 ?_
    refine m_aload_n F rfl e_X10_numeral_46 ?_
    refine r_getC F e_X10_numeral_47 fl_X10_141 h11533 (yd11540) ?_
    refine m_if_ne F e_X10_numeral_50 (fun _ => ?_) (fun q => absurd q (by decide))
    refine m_iload_n F rfl e_X10_numeral_60 ?_
    refine m_istore_n F (lv' := [(3, .int (nI n901)), (0, .ref c), (1, .int (nI n901)), (2, .int (nI n902))]) e_X10_numeral_61 (by decide) rfl ?_
    refine m_aload_n F rfl e_X10_numeral_62 ?_
    refine r_callV F e_X10_numeral_63 (q_X10_goOnG (x_l X) V c T 0 u h P L _ _  1 h11533.1 (hob) hP  (yd11540) (by decide)) cb_X10_goOn ml_X10_154 im_X10_goOn se_X10_goOn h11533 rfl rfl (rest := []) rfl (Nat.le_of_ble_eq_true rfl) ⟨Nat.le_of_ble_eq_true rfl, Nat.le_of_ble_eq_true rfl⟩ ⟨Nat.le_of_ble_eq_true rfl, Nat.le_of_ble_eq_true rfl⟩ (fun r σ11542 hp => ?_)
    obtain ⟨h11543, hp⟩ := hp
    have h11544 := HS.trans h11533 h11543 (by decide)
    have ga11545 := ga11534.of (h11543.2 (c + 1) (by rw [kC_at (k := 1) (by decide)]; decide))
    obtain ⟨rfl, rfl⟩ := hp
    refine m_iload_n F rfl e_X10_numeral_66 ?_
    have h11546 : HS V c _ [0, 2, 3, 4, 5, 6, 7, 8, 9, 10, 11, 12, 13, 14, 15, 16, 17, 18, 19, 20, 21, 22, 23] _ _ := ⟨HR.mono (Z' := Z) (by intro e; first | rfl | assumption | omega) h11544.1, h11544.2⟩
    exact m_iret F hQ e_X10_numeral_67 (⟨P, hP, (by unfold RA; omega), (Or.inr (Or.inl ⟨by decide, ⟨yd11540, yd11541⟩, rfl⟩)), h11546, trivial⟩)
  · refine r_getC F e_X10_numeral_10 fl_X10_110 h1 (yd11527) ?_
    refine m_iconst F (v := 2) (by decide) e_X10_numeral_13 ?_
    refine m_icmp_eq F e_X10_numeral_14 (fun q => absurd q (by decide)) (fun _ => ?_)
    refine m_aload_n F rfl e_X10_numeral_17 ?_
    refine m_iconst F (v := 1) (by decide) e_X10_numeral_18 ?_
    refine r_callV F e_X10_numeral_19 (q_X10_wrongE (x_l X) V c T Z u h P L _ _ 1 n st 0 (nI v9) ln fp h1.1 (hob) hP (by omega) ⟨(yd11524), (yd11525), (yd11526), (yd11527), (yd11528), (yd11529), (yd11530)⟩ (by decide)) cb_X10_wrong ml_X10_150 im_X10_wrong se_X10_wrong h1 rfl rfl (rest := []) rfl (Nat.le_of_ble_eq_true rfl) ⟨Nat.le_of_ble_eq_true rfl, Nat.le_of_ble_eq_true rfl⟩ ⟨Nat.le_of_ble_eq_true rfl, Nat.le_of_ble_eq_true rfl⟩ (fun r σ11547 hp => ?_)
    obtain ⟨h11548, hp⟩ := hp
    have h11549 := HS.trans h1 h11548 (by decide)
    have ga11550 := hp1.of (h11548.2 (c + 1) (by rw [kC_at (k := 1) (by decide)]; decide))
    obtain ⟨hp, rfl⟩ := hp
    have hyd11551 := hp
    obtain ⟨yd11551, yd11552, yd11553, yd11554, yd11555, yd11556, yd11557⟩ := hyd11551
    refine m_goto F e_X10_numeral_22 ?_
    refine m_aload_n F rfl e_X10_numeral_46 ?_
    refine r_getC F e_X10_numeral_47 fl_X10_141 h11549 (yd11556) ?_
    refine m_if_ne F e_X10_numeral_50 (fun _ => ?_) (fun q => absurd q (by decide))
    refine m_iload_n F rfl e_X10_numeral_60 ?_
    refine m_istore_n F (lv' := [(3, .int (nI n901)), (0, .ref c), (1, .int (nI n901)), (2, .int (nI n902))]) e_X10_numeral_61 (by decide) rfl ?_
    refine m_aload_n F rfl e_X10_numeral_62 ?_
    refine r_callV F e_X10_numeral_63 (q_X10_goOnG (x_l X) V c T 0 u h P L _ _  1 h11549.1 (hob) hP  (yd11556) (by decide)) cb_X10_goOn ml_X10_154 im_X10_goOn se_X10_goOn h11549 rfl rfl (rest := []) rfl (Nat.le_of_ble_eq_true rfl) ⟨Nat.le_of_ble_eq_true rfl, Nat.le_of_ble_eq_true rfl⟩ ⟨Nat.le_of_ble_eq_true rfl, Nat.le_of_ble_eq_true rfl⟩ (fun r σ11558 hp => ?_)
    obtain ⟨h11559, hp⟩ := hp
    have h11560 := HS.trans h11549 h11559 (by decide)
    have ga11561 := ga11550.of (h11559.2 (c + 1) (by rw [kC_at (k := 1) (by decide)]; decide))
    obtain ⟨rfl, rfl⟩ := hp
    refine m_iload_n F rfl e_X10_numeral_66 ?_
    have h11562 : HS V c _ [0, 2, 3, 4, 5, 6, 7, 8, 9, 10, 11, 12, 13, 14, 15, 16, 17, 18, 19, 20, 21, 22, 23] _ _ := ⟨HR.mono (Z' := Z) (by intro e; first | rfl | assumption | omega) h11560.1, h11560.2⟩
    exact m_iret F hQ e_X10_numeral_67 (⟨P, hP, (by unfold RA; omega), (Or.inr (Or.inl ⟨by decide, ⟨yd11556, yd11557⟩, rfl⟩)), h11562, trivial⟩)
  · refine r_getC F e_X10_numeral_10 fl_X10_110 h1 (yd11527) ?_
    refine m_iconst F (v := 2) (by decide) e_X10_numeral_13 ?_
    refine m_icmp_eq F e_X10_numeral_14 (fun q => absurd q (by decide)) (fun _ => ?_)
    refine m_aload_n F rfl e_X10_numeral_17 ?_
    refine m_iconst F (v := 1) (by decide) e_X10_numeral_18 ?_
    refine r_callV F e_X10_numeral_19 (q_X10_wrongE (x_l X) V c T Z u h P L _ _ 1 n st 1 (nI v9) ln fp h1.1 (hob) hP (by omega) ⟨(yd11524), (yd11525), (yd11526), (yd11527), (yd11528), (yd11529), (yd11530)⟩ (by decide)) cb_X10_wrong ml_X10_150 im_X10_wrong se_X10_wrong h1 rfl rfl (rest := []) rfl (Nat.le_of_ble_eq_true rfl) ⟨Nat.le_of_ble_eq_true rfl, Nat.le_of_ble_eq_true rfl⟩ ⟨Nat.le_of_ble_eq_true rfl, Nat.le_of_ble_eq_true rfl⟩ (fun r σ11563 hp => ?_)
    obtain ⟨h11564, hp⟩ := hp
    have h11565 := HS.trans h1 h11564 (by decide)
    have ga11566 := hp1.of (h11564.2 (c + 1) (by rw [kC_at (k := 1) (by decide)]; decide))
    obtain ⟨hp, rfl⟩ := hp
    have hyd11567 := hp
    obtain ⟨yd11567, yd11568, yd11569, yd11570, yd11571, yd11572, yd11573⟩ := hyd11567
    refine m_goto F e_X10_numeral_22 ?_
    refine m_aload_n F rfl e_X10_numeral_46 ?_
    refine r_getC F e_X10_numeral_47 fl_X10_141 h11565 (yd11572) ?_
    refine m_if_ne F e_X10_numeral_50 (fun _ => ?_) (fun q => absurd q (by decide))
    refine m_iload_n F rfl e_X10_numeral_60 ?_
    refine m_istore_n F (lv' := [(3, .int (nI n901)), (0, .ref c), (1, .int (nI n901)), (2, .int (nI n902))]) e_X10_numeral_61 (by decide) rfl ?_
    refine m_aload_n F rfl e_X10_numeral_62 ?_
    refine r_callV F e_X10_numeral_63 (q_X10_goOnG (x_l X) V c T 0 u h P L _ _  1 h11565.1 (hob) hP  (yd11572) (by decide)) cb_X10_goOn ml_X10_154 im_X10_goOn se_X10_goOn h11565 rfl rfl (rest := []) rfl (Nat.le_of_ble_eq_true rfl) ⟨Nat.le_of_ble_eq_true rfl, Nat.le_of_ble_eq_true rfl⟩ ⟨Nat.le_of_ble_eq_true rfl, Nat.le_of_ble_eq_true rfl⟩ (fun r σ11574 hp => ?_)
    obtain ⟨h11575, hp⟩ := hp
    have h11576 := HS.trans h11565 h11575 (by decide)
    have ga11577 := ga11566.of (h11575.2 (c + 1) (by rw [kC_at (k := 1) (by decide)]; decide))
    obtain ⟨rfl, rfl⟩ := hp
    refine m_iload_n F rfl e_X10_numeral_66 ?_
    have h11578 : HS V c _ [0, 2, 3, 4, 5, 6, 7, 8, 9, 10, 11, 12, 13, 14, 15, 16, 17, 18, 19, 20, 21, 22, 23] _ _ := ⟨HR.mono (Z' := Z) (by intro e; first | rfl | assumption | omega) h11576.1, h11576.2⟩
    exact m_iret F hQ e_X10_numeral_67 (⟨P, hP, (by unfold RA; omega), (Or.inr (Or.inl ⟨by decide, ⟨yd11572, yd11573⟩, rfl⟩)), h11578, trivial⟩)
  · refine r_getC F e_X10_numeral_10 fl_X10_110 h1 (yd11527) ?_
    refine m_iconst F (v := 2) (by decide) e_X10_numeral_13 ?_
    refine m_icmp_eq F e_X10_numeral_14 (fun _ => ?_) (fun q => absurd (by decide) q)
    refine m_aload_n F rfl e_X10_numeral_25 ?_
    refine r_getC F e_X10_numeral_26 fl_X10_120 h1 (yd11528) ?_
    refine m_iload_n F rfl e_X10_numeral_29 ?_
    refine m_icmp_lt F e_X10_numeral_30 (fun q30 => ?_) (fun q30 => ?_)
    · have c30 : w9 < n901 := (nI_ltI (a := w9) (b := n901) (by omega) (by omega)).mp q30
      refine m_aload_n F rfl e_X10_numeral_41 ?_
      refine m_iconst F (v := 2) (by decide) e_X10_numeral_42 ?_
      refine r_callV F e_X10_numeral_43 (q_X10_wrongE (x_l X) V c T Z u h P L _ _ 2 n st 2 (nI w9) ln fp h1.1 (hob) hP (by omega) ⟨(yd11524), (yd11525), (yd11526), (yd11527), (yd11528), (yd11529), (yd11530)⟩ (by decide)) cb_X10_wrong ml_X10_150 im_X10_wrong se_X10_wrong h1 rfl rfl (rest := []) rfl (Nat.le_of_ble_eq_true rfl) ⟨Nat.le_of_ble_eq_true rfl, Nat.le_of_ble_eq_true rfl⟩ ⟨Nat.le_of_ble_eq_true rfl, Nat.le_of_ble_eq_true rfl⟩ (fun r σ11579 hp => ?_)
      obtain ⟨h11580, hp⟩ := hp
      have h11581 := HS.trans h1 h11580 (by decide)
      have ga11582 := hp1.of (h11580.2 (c + 1) (by rw [kC_at (k := 1) (by decide)]; decide))
      obtain ⟨hp, rfl⟩ := hp
      have hyd11583 := hp
      obtain ⟨yd11583, yd11584, yd11585, yd11586, yd11587, yd11588, yd11589⟩ := hyd11583
      refine m_aload_n F rfl e_X10_numeral_46 ?_
      refine r_getC F e_X10_numeral_47 fl_X10_141 h11581 (yd11588) ?_
      refine m_if_ne F e_X10_numeral_50 (fun _ => ?_) (fun q => absurd q (by decide))
      refine m_iload_n F rfl e_X10_numeral_60 ?_
      refine m_istore_n F (lv' := [(3, .int (nI n901)), (0, .ref c), (1, .int (nI n901)), (2, .int (nI n902))]) e_X10_numeral_61 (by decide) rfl ?_
      refine m_aload_n F rfl e_X10_numeral_62 ?_
      refine r_callV F e_X10_numeral_63 (q_X10_goOnG (x_l X) V c T 0 u h P L _ _  2 h11581.1 (hob) hP  (yd11588) (by decide)) cb_X10_goOn ml_X10_154 im_X10_goOn se_X10_goOn h11581 rfl rfl (rest := []) rfl (Nat.le_of_ble_eq_true rfl) ⟨Nat.le_of_ble_eq_true rfl, Nat.le_of_ble_eq_true rfl⟩ ⟨Nat.le_of_ble_eq_true rfl, Nat.le_of_ble_eq_true rfl⟩ (fun r σ11590 hp => ?_)
      obtain ⟨h11591, hp⟩ := hp
      have h11592 := HS.trans h11581 h11591 (by decide)
      have ga11593 := ga11582.of (h11591.2 (c + 1) (by rw [kC_at (k := 1) (by decide)]; decide))
      obtain ⟨rfl, rfl⟩ := hp
      refine m_iload_n F rfl e_X10_numeral_66 ?_
      have h11594 : HS V c _ [0, 2, 3, 4, 5, 6, 7, 8, 9, 10, 11, 12, 13, 14, 15, 16, 17, 18, 19, 20, 21, 22, 23] _ _ := ⟨HR.mono (Z' := Z) (by intro e; first | rfl | assumption | omega) h11592.1, h11592.2⟩
      exact m_iret F hQ e_X10_numeral_67 (⟨P, hP, (by unfold RA; omega), (Or.inr (Or.inr ⟨rfl, by omega, ⟨yd11588, yd11589⟩, rfl⟩)), h11594, trivial⟩)
    · have c30 : w9 ≥ n901 := by have hh := mt (nI_ltI (a := w9) (b := n901) (by omega) (by omega)).mpr q30; omega
      refine m_aload_n F rfl e_X10_numeral_33 ?_
      refine r_getC F e_X10_numeral_34 fl_X10_120 h1 (yd11528) ?_
      refine m_iload_n F rfl e_X10_numeral_37 ?_
      refine m_icmp_le F e_X10_numeral_38 (fun q38 => ?_) (fun q38 => ?_)
      · have c38 : w9 ≤ n902 := (nI_leI (a := w9) (b := n902) (by omega) (by omega)).mp q38
        refine m_aload_n F rfl e_X10_numeral_46 ?_
        refine r_getC F e_X10_numeral_47 fl_X10_141 h1 (yd11529) ?_
        refine m_if_ne F e_X10_numeral_50 (fun q => absurd (by decide) q) (fun _ => ?_)
        refine m_aload_n F rfl e_X10_numeral_53 ?_
        refine r_getC F e_X10_numeral_54 fl_X10_120 h1 (yd11528) ?_
        refine m_goto F e_X10_numeral_57 ?_
        refine m_istore_n F (lv' := [(3, .int (nI w9)), (0, .ref c), (1, .int (nI n901)), (2, .int (nI n902))]) e_X10_numeral_61 (by decide) rfl ?_
        refine m_aload_n F rfl e_X10_numeral_62 ?_
        refine r_callV F e_X10_numeral_63 (q_X10_goOnE (x_l X) V c T Z u h P L _ _  n st 2 (nI w9) ln fp t h1.1 (hob) hP  ⟨(yd11524), (yd11525), (yd11526), (yd11527), (yd11528), (yd11529), (yd11530)⟩ hp1 hn7 (by omega)) cb_X10_goOn ml_X10_154 im_X10_goOn se_X10_goOn h1 rfl rfl (rest := []) rfl (Nat.le_of_ble_eq_true rfl) ⟨Nat.le_of_ble_eq_true rfl, Nat.le_of_ble_eq_true rfl⟩ ⟨Nat.le_of_ble_eq_true rfl, Nat.le_of_ble_eq_true rfl⟩ (fun r σ11595 hp => ?_)
        obtain ⟨P11598, oP11598, rP11598, pr11599, pr11600, h11596, hp⟩ := hp
        have h11597 := HS.trans h1 h11596 (by decide)
        have xP11598 := oP11598
        unfold OKP at xP11598
        unfold RA at rP11598
        have ga11601 := hp1.of (h11596.2 (c + 1) (by rw [kC_at (k := 1) (by decide)]; decide))
        obtain rfl := hp
        refine m_iload_n F rfl e_X10_numeral_66 ?_
        have ew : w9 = v9 := by omega
        subst ew
        exact m_iret F hQ e_X10_numeral_67 (⟨P11598, oP11598, (by unfold RA; omega), (Or.inl ⟨rfl, by omega, by omega, pr11599, pr11600, rfl⟩), h11597, trivial⟩)
      · have c38 : w9 > n902 := by have hh := mt (nI_leI (a := w9) (b := n902) (by omega) (by omega)).mpr q38; omega
        refine m_aload_n F rfl e_X10_numeral_41 ?_
        refine m_iconst F (v := 2) (by decide) e_X10_numeral_42 ?_
        refine r_callV F e_X10_numeral_43 (q_X10_wrongE (x_l X) V c T Z u h P L _ _ 2 n st 2 (nI w9) ln fp h1.1 (hob) hP (by omega) ⟨(yd11524), (yd11525), (yd11526), (yd11527), (yd11528), (yd11529), (yd11530)⟩ (by decide)) cb_X10_wrong ml_X10_150 im_X10_wrong se_X10_wrong h1 rfl rfl (rest := []) rfl (Nat.le_of_ble_eq_true rfl) ⟨Nat.le_of_ble_eq_true rfl, Nat.le_of_ble_eq_true rfl⟩ ⟨Nat.le_of_ble_eq_true rfl, Nat.le_of_ble_eq_true rfl⟩ (fun r σ11602 hp => ?_)
        obtain ⟨h11603, hp⟩ := hp
        have h11604 := HS.trans h1 h11603 (by decide)
        have ga11605 := hp1.of (h11603.2 (c + 1) (by rw [kC_at (k := 1) (by decide)]; decide))
        obtain ⟨hp, rfl⟩ := hp
        have hyd11606 := hp
        obtain ⟨yd11606, yd11607, yd11608, yd11609, yd11610, yd11611, yd11612⟩ := hyd11606
        refine m_aload_n F rfl e_X10_numeral_46 ?_
        refine r_getC F e_X10_numeral_47 fl_X10_141 h11604 (yd11611) ?_
        refine m_if_ne F e_X10_numeral_50 (fun _ => ?_) (fun q => absurd q (by decide))
        refine m_iload_n F rfl e_X10_numeral_60 ?_
        refine m_istore_n F (lv' := [(3, .int (nI n901)), (0, .ref c), (1, .int (nI n901)), (2, .int (nI n902))]) e_X10_numeral_61 (by decide) rfl ?_
        refine m_aload_n F rfl e_X10_numeral_62 ?_
        refine r_callV F e_X10_numeral_63 (q_X10_goOnG (x_l X) V c T 0 u h P L _ _  2 h11604.1 (hob) hP  (yd11611) (by decide)) cb_X10_goOn ml_X10_154 im_X10_goOn se_X10_goOn h11604 rfl rfl (rest := []) rfl (Nat.le_of_ble_eq_true rfl) ⟨Nat.le_of_ble_eq_true rfl, Nat.le_of_ble_eq_true rfl⟩ ⟨Nat.le_of_ble_eq_true rfl, Nat.le_of_ble_eq_true rfl⟩ (fun r σ11613 hp => ?_)
        obtain ⟨h11614, hp⟩ := hp
        have h11615 := HS.trans h11604 h11614 (by decide)
        have ga11616 := ga11605.of (h11614.2 (c + 1) (by rw [kC_at (k := 1) (by decide)]; decide))
        obtain ⟨rfl, rfl⟩ := hp
        refine m_iload_n F rfl e_X10_numeral_66 ?_
        have h11617 : HS V c _ [0, 2, 3, 4, 5, 6, 7, 8, 9, 10, 11, 12, 13, 14, 15, 16, 17, 18, 19, 20, 21, 22, 23] _ _ := ⟨HR.mono (Z' := Z) (by intro e; first | rfl | assumption | omega) h11615.1, h11615.2⟩
        exact m_iret F hQ e_X10_numeral_67 (⟨P, hP, (by unfold RA; omega), (Or.inr (Or.inr ⟨rfl, by omega, ⟨yd11611, yd11612⟩, rfl⟩)), h11617, trivial⟩)
  · refine r_getC F e_X10_numeral_10 fl_X10_110 h1 (yd11527) ?_
    refine m_iconst F (v := 2) (by decide) e_X10_numeral_13 ?_
    refine m_icmp_eq F e_X10_numeral_14 (fun q => absurd q (by decide)) (fun _ => ?_)
    refine m_aload_n F rfl e_X10_numeral_17 ?_
    refine m_iconst F (v := 1) (by decide) e_X10_numeral_18 ?_
    refine r_callV F e_X10_numeral_19 (q_X10_wrongE (x_l X) V c T Z u h P L _ _ 1 n st 3 va ln fp h1.1 (hob) hP (by omega) ⟨(yd11524), (yd11525), (yd11526), (yd11527), (yd11528), (yd11529), (yd11530)⟩ (by decide)) cb_X10_wrong ml_X10_150 im_X10_wrong se_X10_wrong h1 rfl rfl (rest := []) rfl (Nat.le_of_ble_eq_true rfl) ⟨Nat.le_of_ble_eq_true rfl, Nat.le_of_ble_eq_true rfl⟩ ⟨Nat.le_of_ble_eq_true rfl, Nat.le_of_ble_eq_true rfl⟩ (fun r σ11618 hp => ?_)
    obtain ⟨h11619, hp⟩ := hp
    have h11620 := HS.trans h1 h11619 (by decide)
    have ga11621 := hp1.of (h11619.2 (c + 1) (by rw [kC_at (k := 1) (by decide)]; decide))
    obtain ⟨hp, rfl⟩ := hp
    have hyd11622 := hp
    obtain ⟨yd11622, yd11623, yd11624, yd11625, yd11626, yd11627, yd11628⟩ := hyd11622
    refine m_goto F e_X10_numeral_22 ?_
    refine m_aload_n F rfl e_X10_numeral_46 ?_
    refine r_getC F e_X10_numeral_47 fl_X10_141 h11620 (yd11627) ?_
    refine m_if_ne F e_X10_numeral_50 (fun _ => ?_) (fun q => absurd q (by decide))
    refine m_iload_n F rfl e_X10_numeral_60 ?_
    refine m_istore_n F (lv' := [(3, .int (nI n901)), (0, .ref c), (1, .int (nI n901)), (2, .int (nI n902))]) e_X10_numeral_61 (by decide) rfl ?_
    refine m_aload_n F rfl e_X10_numeral_62 ?_
    refine r_callV F e_X10_numeral_63 (q_X10_goOnG (x_l X) V c T 0 u h P L _ _  1 h11620.1 (hob) hP  (yd11627) (by decide)) cb_X10_goOn ml_X10_154 im_X10_goOn se_X10_goOn h11620 rfl rfl (rest := []) rfl (Nat.le_of_ble_eq_true rfl) ⟨Nat.le_of_ble_eq_true rfl, Nat.le_of_ble_eq_true rfl⟩ ⟨Nat.le_of_ble_eq_true rfl, Nat.le_of_ble_eq_true rfl⟩ (fun r σ11629 hp => ?_)
    obtain ⟨h11630, hp⟩ := hp
    have h11631 := HS.trans h11620 h11630 (by decide)
    have ga11632 := ga11621.of (h11630.2 (c + 1) (by rw [kC_at (k := 1) (by decide)]; decide))
    obtain ⟨rfl, rfl⟩ := hp
    refine m_iload_n F rfl e_X10_numeral_66 ?_
    have h11633 : HS V c _ [0, 2, 3, 4, 5, 6, 7, 8, 9, 10, 11, 12, 13, 14, 15, 16, 17, 18, 19, 20, 21, 22, 23] _ _ := ⟨HR.mono (Z' := Z) (by intro e; first | rfl | assumption | omega) h11631.1, h11631.2⟩
    exact m_iret F hQ e_X10_numeral_67 (⟨P, hP, (by unfold RA; omega), (Or.inr (Or.inl ⟨by decide, ⟨yd11627, yd11628⟩, rfl⟩)), h11633, trivial⟩)
  · refine r_getC F e_X10_numeral_10 fl_X10_110 h1 (yd11527) ?_
    refine m_iconst F (v := 2) (by decide) e_X10_numeral_13 ?_
    refine m_icmp_eq F e_X10_numeral_14 (fun q => absurd q (by decide)) (fun _ => ?_)
    refine m_aload_n F rfl e_X10_numeral_17 ?_
    refine m_iconst F (v := 1) (by decide) e_X10_numeral_18 ?_
    refine r_callV F e_X10_numeral_19 (q_X10_wrongE (x_l X) V c T Z u h P L _ _ 1 n st 5 va ln fp h1.1 (hob) hP (by omega) ⟨(yd11524), (yd11525), (yd11526), (yd11527), (yd11528), (yd11529), (yd11530)⟩ (by decide)) cb_X10_wrong ml_X10_150 im_X10_wrong se_X10_wrong h1 rfl rfl (rest := []) rfl (Nat.le_of_ble_eq_true rfl) ⟨Nat.le_of_ble_eq_true rfl, Nat.le_of_ble_eq_true rfl⟩ ⟨Nat.le_of_ble_eq_true rfl, Nat.le_of_ble_eq_true rfl⟩ (fun r σ11634 hp => ?_)
    obtain ⟨h11635, hp⟩ := hp
    have h11636 := HS.trans h1 h11635 (by decide)
    have ga11637 := hp1.of (h11635.2 (c + 1) (by rw [kC_at (k := 1) (by decide)]; decide))
    obtain ⟨hp, rfl⟩ := hp
    have hyd11638 := hp
    obtain ⟨yd11638, yd11639, yd11640, yd11641, yd11642, yd11643, yd11644⟩ := hyd11638
    refine m_goto F e_X10_numeral_22 ?_
    refine m_aload_n F rfl e_X10_numeral_46 ?_
    refine r_getC F e_X10_numeral_47 fl_X10_141 h11636 (yd11643) ?_
    refine m_if_ne F e_X10_numeral_50 (fun _ => ?_) (fun q => absurd q (by decide))
    refine m_iload_n F rfl e_X10_numeral_60 ?_
    refine m_istore_n F (lv' := [(3, .int (nI n901)), (0, .ref c), (1, .int (nI n901)), (2, .int (nI n902))]) e_X10_numeral_61 (by decide) rfl ?_
    refine m_aload_n F rfl e_X10_numeral_62 ?_
    refine r_callV F e_X10_numeral_63 (q_X10_goOnG (x_l X) V c T 0 u h P L _ _  1 h11636.1 (hob) hP  (yd11643) (by decide)) cb_X10_goOn ml_X10_154 im_X10_goOn se_X10_goOn h11636 rfl rfl (rest := []) rfl (Nat.le_of_ble_eq_true rfl) ⟨Nat.le_of_ble_eq_true rfl, Nat.le_of_ble_eq_true rfl⟩ ⟨Nat.le_of_ble_eq_true rfl, Nat.le_of_ble_eq_true rfl⟩ (fun r σ11645 hp => ?_)
    obtain ⟨h11646, hp⟩ := hp
    have h11647 := HS.trans h11636 h11646 (by decide)
    have ga11648 := ga11637.of (h11646.2 (c + 1) (by rw [kC_at (k := 1) (by decide)]; decide))
    obtain ⟨rfl, rfl⟩ := hp
    refine m_iload_n F rfl e_X10_numeral_66 ?_
    have h11649 : HS V c _ [0, 2, 3, 4, 5, 6, 7, 8, 9, 10, 11, 12, 13, 14, 15, 16, 17, 18, 19, 20, 21, 22, 23] _ _ := ⟨HR.mono (Z' := Z) (by intro e; first | rfl | assumption | omega) h11647.1, h11647.2⟩
    exact m_iret F hQ e_X10_numeral_67 (⟨P, hP, (by unfold RA; omega), (Or.inr (Or.inl ⟨by decide, ⟨yd11643, yd11644⟩, rfl⟩)), h11649, trivial⟩)
set_option maxRecDepth 20000 in
theorem lq_X10_namedAtE_3 {V : VX} {X : MX} {N : Nat} {σ : Mem} {c T Z u h : Nat} {P : NP} {L : Nat → LQ}  {n902 : Nat} {n903 : Nat} {nm : Nat → Nat} (F : Fx V X yX10_namedAt cX10_namedAt 5 (some .int) (rmd 0 0 0)) (hQ : Rt V X 0 0 N (fun r τ => HS V c (⟨T, Z, u, h, P, L⟩ : RG) [0, 1, 2, 3, 4, 5, 6, 7, 8, 9, 10, 11, 12, 13, 14, 15, 16, 17, 18, 19, 20, 21, 22, 23] σ τ ∧ ((fx nm n903 n902 < n902 ∧ r = some (.int (nI (fx nm n903 n902)))) ∨ (¬ fx nm n903 n902 < n902 ∧ r = some (.int (-1)))))) (hob : OKB L) (hP : OKP P) (hn902 : n902 ≤ 4) (hn903 : n903 ≤ 1073741823) (hp0 : MR σ c n902 nm)  : ∀ (fuel : Nat) (i : Nat) (τ : Mem), HS V c (⟨T, Z, u, h, P, L⟩ : RG) [0, 1, 2, 3, 4, 5, 6, 7, 8, 9, 10, 11, 12, 13, 14, 15, 16, 17, 18, 19, 20, 21, 22, 23] σ τ → i ≤ n902 ∧ (∀ j, j < i → nm j ≠ n903) ∧ fx nm n903 n902 = sc (fun c => c != n903) nm n902 i → n902 - i < fuel → Wm V X 5 N τ 0 0 3 [(0, .ref c), (1, .int 4), (2, .int (nI n902)), (3, .int (nI n903)), (4, .int (nI i))] [] := by
  intro fuel
  induction fuel with
  | zero => intros; rename_i hm; exact absurd hm (Nat.not_lt_zero _)
  | succ fuel ih =>
    intro i τ h1 hi hm
    have hPP := hP
    unfold OKP at hPP
    obtain ⟨i1, i2, i3⟩ := hi
    have hM1 := hp0.of (h1.2 (c + 3) (by rw [kC_at (k := 3) (by decide)]; decide))
    refine m_iload F rfl e_X10_namedAt_3 ?_
    refine m_iload_n F rfl e_X10_namedAt_5 ?_
    refine m_icmp_ge F e_X10_namedAt_6 (fun q6 => ?_) (fun q6 => ?_)
    · have c6 : i ≥ n902 := (nI_leI (a := n902) (b := i) (by omega) (by omega)).mp q6
      refine m_iconst F (v := (-1)) (by decide) e_X10_namedAt_31 ?_
      exact m_iret F hQ e_X10_namedAt_32 (⟨h1, Or.inr ⟨by rw [i3, sc_stop (Or.inl (by omega))]; omega, rfl⟩⟩)
    · have c6 : i < n902 := by have hh := mt (nI_leI (a := n902) (b := i) (by omega) (by omega)).mpr q6; omega
      refine m_aload_n F rfl e_X10_namedAt_9 ?_
      refine r_get F e_X10_namedAt_10 fl_X10_16 h1 rfl (fun v hv f11650 => ?_)
      obtain rfl : v = .ref (c + 3) := hv
      refine m_iload_n F rfl e_X10_namedAt_13 ?_
      refine m_iload F rfl e_X10_namedAt_14 ?_
      refine m_iadd F e_X10_namedAt_16 ?_
      refine Wm.topE (w := nI (4 + i)) (nI_add 4 i) ?_
      have hb9 := (hM1 i (by omega)).1
      refine r_iald F (len := 8) (j := 4 + i) e_X10_namedAt_17 h1 (fun _ h => h) (by decide) (nI_clamp (by omega)) (vp_in_nI (by omega) (by decide)) (fun x11651 h11652 f11653 => ?_)
      obtain rfl := Option.some.inj ((f11653).symm.trans ((hM1 i (by omega)).2))
      refine m_iload_n F rfl e_X10_namedAt_18 ?_
      refine m_icmp_ne F e_X10_namedAt_19 (fun q19 => ?_) (fun q19 => ?_)
      · have c19 : (nm i) ≠ n903 := by have hh := mt (nI_eq (a := (nm i)) (b := n903) (by omega) (by omega)).mpr q19; omega
        refine m_iinc F (v := nI (i + 1)) (lv' := [(4, .int (nI (i + 1))), (0, .ref c), (1, .int 4), (2, .int (nI n902)), (3, .int (nI n903))]) e_X10_namedAt_25 rfl (nI_add i 1) (by decide) rfl ?_
        refine m_goto F e_X10_namedAt_28 ?_
        refine Wm.lvsub (lv' := [(0, .ref c), (1, .int 4), (2, .int (nI n902)), (3, .int (nI n903)), (4, .int (nI (i + 1)))]) ?_ [1, 2, 3, 4, 0] rfl
        exact ih (i + 1) _ h1 ⟨by omega, fun j hj => if e : j = i then (by rw [e]; omega) else i2 j (by omega), by rw [i3]; exact sc_go (by omega) (by simp; omega)⟩ (by omega)
      · have c19 : (nm i) = n903 := (nI_eq (a := (nm i)) (b := n903) (by omega) (by omega)).mp q19
        refine m_iload F rfl e_X10_namedAt_22 ?_
        exact m_iret F hQ e_X10_namedAt_24 (⟨h1, Or.inl ⟨by rw [i3, sc_stop (Or.inr (by simp; omega))]; omega, by rw [i3, sc_stop (Or.inr (by simp; omega))]⟩⟩)
set_option maxRecDepth 20000 in
theorem q_X10_namedAtE (l : Launch) (V : VX) (c T Z u h : Nat) (P : NP) (L : Nat → LQ) (N : Nat) (σ : Mem) (n902 : Nat) (n903 : Nat) (nm : Nat → Nat) (h0 : HR V c ⟨T, Z, u, h, P, L⟩ σ) (hob : OKB L) (hP : OKP P) (hn902 : n902 ≤ 4) (hn903 : n903 ≤ 1073741823) (hp0 : MR σ c n902 nm) : Ct l V yX10_namedAt cX10_namedAt 5 (some .int) 0 0 0 N σ [.ref c, .int 4, .int (nI n902), .int (nI n903)] (fun r τ => HS V c (⟨T, Z, u, h, P, L⟩ : RG) [0, 1, 2, 3, 4, 5, 6, 7, 8, 9, 10, 11, 12, 13, 14, 15, 16, 17, 18, 19, 20, 21, 22, 23] σ τ ∧ ((fx nm n903 n902 < n902 ∧ r = some (.int (nI (fx nm n903 n902)))) ∨ (¬ fx nm n903 n902 < n902 ∧ r = some (.int (-1))))) := by
  refine Ct.of (by decide) (Nat.le_of_ble_eq_true rfl) [(0, .ref c), (1, .int 4), (2, .int (nI n902)), (3, .int (nI n903))] rfl (fun X hX F hQ => ?_)
  have hPP := hP
  unfold OKP at hPP
  have h1 : HS V c ⟨T, Z, u, h, P, L⟩ [0, 1, 2, 3, 4, 5, 6, 7, 8, 9, 10, 11, 12, 13, 14, 15, 16, 17, 18, 19, 20, 21, 22, 23] σ σ := HS.start h0
  refine m_iconst F (v := 0) (by decide) e_X10_namedAt_0 ?_
  refine m_istore F (lv' := [(4, .int 0), (0, .ref c), (1, .int 4), (2, .int (nI n902)), (3, .int (nI n903))]) e_X10_namedAt_1 (by decide) rfl ?_
  refine Wm.lvsub (lv' := [(0, .ref c), (1, .int 4), (2, .int (nI n902)), (3, .int (nI n903)), (4, .int 0)]) ?_ [1, 2, 3, 4, 0] rfl
  exact lq_X10_namedAtE_3 F hQ hob hP hn902 hn903 hp0 (n902 - 0 + 1) 0 _ h1 ⟨by omega, fun j hj => absurd hj (Nat.not_lt_zero _), rfl⟩ (Nat.lt_succ_self _)
