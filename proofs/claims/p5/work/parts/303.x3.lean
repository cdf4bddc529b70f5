/-! what the LINES do, as both readers must tell it: a token is (place, sort, value, next); a state: token, how many LEASES, names, pays, changes, least next change, options, seed told, what was told of each LEASE, lines; or a fault and its place -/
abbrev Tk : Type := Nat × Nat × Nat × Nat
abbrev SS : Type := Tk × Nat × (Nat → Nat) × Nat × Nat × Nat × Nat × Nat × (Nat → Nat → Bool) × Nat
abbrev RO : Type := Sum (Nat × Nat) SS
def fx (nm : Nat → Nat) (v nl : Nat) : Nat := sc (fun c => c != v) nm nl 0
def upn (nm : Nat → Nat) (i v : Nat) : Nat → Nat := fun j => if j = i then v else nm j
def upm (md : Nat → Nat → Bool) (i : Nat) (f : Nat → Bool) : Nat → Nat → Bool := fun j => if j = i then f else md j
def upb (md : Nat → Nat → Bool) (l b : Nat) : Nat → Nat → Bool := upm md l (fun j => if j = b then true else md l j)
def numK (X : Nat → Tk) (k : Tk) (lo hi : Nat) (go : Nat → Tk → RO) : RO := if k.2.1 = 3 then (if lo ≤ k.2.2.1 ∧ k.2.2.1 ≤ hi then go k.2.2.1 (X k.2.2.2) else .inl (2, k.1)) else .inl (1, k.1)
def newK (X : Nat → Tk) (k : Tk) (nl : Nat) (nm : Nat → Nat) (go : Nat → Tk → RO) : RO := if k.2.1 = 2 then (if fx nm k.2.2.1 nl < nl then .inl (3, k.1) else go k.2.2.1 (X k.2.2.2)) else .inl (1, k.1)
def tolK (X : Nat → Tk) (k : Tk) (nl : Nat) (nm : Nat → Nat) (go : Nat → Tk → RO) : RO := if k.2.1 = 2 then (if fx nm k.2.2.1 nl < nl then go (fx nm k.2.2.1 nl) (X k.2.2.2) else .inl (4, k.1)) else .inl (1, k.1)
def oncK (X : Nat → Tk) (k : Tk) (nl : Nat) (nm : Nat → Nat) (md : Nat → Nat → Bool) (b : Nat) (go : Nat → Tk → RO) : RO := if k.2.1 = 2 then (if fx nm k.2.2.1 nl < nl then (if md (fx nm k.2.2.1 nl) b then .inl (3, k.1) else go (fx nm k.2.2.1 nl) (X k.2.2.2)) else .inl (4, k.1)) else .inl (1, k.1)
section KS
variable {X : Nat → Tk} {k : Tk} {lo hi nl b : Nat} {nm : Nat → Nat} {md : Nat → Nat → Bool} {go : Nat → Tk → RO}
theorem numK_ok (h : k.2.1 = 3) (h1 : lo ≤ k.2.2.1) (h2 : k.2.2.1 ≤ hi) : numK X k lo hi go = go k.2.2.1 (X k.2.2.2) := by unfold numK; rw [if_pos h, if_pos ⟨h1, h2⟩]
theorem numK_1 (h : k.2.1 ≠ 3) : numK X k lo hi go = .inl (1, k.1) := by unfold numK; rw [if_neg h]
theorem numK_2 (h : k.2.1 = 3) (h1 : k.2.2.1 < lo ∨ hi < k.2.2.1) : numK X k lo hi go = .inl (2, k.1) := by unfold numK; rw [if_pos h, if_neg (by omega)]
theorem newK_ok (h : k.2.1 = 2) (h1 : ¬ fx nm k.2.2.1 nl < nl) : newK X k nl nm go = go k.2.2.1 (X k.2.2.2) := by unfold newK; rw [if_pos h, if_neg h1]
theorem newK_1 (h : k.2.1 ≠ 2) : newK X k nl nm go = .inl (1, k.1) := by unfold newK; rw [if_neg h]
theorem newK_3 (h : k.2.1 = 2) (h1 : fx nm k.2.2.1 nl < nl) : newK X k nl nm go = .inl (3, k.1) := by unfold newK; rw [if_pos h, if_pos h1]
theorem tolK_ok (h : k.2.1 = 2) (h1 : fx nm k.2.2.1 nl < nl) : tolK X k nl nm go = go (fx nm k.2.2.1 nl) (X k.2.2.2) := by unfold tolK; rw [if_pos h, if_pos h1]
theorem tolK_1 (h : k.2.1 ≠ 2) : tolK X k nl nm go = .inl (1, k.1) := by unfold tolK; rw [if_neg h]
theorem tolK_4 (h : k.2.1 = 2) (h1 : ¬ fx nm k.2.2.1 nl < nl) : tolK X k nl nm go = .inl (4, k.1) := by unfold tolK; rw [if_pos h, if_neg h1]
theorem oncK_ok (h : k.2.1 = 2) (h1 : fx nm k.2.2.1 nl < nl) (h2 : md (fx nm k.2.2.1 nl) b = false) : oncK X k nl nm md b go = go (fx nm k.2.2.1 nl) (X k.2.2.2) := by unfold oncK; rw [if_pos h, if_pos h1, h2]; rfl
theorem oncK_1 (h : k.2.1 ≠ 2) : oncK X k nl nm md b go = .inl (1, k.1) := by unfold oncK; rw [if_neg h]
theorem oncK_4 (h : k.2.1 = 2) (h1 : ¬ fx nm k.2.2.1 nl < nl) : oncK X k nl nm md b go = .inl (4, k.1) := by unfold oncK; rw [if_pos h, if_neg h1]
theorem oncK_3 (h : k.2.1 = 2) (h1 : fx nm k.2.2.1 nl < nl) (h2 : md (fx nm k.2.2.1 nl) b = true) : oncK X k nl nm md b go = .inl (3, k.1) := by unfold oncK; rw [if_pos h, if_pos h1, h2]; rfl
end KS
section LS
variable (X : Nat → Tk) (k : Tk) (nl : Nat) (nm : Nat → Nat) (np nc lc no sd : Nat) (md : Nat → Nat → Bool) (ln : Nat)
def leaseS : RO := if 4 ≤ nl then .inl (2, k.1) else newK X (X k.2.2.2) nl nm fun v k1 => numK X k1 0 20 fun _ k2 => numK X k2 1 48 fun _ k3 => numK X k3 0 200000 fun _ k4 => .inr (k4, nl + 1, upn nm nl v, np, nc, lc, no, sd, upm md nl (fun _ => false), ln)
def payS : RO := if 12 ≤ np then .inl (2, k.1) else tolK X (X k.2.2.2) nl nm fun _ k1 => numK X k1 1 48 fun a k2 => numK X k2 a 48 fun _ k3 => numK X k3 0 99999 fun _ k4 => .inr (k4, nl, nm, np + 1, nc, lc, no, sd, md, ln)
def earlyS : RO := oncK X (X k.2.2.2) nl nm md 0 fun l k1 => .inr (k1, nl, nm, np, nc, lc, no, sd, upb md l 0, ln)
def fairS : RO := oncK X (X k.2.2.2) nl nm md 1 fun l k1 => numK X k1 1 9999999 fun _ k2 => .inr (k2, nl, nm, np, nc, lc, no, sd, upb md l 1, ln)
def feeS : RO := oncK X (X k.2.2.2) nl nm md 2 fun l k1 => numK X k1 0 99999 fun _ k2 => .inr (k2, nl, nm, np, nc, lc, no, sd, upb md l 2, ln)
def tiedS : RO := oncK X (X k.2.2.2) nl nm md 3 fun l k1 => .inr (k1, nl, nm, np, nc, lc, no, sd, upb md l 3, ln)
def indexS : RO := if 8 ≤ nc then .inl (2, k.1) else numK X (X k.2.2.2) lc 99 fun p k1 => numK X k1 500 2000 fun _ k2 => .inr (k2, nl, nm, np, nc + 1, p + 1, no, sd, md, ln)
def optionS : RO := if 4 ≤ no then .inl (2, k.1) else tolK X (X k.2.2.2) nl nm fun _ k1 => numK X k1 1 24 fun _ k2 => numK X k2 0 99999 fun _ k3 => .inr (k3, nl, nm, np, nc, lc, no + 1, sd, md, ln)
def seedS : RO := if sd = 0 then numK X (X k.2.2.2) 0 99999 fun _ k1 => .inr (k1, nl, nm, np, nc, lc, no, 1, md, ln) else .inl (3, k.1)
def lineS : RO := if k.2.1 = 1 then (if k.2.2.1 = 0 then leaseS X k nl nm np nc lc no sd md ln else if k.2.2.1 = 1 then payS X k nl nm np nc lc no sd md ln else if k.2.2.1 = 2 then earlyS X k nl nm np nc lc no sd md ln else if k.2.2.1 = 3 then fairS X k nl nm np nc lc no sd md ln else if k.2.2.1 = 4 then feeS X k nl nm np nc lc no sd md ln else if k.2.2.1 = 5 then tiedS X k nl nm np nc lc no sd md ln else if k.2.2.1 = 6 then indexS X k nl nm np nc lc no sd md ln else if k.2.2.1 = 7 then optionS X k nl nm np nc lc no sd md ln else seedS X k nl nm np nc lc no sd md ln) else .inl (1, k.1)
def stopS : RO := if k.2.1 = 4 then .inr (X k.2.2.2, nl, nm, np, nc, lc, no, sd, md, ln + 1) else .inl (1, k.1)
end LS
def lineT (X : Nat → Tk) : SS → RO
  | (k, nl, nm, np, nc, lc, no, sd, md, ln) => lineS X k nl nm np nc lc no sd md ln
def stopT (X : Nat → Tk) : SS → RO
  | (k, nl, nm, np, nc, lc, no, sd, md, ln) => stopS X k nl nm np nc lc no sd md ln
def thenS (o : RO) (f : SS → RO) : RO := match o with
  | .inl e => .inl e
  | .inr S => f S
def textS (X : Nat → Tk) : Nat → SS → RO
  | 0, S => .inr S
  | f + 1, S => if S.1.2.1 = 0 then .inr S else thenS (thenS (lineT X S) (stopT X)) (textS X f)
def S0 (X : Nat → Tk) : SS := (X 0, 0, fun _ => 0, 0, 0, 0, 0, 0, fun _ _ => false, 0)
/-- every token but the END goes on -/
def Xok (X : Nat → Tk) (n : Nat) : Prop := ∀ a, a ≤ n → a ≤ (X a).1 ∧ (X a).1 ≤ (X a).2.2.2 ∧ (X a).2.2.2 ≤ n ∧ ((X a).2.1 ≠ 0 → (X a).1 < (X a).2.2.2)
theorem tok_ok {t : Nat → Nat} {n : Nat} : Xok (tok t n) n := by
  intro a ha
  have h1 := sc_in (p := isB) (t := t) ha
  unfold tok
  dsimp only
  have hL := sc_in (p := isL) (t := t) (n := n) (a := sc isB t n a) h1.2
  have hD := sc_in (p := isD) (t := t) (n := n) (a := sc isB t n a) h1.2
  by_cases g0 : n ≤ sc isB t n a
  · rw [if_pos g0]
    exact ⟨h1.1, Nat.le_refl _, h1.2, fun e => absurd rfl e⟩
  · rw [if_neg g0]
    by_cases g1 : isL (t (sc isB t n a)) = true
    · rw [if_pos g1]
      have hL2 : sc isL t n (sc isB t n a) = sc isL t n (sc isB t n a + 1) := sc_go (by omega) g1
      have hL3 := sc_in (p := isL) (t := t) (n := n) (a := sc isB t n a + 1) (by omega)
      split
      · split
        · exact ⟨h1.1, hL.1, hL.2, fun _ => by show sc isB t n a < sc isL t n (sc isB t n a); omega⟩
        · exact ⟨h1.1, hL.1, hL.2, fun _ => by show sc isB t n a < sc isL t n (sc isB t n a); omega⟩
      · exact ⟨h1.1, hL.1, hL.2, fun _ => by show sc isB t n a < sc isL t n (sc isB t n a); omega⟩
    · rw [if_neg g1]
      by_cases g2 : isD (t (sc isB t n a)) = true
      · rw [if_pos g2]
        have hD2 : sc isD t n (sc isB t n a) = sc isD t n (sc isB t n a + 1) := sc_go (by omega) g2
        have hD3 := sc_in (p := isD) (t := t) (n := n) (a := sc isB t n a + 1) (by omega)
        exact ⟨h1.1, hD.1, hD.2, fun _ => by show sc isB t n a < sc isD t n (sc isB t n a); omega⟩
      · rw [if_neg g2]
        exact ⟨h1.1, Nat.le_succ _, by show sc isB t n a + 1 ≤ n; omega, fun _ => Nat.lt_succ_self _⟩
/-- fault and place, as the class's reader keeps them -/
def FT (σ : Mem) (a f p : Nat) : Prop := fld σ a 11 = some (.int (nI f)) ∧ fld σ a 12 = some (.int (nI p))
def elA (σ : Mem) (a j : Nat) : Option Int32 := match σ a with
  | some (.inl (_, _, .inl f)) => some (f j)
  | _ => none
theorem elA_of {V : VX} {σ : Mem} {a len j : Nat} {f : Nat → Int32} (h : σ a = some (aI V len f)) : elA σ a j = some (f j) := by unfold elA; rw [h]
theorem elA_eq {σ τ : Mem} {a j : Nat} (h : τ a = σ a) : elA τ a j = elA σ a j := by unfold elA; rw [h]
/-- a book, as far as the reader looks at it -/
def BX (σ : Mem) (bk nl : Nat) (nm : Nat → Nat) (nc lc no : Nat) : Prop := fld σ bk 8 = some (.int (nI nl)) ∧ fld σ bk 9 = some (.int (nI no)) ∧ fld σ bk 10 = some (.int (nI nc)) ∧ (∀ i, i < nl → nm i < 1073741824 ∧ fld σ (bk + 1 + 10 + 12 * i) 0 = some (.int (nI (nm i)))) ∧ (nc = 0 ∧ lc = 0 ∨ 1 ≤ nc ∧ 1 ≤ lc ∧ lc ≤ 100 ∧ elA σ (bk + 4) (nc - 1) = some (nI (lc - 1))) ∧ nl ≤ 4 ∧ nc ≤ 8 ∧ no ≤ 4
theorem kA_lease {b bk i : Nat} (h : kA b bk = 7) (hi : i < 4) : kA b (bk + 1 + 10 + 12 * i) = 15 := kA_8 (kA_7 h (r := 1) (by decide)) hi
theorem BX.keep {b : Nat} {σ τ : Mem} {bk nl : Nat} {nm : Nat → Nat} {nc lc no : Nat} (h : BX σ bk nl nm nc lc no) (hbk : kA b bk = 7) (h8 : fld τ bk 8 = fld σ bk 8) (h9 : fld τ bk 9 = fld σ bk 9) (h10 : fld τ bk 10 = fld σ bk 10) (h11 : τ (bk + 4) = σ (bk + 4)) (h15 : ∀ x, kA b x = 15 → fld τ x 0 = fld σ x 0) : BX τ bk nl nm nc lc no := by
  obtain ⟨a1, a2, a3, a4, a5, a6, a7, a8⟩ := h
  refine ⟨h8.trans a1, h9.trans a2, h10.trans a3, fun i hi => ⟨(a4 i hi).1, (h15 _ (kA_lease hbk (by omega))).trans (a4 i hi).2⟩, ?_, a6, a7, a8⟩
  rcases a5 with a5 | ⟨b1, b2, b3, b4⟩
  · exact Or.inl a5
  · exact Or.inr ⟨b1, b2, b3, (elA_eq h11).trans b4⟩
theorem BX.hk {V : VX} {G : GH} {b M Z T : Nat} {ks : List Nat} {σ τ : Mem} {bk nl : Nat} {nm : Nat → Nat} {nc lc no : Nat} (h : BX σ bk nl nm nc lc no) (hbk : kA b bk = 7) (hh : HK V G (b, M, Z, T) ks σ τ) (h7 : 7 ∈ ks) (h11 : 11 ∈ ks) (h15 : 15 ∈ ks) : BX τ bk nl nm nc lc no := by
  have e7 : τ bk = σ bk := hh.2 bk (by rw [show kA (b, M, Z, T).1 bk = 7 from hbk]; exact h7)
  have e11 : kA b (bk + 4) = 11 := kA_7 hbk (r := 4) (by decide)
  exact h.keep hbk (fld_eq e7) (fld_eq e7) (fld_eq e7) (hh.2 _ (by rw [show kA (b, M, Z, T).1 (bk + 4) = 11 from e11]; exact h11)) (fun x hx => fld_eq (hh.2 x (by rw [show kA (b, M, Z, T).1 x = 15 from hx]; exact h15)))
/-- bits of a LEASE: what was told of it -/
def mk4 (f : Nat → Bool) : Nat := (if f 0 then 1 else 0) + (if f 1 then 2 else 0) + (if f 2 then 4 else 0) + (if f 3 then 8 else 0)
theorem mk4_and {f : Nat → Bool} {b : Nat} (hb : b < 4) : (nI (mk4 f) &&& nI (2 ^ b) = 0) ↔ f b = false := by
  have key : ∀ (b0 b1 b2 b3 : Bool), ∀ b, b < 4 → ((nI ((if b0 then 1 else 0) + (if b1 then 2 else 0) + (if b2 then 4 else 0) + (if b3 then 8 else 0)) &&& nI (2 ^ b) = 0) ↔ (if b = 0 then b0 else if b = 1 then b1 else if b = 2 then b2 else b3) = false) := by decide
  have h := key (f 0) (f 1) (f 2) (f 3) b hb
  unfold mk4
  rw [h]
  have hc : b = 0 ∨ b = 1 ∨ b = 2 ∨ b = 3 := by omega
  rcases hc with rfl | rfl | rfl | rfl <;> rfl
theorem mk4_or {f : Nat → Bool} {b : Nat} (hb : b < 4) : nI (mk4 f) ||| nI (2 ^ b) = nI (mk4 (fun j => if j = b then true else f j)) := by
  have key : ∀ (b0 b1 b2 b3 : Bool), ∀ b, b < 4 → nI ((if b0 then 1 else 0) + (if b1 then 2 else 0) + (if b2 then 4 else 0) + (if b3 then 8 else 0)) ||| nI (2 ^ b) = nI ((if (if 0 = b then true else b0) then 1 else 0) + (if (if 1 = b then true else b1) then 2 else 0) + (if (if 2 = b then true else b2) then 4 else 0) + (if (if 3 = b then true else b3) then 8 else 0)) := by decide
  exact key (f 0) (f 1) (f 2) (f 3) b hb
theorem mk4_0 : mk4 (fun _ => false) = 0 := rfl
def TD (V : VX) (σ : Mem) (td nl : Nat) (md : Nat → Nat → Bool) : Prop := ∃ f, σ td = some (aI V 4 f) ∧ ∀ i, i < 4 → f i = if i < nl then nI (mk4 (md i)) else 0
theorem TD.keep {V : VX} {σ τ : Mem} {td nl : Nat} {md : Nat → Nat → Bool} (h : TD V σ td nl md) (e : τ td = σ td) : TD V τ td nl md := by
  obtain ⟨f, h1, h2⟩ := h
  exact ⟨f, e.trans h1, h2⟩
/-- the class's reader and its book, in a state without a fault -/
def CS (V : VX) (σ : Mem) (a tp td n bk : Nat) : SS → Prop
  | (k, nl, nm, np, nc, lc, no, sd, md, ln) => ∃ tk vl, CT tk vl k.2.1 k.2.2.1 ∧ RD σ a tp td n bk k.2.2.2 k.1 tk vl np sd ln 0 (-1) ∧ BX σ bk nl nm nc lc no ∧ TD V σ td nl md ∧ k.2.2.2 ≤ n ∧ k.1 ≤ n ∧ np ≤ 12 ∧ sd ≤ 1
def RES (V : VX) (σ : Mem) (a tp td n bk : Nat) (o : RO) : Prop := match o with
  | .inl e => FT σ a e.1 e.2 ∧ 1 ≤ e.1 ∧ e.1 ≤ 4 ∧ e.2 ≤ n
  | .inr S => CS V σ a tp td n bk S
section XROWS
variable {V : VX} {X : MX} {y : MethodName} {cc : ByteArray} {nL N k z pc n : Nat} {ret : Option FieldType} {R : Room} {σ : Mem} {lv : List (Nat × Value)} {st : List Value} {E : PE} {q : Nat} {ks : List Nat} {σ0 : Mem}
theorem t_putC {G : GH} (F : Fx V X y cc nL ret R) {index ci j a : Nat} {tys : List (Nat × Nat)} {t : Nat × Nat} {ty : FieldType} {v : Value} (d : DC cc pc 3 n (.putfield index)) (fp : FP y.cls index ci j false ty) (hC : ∀ c, CellTy V G E a q c ↔ ∃ fs, c = some (ob ci fs) ∧ TyL G E a tys fs) (h : HK V G E ks σ0 σ) (hk : kA E.1 a = q) (hj : tys[j]? = some t) (hv : TyV G E a t v) (hn : narrow ty v = v) (hf : fits ty v = true) (hq : q ∉ ks) (kk : ∀ σ' : Mem, HK V G E ks σ0 σ' → (∀ x, x ≠ a → σ' x = σ x) → (∀ i, i ≠ j → fld σ' a i = fld σ a i) → fld σ' a j = some v → Wm V X nL N σ' k z n lv st) : Wm V X nL N σ k z pc lv (v :: .ref a :: st) := by
  have h1 := h.1 a
  rw [hk] at h1
  obtain ⟨fs, h2, h3⟩ := (hC _).mp h1
  refine m_put F d fp h2 hn hf (by rw [h3.1]; exact (List.getElem?_eq_some_iff.mp hj).1) rfl rfl (kk _ (h.up ?_ (by rw [hk]; exact hq)) (fun x hx => va_up_ne _ _ hx) (fun i hi => ?_) (fld_of (va_up_self _ _ _) (List.getElem?_set_self (by rw [h3.1]; exact (List.getElem?_eq_some_iff.mp hj).1))))
  · rw [hk]
    exact (hC _).mpr ⟨_, rfl, h3.set hj hv⟩
  · unfold fld
    rw [va_up_self, h2]
    show (fs.set j v)[i]? = fs[i]?
    exact List.getElem?_set_ne (fun e => hi e.symm)
theorem t_ialdX {G : GH} (F : Fx V X y cc nL ret R) {a len j : Nat} {i : Int32} (d : DC cc pc 1 n .iaload) (hC : ∀ c, CellTy V G E a q c ↔ ∃ f, c = some (aI V len f)) (h : HK V G E ks σ0 σ) (hk : kA E.1 a = q) (hj : i.toNatClampNeg = j) (hin : vp_in i len) (kk : ∀ x : Int32, elA σ a j = some x → Wm V X nL N σ k z n lv (.int x :: st)) : Wm V X nL N σ k z pc lv (.int i :: .ref a :: st) := by
  have h1 := h.1 a
  rw [hk] at h1
  obtain ⟨f, h2⟩ := (hC _).mp h1
  exact m_iald F d h2 hj hin (kk _ (elA_of h2))
theorem t_iastX {G : GH} (F : Fx V X y cc nL ret R) {a len j : Nat} {i x : Int32} (d : DC cc pc 1 n .iastore) (hC : ∀ c, CellTy V G E a q c ↔ ∃ f, c = some (aI V len f)) (h : HK V G E ks σ0 σ) (hk : kA E.1 a = q) (hj : i.toNatClampNeg = j) (hin : vp_in i len) (hq : q ∉ ks) (kk : ∀ σ' : Mem, HK V G E ks σ0 σ' → (∀ x, x ≠ a → σ' x = σ x) → elA σ' a j = some x → (∀ i, i ≠ j → elA σ' a i = elA σ a i) → (∀ f, σ a = some (aI V len f) → σ' a = some (aI V len (fun i => if i = j then x else f i))) → Wm V X nL N σ' k z n lv st) : Wm V X nL N σ k z pc lv (.int x :: .int i :: .ref a :: st) := by
  have h1 := h.1 a
  rw [hk] at h1
  obtain ⟨f, h2⟩ := (hC _).mp h1
  have hu : upd f j x = fun i => if i = j then x else f i := by funext i; unfold upd; rfl
  refine m_iast F d h2 hj hin rfl rfl (kk _ (h.up ?_ (by rw [hk]; exact hq)) (fun x hx => va_up_ne _ _ hx) ?_ (fun i hi => ?_) (fun g hg => ?_))
  · rw [hk]; exact (hC _).mpr ⟨_, rfl⟩
  · rw [elA_of (V := V) (va_up_self _ _ _), hu]; exact congrArg some (if_pos rfl)
  · rw [elA_of (V := V) (va_up_self _ _ _), elA_of h2, hu]; exact congrArg some (if_neg hi)
  · rw [h2] at hg
    have h3 : f = g := by
      have h4 := congrArg (fun e : Option va_E => match e with | some (.inl (_, _, .inl f)) => f | _ => fun _ => 0) hg
      exact h4
    rw [va_up_self, hu, h3]
end XROWS
theorem kdn {b x y p q : Nat} (hx : kA b x = p) (hy : kA b y = q) (h : p ≠ q) : x ≠ y := fun e => h (by rw [← hx, ← hy, e])
theorem put15 {σ τ : Mem} {L : Nat} (g1 : ∀ x, x ≠ L → τ x = σ x) (g2 : fld τ L 0 = fld σ L 0) (x : Nat) : fld τ x 0 = fld σ x 0 := if e : x = L then e ▸ g2 else fld_eq (g1 x e)
section BXS
variable {b : Nat} {σ τ : Mem} {bk nl : Nat} {nm : Nat → Nat} {nc lc no : Nat}
theorem BX.addL {v : Nat} (h : BX σ bk nl nm nc lc no) (hbk : kA b bk = 7) (hn : nl < 4) (hv : v < 1073741824) (e8 : fld τ bk 8 = some (.int (nI (nl + 1)))) (e9 : fld τ bk 9 = fld σ bk 9) (e10 : fld τ bk 10 = fld σ bk 10) (e11 : τ (bk + 4) = σ (bk + 4)) (eL : fld τ (bk + 1 + 10 + 12 * nl) 0 = some (.int (nI v))) (e15 : ∀ x, x ≠ bk + 1 + 10 + 12 * nl → kA b x = 15 → fld τ x 0 = fld σ x 0) : BX τ bk (nl + 1) (upn nm nl v) nc lc no := by
  obtain ⟨a1, a2, a3, a4, a5, a6, a7, a8⟩ := h
  refine ⟨e8, e9.trans a2, e10.trans a3, fun i hi => ?_, ?_, by omega, a7, a8⟩
  · unfold upn
    by_cases e : i = nl
    · subst e; rw [if_pos rfl]; exact ⟨hv, eL⟩
    · rw [if_neg e]
      exact ⟨(a4 i (by omega)).1, (e15 _ (by omega) (kA_lease hbk (by omega))).trans (a4 i (by omega)).2⟩
  · rcases a5 with a5 | ⟨b1, b2, b3, b4⟩
    · exact Or.inl a5
    · exact Or.inr ⟨b1, b2, b3, (elA_eq e11).trans b4⟩
theorem BX.addI {p : Nat} (h : BX σ bk nl nm nc lc no) (hbk : kA b bk = 7) (hn : nc < 8) (hp : p ≤ 99) (e8 : fld τ bk 8 = fld σ bk 8) (e9 : fld τ bk 9 = fld σ bk 9) (e10 : fld τ bk 10 = some (.int (nI (nc + 1)))) (eE : elA τ (bk + 4) nc = some (nI p)) (e15 : ∀ x, kA b x = 15 → fld τ x 0 = fld σ x 0) : BX τ bk nl nm (nc + 1) (p + 1) no := by
  obtain ⟨a1, a2, a3, a4, a5, a6, a7, a8⟩ := h
  exact ⟨e8.trans a1, e9.trans a2, e10, fun i hi => ⟨(a4 i hi).1, (e15 _ (kA_lease hbk (by omega))).trans (a4 i hi).2⟩, Or.inr ⟨by omega, by omega, by omega, eE⟩, a6, by omega, a8⟩
theorem BX.addO (h : BX σ bk nl nm nc lc no) (hbk : kA b bk = 7) (hn : no < 4) (e8 : fld τ bk 8 = fld σ bk 8) (e9 : fld τ bk 9 = some (.int (nI (no + 1)))) (e10 : fld τ bk 10 = fld σ bk 10) (e11 : τ (bk + 4) = σ (bk + 4)) (e15 : ∀ x, kA b x = 15 → fld τ x 0 = fld σ x 0) : BX τ bk nl nm nc lc (no + 1) := by
  obtain ⟨a1, a2, a3, a4, a5, a6, a7, a8⟩ := h
  refine ⟨e8.trans a1, e9, e10.trans a3, fun i hi => ⟨(a4 i hi).1, (e15 _ (kA_lease hbk (by omega))).trans (a4 i hi).2⟩, ?_, a6, a7, by omega⟩
  rcases a5 with a5 | ⟨b1, b2, b3, b4⟩
  · exact Or.inl a5
  · exact Or.inr ⟨b1, b2, b3, (elA_eq e11).trans b4⟩
end BXS
theorem RES.l {V : VX} {σ : Mem} {a tp td n bk f p : Nat} (h : fld σ a 11 = some (.int (nI f))) (h2 : fld σ a 12 = some (.int (nI p))) (h3 : 1 ≤ f) (h4 : f ≤ 4) (h5 : p ≤ n) : RES V σ a tp td n bk (.inl (f, p)) := ⟨⟨h, h2⟩, h3, h4, h5⟩
theorem RES.r {V : VX} {σ : Mem} {a tp td n bk : Nat} {k : Tk} {nl : Nat} {nm : Nat → Nat} {np nc lc no sd : Nat} {md : Nat → Nat → Bool} {ln : Nat} {tk vl : Int32} (h1 : CT tk vl k.2.1 k.2.2.1) (h2 : RD σ a tp td n bk k.2.2.2 k.1 tk vl np sd ln 0 (-1)) (h3 : BX σ bk nl nm nc lc no) (h4 : TD V σ td nl md) (h5 : k.2.2.2 ≤ n) (h6 : k.1 ≤ n) (h7 : np ≤ 12) (h8 : sd ≤ 1) : RES V σ a tp td n bk (.inr (k, nl, nm, np, nc, lc, no, sd, md, ln)) := ⟨tk, vl, h1, h2, h3, h4, h5, h6, h7, h8⟩
theorem TD.at {V : VX} {σ : Mem} {td nl i : Nat} {md : Nat → Nat → Bool} (h : TD V σ td nl md) (hi : i < nl) (h4 : i < 4) : elA σ td i = some (nI (mk4 (md i))) := by
  obtain ⟨f, h1, h2⟩ := h
  rw [elA_of h1, h2 i h4, if_pos hi]
theorem TD.up {V : VX} {σ τ : Mem} {td nl i b : Nat} {md : Nat → Nat → Bool} (h : TD V σ td nl md) (hi : i < nl) (e : ∀ f, σ td = some (aI V 4 f) → τ td = some (aI V 4 (fun j => if j = i then nI (mk4 (fun j => if j = b then true else md i j)) else f j))) : TD V τ td nl (upb md i b) := by
  obtain ⟨f, h1, h2⟩ := h
  refine ⟨_, e f h1, fun j hj => ?_⟩
  unfold upb upm
  by_cases q : j = i
  · subst q; simp only [if_true]; rw [if_pos hi]
  · simp only [if_neg q]; exact h2 j hj
theorem TD.new {V : VX} {σ : Mem} {td nl : Nat} {md : Nat → Nat → Bool} (h : TD V σ td nl md) : TD V σ td (nl + 1) (upm md nl (fun _ => false)) := by
  obtain ⟨f, h1, h2⟩ := h
  refine ⟨f, h1, fun j hj => ?_⟩
  rw [h2 j hj]
  unfold upm
  by_cases q : j = nl
  · subst q; rw [if_neg (Nat.lt_irrefl _), if_pos (Nat.lt_succ_self _), if_pos rfl]; rfl
  · rw [if_neg q]
    by_cases q2 : j < nl
    · rw [if_pos q2, if_pos (by omega)]
    · rw [if_neg q2, if_neg (by omega)]
theorem fx_in {nm : Nat → Nat} {v nl : Nat} : fx nm v nl ≤ nl := (sc_in (Nat.zero_le _)).2
set_option maxRecDepth 20000 in
theorem s_X7_failAtG (l : Launch) (V : VX) (G : GH) (b M Z T N : Nat) (σ : Mem) (a : Nat) (x901 : Int32) (x902 : Int32) (ft : Int32) (pl : Int32) (h0 : HT V G (b, M, Z, T) σ) (hk : kA b a = 3) (hf1 : fld σ a 11 = some (.int ft)) (hf2 : fld σ a 12 = some (.int pl)) (hf0 : ft ≠ 0) (hM : M + 0 ≤ 1000000000) : Ct l V yX7_failAt cX7_failAt 3 none 0 0 0 N σ [.ref a, .int x901, .int x902] (fun r τ => HK V G (b, M, Z, T) [0, 1, 2, 3, 4, 5, 6, 7, 8, 9, 10, 11, 12, 13, 14, 15, 16, 17, 18, 19] σ τ ∧ fld τ a 11 = some (.int ft) ∧ fld τ a 12 = some (.int pl) ∧ r = none) := by
  refine Ct.of (by decide) (Nat.le_of_ble_eq_true rfl) [(0, .ref a), (1, .int x901), (2, .int x902)] rfl (fun X hX F hQ => ?_)
  have h1 : HK V G (b, M, Z, T) [0, 1, 2, 3, 4, 5, 6, 7, 8, 9, 10, 11, 12, 13, 14, 15, 16, 17, 18, 19] σ σ := HK.start h0
  refine m_aload_n F rfl e_X7_failAt_0 ?_
  refine t_getC F e_X7_failAt_1 fl_X7_55 (fun _ => o3) h1 hk (hf1) ?_
  refine m_if_ne F e_X7_failAt_4 (fun q4 => ?_) (fun q4 => ?_)
  · exact m_vret F hQ e_X7_failAt_17 (⟨h1, hf1, hf2, rfl⟩)
  · exact absurd q4 hf0
set_option maxRecDepth 20000 in
theorem s_X7_readNumberG (l : Launch) (V : VX) (G : GH) (b M Z T N : Nat) (σ : Mem) (a : Nat) (x901 : Int32) (x902 : Int32) (ft : Int32) (pl : Int32) (h0 : HT V G (b, M, Z, T) σ) (hk : kA b a = 3) (hf1 : fld σ a 11 = some (.int ft)) (hf2 : fld σ a 12 = some (.int pl)) (hf0 : ft ≠ 0) (hM : M + 0 ≤ 1000000000) : Ct l V yX7_readNumber cX7_readNumber 4 (some .int) 2 0 0 N σ [.ref a, .int x901, .int x902] (fun r τ => HK V G (b, M, Z, T) [0, 1, 2, 3, 4, 5, 6, 7, 8, 9, 10, 11, 12, 13, 14, 15, 16, 17, 18, 19] σ τ ∧ fld τ a 11 = some (.int ft) ∧ fld τ a 12 = some (.int pl) ∧ r = some (.int 0)) := by
  refine Ct.of (by decide) (Nat.le_of_ble_eq_true rfl) [(0, .ref a), (1, .int x901), (2, .int x902)] rfl (fun X hX F hQ => ?_)
  have h1 : HK V G (b, M, Z, T) [0, 1, 2, 3, 4, 5, 6, 7, 8, 9, 10, 11, 12, 13, 14, 15, 16, 17, 18, 19] σ σ := HK.start h0
  refine m_aload_n F rfl e_X7_readNumber_0 ?_
  refine t_getC F e_X7_readNumber_1 fl_X7_55 (fun _ => o3) h1 hk (hf1) ?_
  refine m_if_eq F e_X7_readNumber_4 (fun q4 => ?_) (fun q4 => ?_)
  · exact absurd q4 hf0
  · refine m_iconst F (v := 0) (by decide) e_X7_readNumber_7 ?_
    exact m_iret F hQ e_X7_readNumber_8 (⟨h1, hf1, hf2, rfl⟩)
set_option maxRecDepth 20000 in
theorem s_X7_readNameG (l : Launch) (V : VX) (G : GH) (b M Z T N : Nat) (σ : Mem) (a : Nat) (ft : Int32) (pl : Int32) (h0 : HT V G (b, M, Z, T) σ) (hk : kA b a = 3) (hf1 : fld σ a 11 = some (.int ft)) (hf2 : fld σ a 12 = some (.int pl)) (hf0 : ft ≠ 0) (hM : M + 0 ≤ 1000000000) : Ct l V yX7_readName cX7_readName 2 (some .int) 2 0 0 N σ [.ref a] (fun r τ => HK V G (b, M, Z, T) [0, 1, 2, 3, 4, 5, 6, 7, 8, 9, 10, 11, 12, 13, 14, 15, 16, 17, 18, 19] σ τ ∧ fld τ a 11 = some (.int ft) ∧ fld τ a 12 = some (.int pl) ∧ r = some (.int (-1))) := by
  refine Ct.of (by decide) (Nat.le_of_ble_eq_true rfl) [(0, .ref a)] rfl (fun X hX F hQ => ?_)
  have h1 : HK V G (b, M, Z, T) [0, 1, 2, 3, 4, 5, 6, 7, 8, 9, 10, 11, 12, 13, 14, 15, 16, 17, 18, 19] σ σ := HK.start h0
  refine m_aload_n F rfl e_X7_readName_0 ?_
  refine t_getC F e_X7_readName_1 fl_X7_55 (fun _ => o3) h1 hk (hf1) ?_
  refine m_if_eq F e_X7_readName_4 (fun q4 => ?_) (fun q4 => ?_)
  · exact absurd q4 hf0
  · refine m_iconst F (v := (-1)) (by decide) e_X7_readName_7 ?_
    exact m_iret F hQ e_X7_readName_8 (⟨h1, hf1, hf2, rfl⟩)
set_option maxRecDepth 20000 in
theorem s_X7_readNewNameG (l : Launch) (V : VX) (G : GH) (b M Z T N : Nat) (σ : Mem) (a : Nat) (ft : Int32) (pl : Int32) (h0 : HT V G (b, M, Z, T) σ) (hk : kA b a = 3) (hf1 : fld σ a 11 = some (.int ft)) (hf2 : fld σ a 12 = some (.int pl)) (hf0 : ft ≠ 0) (hM : M + 0 ≤ 1000000000) : Ct l V yX7_readNewName cX7_readNewName 3 (some .int) 3 0 0 N σ [.ref a] (fun r τ => HK V G (b, M, Z, T) [0, 1, 2, 3, 4, 5, 6, 7, 8, 9, 10, 11, 12, 13, 14, 15, 16, 17, 18, 19] σ τ ∧ fld τ a 11 = some (.int ft) ∧ fld τ a 12 = some (.int pl) ∧ ∃ x : Int32, r = some (.int x)) := by
  refine Ct.of (by decide) (Nat.le_of_ble_eq_true rfl) [(0, .ref a)] rfl (fun X hX F hQ => ?_)
  have h1 : HK V G (b, M, Z, T) [0, 1, 2, 3, 4, 5, 6, 7, 8, 9, 10, 11, 12, 13, 14, 15, 16, 17, 18, 19] σ σ := HK.start h0
  refine m_aload_n F rfl e_X7_readNewName_0 ?_
  refine t_get F e_X7_readNewName_1 fl_X7_188 (fun _ => o3) h1 hk rfl (fun v hv f4938 => ?_)
  obtain ⟨x4939, rfl⟩ := hv
  refine m_istore_n F (lv' := [(1, .int x4939), (0, .ref a)]) e_X7_readNewName_4 (by decide) rfl ?_
  refine m_aload_n F rfl e_X7_readNewName_5 ?_
  refine t_callV F e_X7_readNewName_6 (s_X7_readNameG (x_l X) V G b M Z T _ _ a  ft pl h1.1 hk  (hf1) (hf2) (by assumption) (by omega)) cb_X7_readName ml_X7_191 im_X7_readName se_X7_readName (fun _ => o3) h1 hk rfl rfl (rest := []) rfl (Nat.le_of_ble_eq_true rfl) ⟨Nat.le_of_ble_eq_true rfl, Nat.le_of_ble_eq_true rfl⟩ ⟨Nat.le_of_ble_eq_true rfl, Nat.le_of_ble_eq_true rfl⟩ (fun r σ4940 hp => ?_)
  obtain ⟨h4941, rd4943, rd4944, rfl⟩ := hp
  have h4942 := HK.trans h1 h4941 (by decide)
  refine m_istore_n F (lv' := [(2, .int (-1)), (1, .int x4939), (0, .ref a)]) e_X7_readNewName_9 (by decide) rfl ?_
  refine m_aload_n F rfl e_X7_readNewName_10 ?_
  refine t_get F e_X7_readNewName_11 fl_X7_23 (fun _ => o3) h4942 hk rfl (fun v hv f4946 => ?_)
  obtain ⟨r4947, k4948, rfl⟩ := hv
  refine m_iload_n F rfl e_X7_readNewName_14 ?_
  refine t_callV F e_X7_readNewName_15 (s_X2_leaseNamed (x_l X) V G b M Z T _ _ r4947 (-1) h4942.1 k4948  (by omega)) cb_X2_leaseNamed ml_X7_194 im_X2_leaseNamed se_X2_leaseNamed (fun _ => o7) h4942 k4948 rfl rfl (rest := []) rfl (Nat.le_of_ble_eq_true rfl) ⟨Nat.le_of_ble_eq_true rfl, Nat.le_of_ble_eq_true rfl⟩ ⟨Nat.le_of_ble_eq_true rfl, Nat.le_of_ble_eq_true rfl⟩ (fun r σ4949 hp => ?_)
  obtain ⟨h4951, c4952⟩ := hp
  have h4950 := HK.trans h4942 h4951 (by decide)
  rcases c4952 with ⟨n4953, hn4953, rfl⟩ | rfl
  · refine m_iconst F (v := (-1)) (by decide) e_X7_readNewName_18 ?_
    refine m_icmp_eq F e_X7_readNewName_19 (fun q19 => ?_) (fun q19 => ?_)
    · refine m_iload_n F rfl e_X7_readNewName_28 ?_
      exact m_iret F hQ e_X7_readNewName_29 (⟨h4950, (fld_eq (h4951.2 a (by rw [show kA _ a = 3 from hk]; decide))).trans rd4943, (fld_eq (h4951.2 a (by rw [show kA _ a = 3 from hk]; decide))).trans rd4944, _, rfl⟩)
    · refine m_aload_n F rfl e_X7_readNewName_22 ?_
      refine m_iconst F (v := 3) (by decide) e_X7_readNewName_23 ?_
      refine m_iload_n F rfl e_X7_readNewName_24 ?_
      refine t_callV F e_X7_readNewName_25 (s_X7_failAtG (x_l X) V G b M Z T _ _ a 3 x4939 ft pl h4950.1 hk  ((fld_eq (h4951.2 a (by rw [show kA _ a = 3 from hk]; decide))).trans rd4943) ((fld_eq (h4951.2 a (by rw [show kA _ a = 3 from hk]; decide))).trans rd4944) (by assumption) (by omega)) cb_X7_failAt ml_X7_197 im_X7_failAt se_X7_failAt (fun _ => o3) h4950 hk rfl rfl (rest := []) rfl (Nat.le_of_ble_eq_true rfl) ⟨Nat.le_of_ble_eq_true rfl, Nat.le_of_ble_eq_true rfl⟩ ⟨Nat.le_of_ble_eq_true rfl, Nat.le_of_ble_eq_true rfl⟩ (fun r σ4954 hp => ?_)
      obtain ⟨h4955, rd4957, rd4958, rfl⟩ := hp
      have h4956 := HK.trans h4950 h4955 (by decide)
      refine m_iload_n F rfl e_X7_readNewName_28 ?_
      exact m_iret F hQ e_X7_readNewName_29 (⟨h4956, rd4957, rd4958, _, rfl⟩)
  · refine m_iconst F (v := (-1)) (by decide) e_X7_readNewName_18 ?_
    refine m_icmp_eq F e_X7_readNewName_19 (fun _ => ?_) (fun q => absurd (by decide) q)
    refine m_iload_n F rfl e_X7_readNewName_28 ?_
    exact m_iret F hQ e_X7_readNewName_29 (⟨h4950, (fld_eq (h4951.2 a (by rw [show kA _ a = 3 from hk]; decide))).trans rd4943, (fld_eq (h4951.2 a (by rw [show kA _ a = 3 from hk]; decide))).trans rd4944, _, rfl⟩)
set_option maxRecDepth 20000 in
theorem s_X7_readToldNameG (l : Launch) (V : VX) (G : GH) (b M Z T N : Nat) (σ : Mem) (a : Nat) (ft : Int32) (pl : Int32) (h0 : HT V G (b, M, Z, T) σ) (hk : kA b a = 3) (hf1 : fld σ a 11 = some (.int ft)) (hf2 : fld σ a 12 = some (.int pl)) (hf0 : ft ≠ 0) (hM : M + 0 ≤ 1000000000) : Ct l V yX7_readToldName cX7_readToldName 3 (some .int) 3 0 0 N σ [.ref a] (fun r τ => HK V G (b, M, Z, T) [0, 1, 2, 3, 4, 5, 6, 7, 8, 9, 10, 11, 12, 13, 14, 15, 16, 17, 18, 19] σ τ ∧ fld τ a 11 = some (.int ft) ∧ fld τ a 12 = some (.int pl) ∧ ∃ x : Int32, r = some (.int x)) := by
  refine Ct.of (by decide) (Nat.le_of_ble_eq_true rfl) [(0, .ref a)] rfl (fun X hX F hQ => ?_)
  have h1 : HK V G (b, M, Z, T) [0, 1, 2, 3, 4, 5, 6, 7, 8, 9, 10, 11, 12, 13, 14, 15, 16, 17, 18, 19] σ σ := HK.start h0
  refine m_aload_n F rfl e_X7_readToldName_0 ?_
  refine t_get F e_X7_readToldName_1 fl_X7_188 (fun _ => o3) h1 hk rfl (fun v hv f4960 => ?_)
  obtain ⟨x4961, rfl⟩ := hv
  refine m_istore_n F (lv' := [(1, .int x4961), (0, .ref a)]) e_X7_readToldName_4 (by decide) rfl ?_
  refine m_aload_n F rfl e_X7_readToldName_5 ?_
  refine t_get F e_X7_readToldName_6 fl_X7_23 (fun _ => o3) h1 hk rfl (fun v hv f4962 => ?_)
  obtain ⟨r4963, k4964, rfl⟩ := hv
  refine m_aload_n F rfl e_X7_readToldName_9 ?_
  refine t_callV F e_X7_readToldName_10 (s_X7_readNameG (x_l X) V G b M Z T _ _ a  ft pl h1.1 hk  (hf1) (hf2) (by assumption) (by omega)) cb_X7_readName ml_X7_191 im_X7_readName se_X7_readName (fun _ => o3) h1 hk rfl rfl (rest := [.ref r4963]) rfl (Nat.le_of_ble_eq_true rfl) ⟨Nat.le_of_ble_eq_true rfl, Nat.le_of_ble_eq_true rfl⟩ ⟨Nat.le_of_ble_eq_true rfl, Nat.le_of_ble_eq_true rfl⟩ (fun r σ4965 hp => ?_)
  obtain ⟨h4966, rd4968, rd4969, rfl⟩ := hp
  have h4967 := HK.trans h1 h4966 (by decide)
  refine t_callV F e_X7_readToldName_13 (s_X2_leaseNamed (x_l X) V G b M Z T _ _ r4963 (-1) h4967.1 k4964  (by omega)) cb_X2_leaseNamed ml_X7_194 im_X2_leaseNamed se_X2_leaseNamed (fun _ => o7) h4967 k4964 rfl rfl (rest := []) rfl (Nat.le_of_ble_eq_true rfl) ⟨Nat.le_of_ble_eq_true rfl, Nat.le_of_ble_eq_true rfl⟩ ⟨Nat.le_of_ble_eq_true rfl, Nat.le_of_ble_eq_true rfl⟩ (fun r σ4971 hp => ?_)
  obtain ⟨h4973, c4974⟩ := hp
  have h4972 := HK.trans h4967 h4973 (by decide)
  rcases c4974 with ⟨n4975, hn4975, rfl⟩ | rfl
  · refine m_istore_n F (lv' := [(2, .int (nI n4975)), (1, .int x4961), (0, .ref a)]) e_X7_readToldName_16 (by decide) rfl ?_
    refine m_iload_n F rfl e_X7_readToldName_17 ?_
    refine m_iconst F (v := (-1)) (by decide) e_X7_readToldName_18 ?_
    refine m_icmp_ne F e_X7_readToldName_19 (fun q19 => ?_) (fun q19 => ?_)
    · refine m_iload_n F rfl e_X7_readToldName_28 ?_
      exact m_iret F hQ e_X7_readToldName_29 (⟨h4972, (fld_eq (h4973.2 a (by rw [show kA _ a = 3 from hk]; decide))).trans rd4968, (fld_eq (h4973.2 a (by rw [show kA _ a = 3 from hk]; decide))).trans rd4969, _, rfl⟩)
    · refine m_aload_n F rfl e_X7_readToldName_22 ?_
      refine m_iconst F (v := 4) (by decide) e_X7_readToldName_23 ?_
      refine m_iload_n F rfl e_X7_readToldName_24 ?_
      refine t_callV F e_X7_readToldName_25 (s_X7_failAtG (x_l X) V G b M Z T _ _ a 4 x4961 ft pl h4972.1 hk  ((fld_eq (h4973.2 a (by rw [show kA _ a = 3 from hk]; decide))).trans rd4968) ((fld_eq (h4973.2 a (by rw [show kA _ a = 3 from hk]; decide))).trans rd4969) (by assumption) (by omega)) cb_X7_failAt ml_X7_197 im_X7_failAt se_X7_failAt (fun _ => o3) h4972 hk rfl rfl (rest := []) rfl (Nat.le_of_ble_eq_true rfl) ⟨Nat.le_of_ble_eq_true rfl, Nat.le_of_ble_eq_true rfl⟩ ⟨Nat.le_of_ble_eq_true rfl, Nat.le_of_ble_eq_true rfl⟩ (fun r σ4976 hp => ?_)
      obtain ⟨h4977, rd4979, rd4980, rfl⟩ := hp
      have h4978 := HK.trans h4972 h4977 (by decide)
      refine m_iload_n F rfl e_X7_readToldName_28 ?_
      exact m_iret F hQ e_X7_readToldName_29 (⟨h4978, rd4979, rd4980, _, rfl⟩)
  · refine m_istore_n F (lv' := [(2, .int (-1)), (1, .int x4961), (0, .ref a)]) e_X7_readToldName_16 (by decide) rfl ?_
    refine m_iload_n F rfl e_X7_readToldName_17 ?_
    refine m_iconst F (v := (-1)) (by decide) e_X7_readToldName_18 ?_
    refine m_icmp_ne F e_X7_readToldName_19 (fun q => absurd (by decide) q) (fun _ => ?_)
    refine m_aload_n F rfl e_X7_readToldName_22 ?_
    refine m_iconst F (v := 4) (by decide) e_X7_readToldName_23 ?_
    refine m_iload_n F rfl e_X7_readToldName_24 ?_
    refine t_callV F e_X7_readToldName_25 (s_X7_failAtG (x_l X) V G b M Z T _ _ a 4 x4961 ft pl h4972.1 hk  ((fld_eq (h4973.2 a (by rw [show kA _ a = 3 from hk]; decide))).trans rd4968) ((fld_eq (h4973.2 a (by rw [show kA _ a = 3 from hk]; decide))).trans rd4969) (by assumption) (by omega)) cb_X7_failAt ml_X7_197 im_X7_failAt se_X7_failAt (fun _ => o3) h4972 hk rfl rfl (rest := []) rfl (Nat.le_of_ble_eq_true rfl) ⟨Nat.le_of_ble_eq_true rfl, Nat.le_of_ble_eq_true rfl⟩ ⟨Nat.le_of_ble_eq_true rfl, Nat.le_of_ble_eq_true rfl⟩ (fun r σ4982 hp => ?_)
    obtain ⟨h4983, rd4985, rd4986, rfl⟩ := hp
    have h4984 := HK.trans h4972 h4983 (by decide)
    refine m_iload_n F rfl e_X7_readToldName_28 ?_
    exact m_iret F hQ e_X7_readToldName_29 (⟨h4984, rd4985, rd4986, _, rfl⟩)
set_option maxRecDepth 20000 in
theorem s_X7_readNameOnceG (l : Launch) (V : VX) (G : GH) (b M Z T N : Nat) (σ : Mem) (a : Nat) (x901 : Int32) (ft : Int32) (pl : Int32) (h0 : HT V G (b, M, Z, T) σ) (hk : kA b a = 3) (hf1 : fld σ a 11 = some (.int ft)) (hf2 : fld σ a 12 = some (.int pl)) (hf0 : ft ≠ 0) (hM : M + 0 ≤ 1000000000) : Ct l V yX7_readNameOnce cX7_readNameOnce 4 (some .int) 3 0 0 N σ [.ref a, .int x901] (fun r τ => HK V G (b, M, Z, T) [0, 1, 2, 3, 5, 6, 7, 8, 9, 10, 11, 12, 13, 14, 15, 16, 17, 18, 19] σ τ ∧ fld τ a 11 = some (.int ft) ∧ fld τ a 12 = some (.int pl) ∧ ∃ x : Int32, r = some (.int x)) := by
  refine Ct.of (by decide) (Nat.le_of_ble_eq_true rfl) [(0, .ref a), (1, .int x901)] rfl (fun X hX F hQ => ?_)
  have h1 : HK V G (b, M, Z, T) [0, 1, 2, 3, 5, 6, 7, 8, 9, 10, 11, 12, 13, 14, 15, 16, 17, 18, 19] σ σ := HK.start h0
  refine m_aload_n F rfl e_X7_readNameOnce_0 ?_
  refine t_get F e_X7_readNameOnce_1 fl_X7_188 (fun _ => o3) h1 hk rfl (fun v hv f4988 => ?_)
  obtain ⟨x4989, rfl⟩ := hv
  refine m_istore_n F (lv' := [(2, .int x4989), (0, .ref a), (1, .int x901)]) e_X7_readNameOnce_4 (by decide) rfl ?_
  refine m_aload_n F rfl e_X7_readNameOnce_5 ?_
  refine t_get F e_X7_readNameOnce_6 fl_X7_23 (fun _ => o3) h1 hk rfl (fun v hv f4990 => ?_)
  obtain ⟨r4991, k4992, rfl⟩ := hv
  refine m_aload_n F rfl e_X7_readNameOnce_9 ?_
  refine t_callV F e_X7_readNameOnce_10 (s_X7_readNameG (x_l X) V G b M Z T _ _ a  ft pl h1.1 hk  (hf1) (hf2) (by assumption) (by omega)) cb_X7_readName ml_X7_191 im_X7_readName se_X7_readName (fun _ => o3) h1 hk rfl rfl (rest := [.ref r4991]) rfl (Nat.le_of_ble_eq_true rfl) ⟨Nat.le_of_ble_eq_true rfl, Nat.le_of_ble_eq_true rfl⟩ ⟨Nat.le_of_ble_eq_true rfl, Nat.le_of_ble_eq_true rfl⟩ (fun r σ4993 hp => ?_)
  obtain ⟨h4994, rd4996, rd4997, rfl⟩ := hp
  have h4995 := HK.trans h1 h4994 (by decide)
  refine t_callV F e_X7_readNameOnce_13 (s_X2_leaseNamed (x_l X) V G b M Z T _ _ r4991 (-1) h4995.1 k4992  (by omega)) cb_X2_leaseNamed ml_X7_194 im_X2_leaseNamed se_X2_leaseNamed (fun _ => o7) h4995 k4992 rfl rfl (rest := []) rfl (Nat.le_of_ble_eq_true rfl) ⟨Nat.le_of_ble_eq_true rfl, Nat.le_of_ble_eq_true rfl⟩ ⟨Nat.le_of_ble_eq_true rfl, Nat.le_of_ble_eq_true rfl⟩ (fun r σ4999 hp => ?_)
  obtain ⟨h5001, c5002⟩ := hp
  have h5000 := HK.trans h4995 h5001 (by decide)
  rcases c5002 with ⟨n5003, hn5003, rfl⟩ | rfl
  · refine m_istore_n F (lv' := [(3, .int (nI n5003)), (2, .int x4989), (0, .ref a), (1, .int x901)]) e_X7_readNameOnce_16 (by decide) rfl ?_
    refine m_iload_n F rfl e_X7_readNameOnce_17 ?_
    refine m_if_lt F e_X7_readNameOnce_18 (fun q18 => ?_) (fun q18 => ?_)
    · have c18 : n5003 < 0 := (nI_ltI (a := n5003) (b := 0) (by omega) (by omega)).mp q18
      refine m_aload_n F rfl e_X7_readNameOnce_26 ?_
      refine m_iconst F (v := 4) (by decide) e_X7_readNameOnce_27 ?_
      refine m_iload_n F rfl e_X7_readNameOnce_28 ?_
      refine t_callV F e_X7_readNameOnce_29 (s_X7_failAtG (x_l X) V G b M Z T _ _ a 4 x4989 ft pl h5000.1 hk  ((fld_eq (h5001.2 a (by rw [show kA _ a = 3 from hk]; decide))).trans rd4996) ((fld_eq (h5001.2 a (by rw [show kA _ a = 3 from hk]; decide))).trans rd4997) (by assumption) (by omega)) cb_X7_failAt ml_X7_197 im_X7_failAt se_X7_failAt (fun _ => o3) h5000 hk rfl rfl (rest := []) rfl (Nat.le_of_ble_eq_true rfl) ⟨Nat.le_of_ble_eq_true rfl, Nat.le_of_ble_eq_true rfl⟩ ⟨Nat.le_of_ble_eq_true rfl, Nat.le_of_ble_eq_true rfl⟩ (fun r σ5004 hp => ?_)
      obtain ⟨h5005, rd5007, rd5008, rfl⟩ := hp
      have h5006 := HK.trans h5000 h5005 (by decide)
      refine m_iconst F (v := (-1)) (by decide) e_X7_readNameOnce_32 ?_
      exact m_iret F hQ e_X7_readNameOnce_33 (⟨h5006, rd5007, rd5008, _, rfl⟩)
    · have c18 : n5003 ≥ 0 := by have hh := mt (nI_ltI (a := n5003) (b := 0) (by omega) (by omega)).mpr q18; omega
      refine m_iload_n F rfl e_X7_readNameOnce_21 ?_
      refine m_iconst F (v := 4) (by decide) e_X7_readNameOnce_22 ?_
      refine m_icmp_lt F e_X7_readNameOnce_23 (fun q23 => ?_) (fun q23 => ?_)
      · have c23 : n5003 < 4 := (nI_ltI (a := n5003) (b := 4) (by omega) (by omega)).mp q23
        refine m_aload_n F rfl e_X7_readNameOnce_34 ?_
        refine t_get F e_X7_readNameOnce_35 fl_X7_9 (fun _ => o3) h5000 hk rfl (fun v hv f5010 => ?_)
        obtain ⟨r5011, k5012, rfl⟩ := hv
        refine m_iload_n F rfl e_X7_readNameOnce_38 ?_
        refine t_iald F (len := 4) (j := n5003) e_X7_readNameOnce_39 (fun _ => o4) h5000 k5012 (nI_clamp (by omega)) (vp_in_nI (by omega) (by decide)) (fun x5013 => ?_)
        refine m_iload_n F rfl e_X7_readNameOnce_40 ?_
        refine m_iand F e_X7_readNameOnce_41 ?_
        refine Wm.top (fun x5014 _ => ?_)
        refine m_if_eq F e_X7_readNameOnce_42 (fun q42 => ?_) (fun q42 => ?_)
        · refine m_aload_n F rfl e_X7_readNameOnce_51 ?_
          refine t_getC F e_X7_readNameOnce_52 fl_X7_9 (fun _ => o3) h5000 hk (f5010) ?_
          refine m_iload_n F rfl e_X7_readNameOnce_55 ?_
          refine m_dup2_11 F rfl rfl e_X7_readNameOnce_56 ?_
          refine t_iald F (len := 4) (j := n5003) e_X7_readNameOnce_57 (fun _ => o4) h5000 k5012 (nI_clamp (by omega)) (vp_in_nI (by omega) (by decide)) (fun x5015 => ?_)
          refine m_iload_n F rfl e_X7_readNameOnce_58 ?_
          refine m_ior F e_X7_readNameOnce_59 ?_
          refine Wm.top (fun x5016 _ => ?_)
          refine t_iast F (len := 4) (j := n5003) e_X7_readNameOnce_60 (fun _ => o4) h5000 k5012 (nI_clamp (by omega)) (vp_in_nI (by omega) (by decide)) (by decide) (fun σ5017 h5018 g5019 => ?_)
          refine m_iload_n F rfl e_X7_readNameOnce_61 ?_
          exact m_iret F hQ e_X7_readNameOnce_62 (⟨h5018, (g5019 a 11 (fun e => absurd ((hk).symm.trans e) (by decide))).trans ((fld_eq (h5001.2 a (by rw [show kA _ a = 3 from hk]; decide))).trans rd4996), (g5019 a 12 (fun e => absurd ((hk).symm.trans e) (by decide))).trans ((fld_eq (h5001.2 a (by rw [show kA _ a = 3 from hk]; decide))).trans rd4997), _, rfl⟩)
        · refine m_aload_n F rfl e_X7_readNameOnce_45 ?_
          refine m_iconst F (v := 3) (by decide) e_X7_readNameOnce_46 ?_
          refine m_iload_n F rfl e_X7_readNameOnce_47 ?_
          refine t_callV F e_X7_readNameOnce_48 (s_X7_failAtG (x_l X) V G b M Z T _ _ a 3 x4989 ft pl h5000.1 hk  ((fld_eq (h5001.2 a (by rw [show kA _ a = 3 from hk]; decide))).trans rd4996) ((fld_eq (h5001.2 a (by rw [show kA _ a = 3 from hk]; decide))).trans rd4997) (by assumption) (by omega)) cb_X7_failAt ml_X7_197 im_X7_failAt se_X7_failAt (fun _ => o3) h5000 hk rfl rfl (rest := []) rfl (Nat.le_of_ble_eq_true rfl) ⟨Nat.le_of_ble_eq_true rfl, Nat.le_of_ble_eq_true rfl⟩ ⟨Nat.le_of_ble_eq_true rfl, Nat.le_of_ble_eq_true rfl⟩ (fun r σ5020 hp => ?_)
          obtain ⟨h5021, rd5023, rd5024, rfl⟩ := hp
          have h5022 := HK.trans h5000 h5021 (by decide)
          refine m_aload_n F rfl e_X7_readNameOnce_51 ?_
          refine t_get F e_X7_readNameOnce_52 fl_X7_9 (fun _ => o3) h5022 hk rfl (fun v hv f5026 => ?_)
          obtain ⟨r5027, k5028, rfl⟩ := hv
          refine m_iload_n F rfl e_X7_readNameOnce_55 ?_
          refine m_dup2_11 F rfl rfl e_X7_readNameOnce_56 ?_
          refine t_iald F (len := 4) (j := n5003) e_X7_readNameOnce_57 (fun _ => o4) h5022 k5028 (nI_clamp (by omega)) (vp_in_nI (by omega) (by decide)) (fun x5029 => ?_)
          refine m_iload_n F rfl e_X7_readNameOnce_58 ?_
          refine m_ior F e_X7_readNameOnce_59 ?_
          refine Wm.top (fun x5030 _ => ?_)
          refine t_iast F (len := 4) (j := n5003) e_X7_readNameOnce_60 (fun _ => o4) h5022 k5028 (nI_clamp (by omega)) (vp_in_nI (by omega) (by decide)) (by decide) (fun σ5031 h5032 g5033 => ?_)
          refine m_iload_n F rfl e_X7_readNameOnce_61 ?_
          exact m_iret F hQ e_X7_readNameOnce_62 (⟨h5032, (g5033 a 11 (fun e => absurd ((hk).symm.trans e) (by decide))).trans rd5023, (g5033 a 12 (fun e => absurd ((hk).symm.trans e) (by decide))).trans rd5024, _, rfl⟩)
      · have c23 : n5003 ≥ 4 := by have hh := mt (nI_ltI (a := n5003) (b := 4) (by omega) (by omega)).mpr q23; omega
        refine m_aload_n F rfl e_X7_readNameOnce_26 ?_
        refine m_iconst F (v := 4) (by decide) e_X7_readNameOnce_27 ?_
        refine m_iload_n F rfl e_X7_readNameOnce_28 ?_
        refine t_callV F e_X7_readNameOnce_29 (s_X7_failAtG (x_l X) V G b M Z T _ _ a 4 x4989 ft pl h5000.1 hk  ((fld_eq (h5001.2 a (by rw [show kA _ a = 3 from hk]; decide))).trans rd4996) ((fld_eq (h5001.2 a (by rw [show kA _ a = 3 from hk]; decide))).trans rd4997) (by assumption) (by omega)) cb_X7_failAt ml_X7_197 im_X7_failAt se_X7_failAt (fun _ => o3) h5000 hk rfl rfl (rest := []) rfl (Nat.le_of_ble_eq_true rfl) ⟨Nat.le_of_ble_eq_true rfl, Nat.le_of_ble_eq_true rfl⟩ ⟨Nat.le_of_ble_eq_true rfl, Nat.le_of_ble_eq_true rfl⟩ (fun r σ5034 hp => ?_)
        obtain ⟨h5035, rd5037, rd5038, rfl⟩ := hp
        have h5036 := HK.trans h5000 h5035 (by decide)
        refine m_iconst F (v := (-1)) (by decide) e_X7_readNameOnce_32 ?_
        exact m_iret F hQ e_X7_readNameOnce_33 (⟨h5036, rd5037, rd5038, _, rfl⟩)
  · refine m_istore_n F (lv' := [(3, .int (-1)), (2, .int x4989), (0, .ref a), (1, .int x901)]) e_X7_readNameOnce_16 (by decide) rfl ?_
    refine m_iload_n F rfl e_X7_readNameOnce_17 ?_
    refine m_if_lt F e_X7_readNameOnce_18 (fun _ => ?_) (fun q => absurd (by decide) q)
    refine m_aload_n F rfl e_X7_readNameOnce_26 ?_
    refine m_iconst F (v := 4) (by decide) e_X7_readNameOnce_27 ?_
    refine m_iload_n F rfl e_X7_readNameOnce_28 ?_
    refine t_callV F e_X7_readNameOnce_29 (s_X7_failAtG (x_l X) V G b M Z T _ _ a 4 x4989 ft pl h5000.1 hk  ((fld_eq (h5001.2 a (by rw [show kA _ a = 3 from hk]; decide))).trans rd4996) ((fld_eq (h5001.2 a (by rw [show kA _ a = 3 from hk]; decide))).trans rd4997) (by assumption) (by omega)) cb_X7_failAt ml_X7_197 im_X7_failAt se_X7_failAt (fun _ => o3) h5000 hk rfl rfl (rest := []) rfl (Nat.le_of_ble_eq_true rfl) ⟨Nat.le_of_ble_eq_true rfl, Nat.le_of_ble_eq_true rfl⟩ ⟨Nat.le_of_ble_eq_true rfl, Nat.le_of_ble_eq_true rfl⟩ (fun r σ5040 hp => ?_)
    obtain ⟨h5041, rd5043, rd5044, rfl⟩ := hp
    have h5042 := HK.trans h5000 h5041 (by decide)
    refine m_iconst F (v := (-1)) (by decide) e_X7_readNameOnce_32 ?_
    exact m_iret F hQ e_X7_readNameOnce_33 (⟨h5042, rd5043, rd5044, _, rfl⟩)
set_option maxRecDepth 20000 in
theorem s_X7_readStopG (l : Launch) (V : VX) (G : GH) (b M Z T N : Nat) (σ : Mem) (a : Nat) (ft : Int32) (pl : Int32) (h0 : HT V G (b, M, Z, T) σ) (hk : kA b a = 3) (hf1 : fld σ a 11 = some (.int ft)) (hf2 : fld σ a 12 = some (.int pl)) (hf0 : ft ≠ 0) (hM : M + 0 ≤ 1000000000) : Ct l V yX7_readStop cX7_readStop 1 none 2 0 0 N σ [.ref a] (fun r τ => HK V G (b, M, Z, T) [0, 1, 2, 3, 4, 5, 6, 7, 8, 9, 10, 11, 12, 13, 14, 15, 16, 17, 18, 19] σ τ ∧ fld τ a 11 = some (.int ft) ∧ fld τ a 12 = some (.int pl) ∧ r = none) := by
  refine Ct.of (by decide) (Nat.le_of_ble_eq_true rfl) [(0, .ref a)] rfl (fun X hX F hQ => ?_)
  have h1 : HK V G (b, M, Z, T) [0, 1, 2, 3, 4, 5, 6, 7, 8, 9, 10, 11, 12, 13, 14, 15, 16, 17, 18, 19] σ σ := HK.start h0
  refine m_aload_n F rfl e_X7_readStop_0 ?_
  refine t_getC F e_X7_readStop_1 fl_X7_55 (fun _ => o3) h1 hk (hf1) ?_
  refine m_if_eq F e_X7_readStop_4 (fun q4 => ?_) (fun q4 => ?_)
  · exact absurd q4 hf0
  · exact m_vret F hQ e_X7_readStop_7 (⟨h1, hf1, hf2, rfl⟩)
