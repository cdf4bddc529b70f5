def lw_P (b : Addr) (xs : List Int32) (args : Array Value) (s : State) : Prop := args = #[.ref b] ∧ s.IntsAt b xs ∧ xs.length ≤ 3072 ∧ (Jvm.Cond.and given_1 narrow_1).before args s = true
def lw_Q (_ : Array Value) (s : State) (o : Outcome) (t : State) : Prop := o = .returned (some (.int 1)) ∧ Framed s o t [] 601024 7293034
def lw_Z (below : List Frame) (a : Array Value) (s : State) : State → Prop := fun t => ∃ o, t.status = .running ∧ Ended t below o ∧ lw_Q a s o t
/-- the law's own end, with 1 on the stack, nothing written that was there before, its room as the claim has it -/
theorem lw_ret {p : Program} {l : Launch} {e : Env} {s : State} {m : MethodId} {below : List Frame} {meth : Method} {c : Code} {b : Nat} (hx : p.tables.exec = Jvm.exec) (hb : c.code = code) (hr : meth.sig.returnType = ret) (hlocks : meth.locks = false) {pc : Nat} {H : Heap} {ls : Array Slot} (hdg : decode code pc = .ok (.ireturn, 1)) : W p l e room_1 s m #[Value.ref b] below meth c H [] 601024 7293034 (lw_Z below #[Value.ref b] s) (F0 m pc ls [.int 1]) := by
  intro T hT X
  obtain ⟨fs, hret, hrun, hended, hW, hframe⟩ := X.leave (v := some (.int 1)) (hlocks := hlocks) (fun h => by rw [hr] at h; cases h)
  have hmeth' : T.vm.method? m = some meth := X.method'
  refine ⟨T.setFrames fs, ?_, .returned (some (.int 1)), hrun, hended, rfl, ⟨_, rfl⟩, hW, hframe⟩
  jvm_step X.here [X.here.top, hx, hb, hdg, hmeth', hr, ret, narrow_b1]
  (try refine ⟨rfl, ?_⟩); (try refine ⟨rfl, ?_⟩)
  first | (intro acts; rw [hret _ acts rfl rfl rfl]) | rw [hret _ _ rfl rfl rfl]
  exact Steps.refl _
/-- what holds at the law's entry: the machine, the code, the tables' words (any of lw_tbl by 'hts w (by decide +kernel)'), the script of L ints xs at the cell b, what the Statement gives of the start (any of its parts by flat_of_before) -/
def lw_At (p : Program) (s : State) (m : MethodId) (meth : Method) (c : Code) (b L : Nat) (xs : Nat → Int32) : Prop :=
  p.tables.exec = Jvm.exec ∧ c.code = code ∧ meth.sig.returnType = ret ∧ c.maxLocals = 7 ∧ s.vm.findClass R_law = some m.cls ∧ (∀ w ∈ lw_tbl, w.before #[Value.ref b] s = true) ∧ va_X b L xs s s.heap ∧ b < s.heap.size ∧ meth.locks = false ∧ (Jvm.Cond.and given_1 narrow_1).before #[Value.ref b] s = true
theorem e_L_law_1751 : DC cL_law 1751 1 1752 (.iconst 1) := ⟨by decide +kernel, rfl⟩
theorem e_L_law_1752 : DC cL_law 1752 1 1753 (.ireturn) := ⟨by decide +kernel, rfl⟩

section SX
variable {V : VX} {X : MX} {y : MethodName} {cc : ByteArray} {nL N k z pc n : Nat} {ret : Option FieldType} {R : Room} {σ : Mem} {lv : List (Nat × Value)} {st : List Value}
theorem m_sld (F : Fx V X y cc nL ret R) {sb L j : Nat} {xs : Nat → Int32} {i : Int32} (d : DC cc pc 1 n .iaload) (hX : va_X sb L xs (x_s X) V.2.2) (hb : sb < V.2.2.size) (hj : i.toNatClampNeg = j) (hin : vp_in i L) (kk : Wm V X nL N σ k z n lv (.int (xs j) :: st)) : Wm V X nL N σ k z pc lv (.int i :: .ref sb :: st) := by
  obtain ⟨d, rfl⟩ := d
  subst hj
  exact fun H locs ls h1 h2 h3 => va_sld (A := fun q => V.2.2.size ≤ q) F.e F.b hX hb (Nat.not_le.mpr hb) (HM.S HM.start h1 h1.2.1 h2) hin d (kk H locs ls h1 h2 h3)
theorem m_slen (F : Fx V X y cc nL ret R) {sb L : Nat} {xs : Nat → Int32} (d : DC cc pc 1 n .arraylength) (hX : va_X sb L xs (x_s X) V.2.2) (hb : sb < V.2.2.size) (kk : Wm V X nL N σ k z n lv (.int (Int32.ofNat L) :: st)) : Wm V X nL N σ k z pc lv (.ref sb :: st) := by
  obtain ⟨d, rfl⟩ := d
  exact fun H locs ls h1 h2 h3 => va_slen (A := fun q => V.2.2.size ≤ q) F.e F.b hX hb (Nat.not_le.mpr hb) (HM.S HM.start h1 h1.2.1 h2) d (kk H locs ls h1 h2 h3)
end SX
abbrev yLw (nm : String) : MethodName := ⟨R_law, nm, "([I)Z"⟩
theorem kA_b {b : Nat} : kA b b = 1 := kA_off (o := 0)
set_option maxRecDepth 20000 in
theorem kA_o {b : Nat} : kA b (b + 1480) = 0 := kA_off (o := 1480)
theorem kA_big {b a : Nat} (h : b + 1457 ≤ a) : kA b a = 0 := by
  unfold kA
  rw [if_neg (by omega)]
  unfold kd
  rw [if_neg (by omega), if_neg (by omega), if_neg (by omega), if_neg (by omega), if_neg (by omega), if_neg (by omega), if_neg (by omega), if_neg (by omega), if_neg (by omega)]
theorem HR.keepL {V : VX} {b : Nat} {g : RG} {σ τ : Mem} (h : HR V (b + 1457) g σ) (hk : ∀ a, kA b a = 0 → a ≠ b + 1480 → τ a = σ a) : HR V (b + 1457) g τ := by
  intro a
  by_cases ha : a < b + 1457 ∨ b + 1457 + 23 ≤ a
  · rw [kC_0 ha]; trivial
  · rw [hk a (kA_big (by omega)) (by omega)]; exact h a
theorem HT.keepM {V : VX} {G : GH} {b M T : Nat} {σ τ : Mem} (h : HT V G (b, M, 1, T) σ) (hk : ∀ a, kC (b + 1457) a = 0 → τ a = σ a) : HT V G (b, M, 1, T) τ := by
  intro a
  by_cases ha : b + 1457 ≤ a
  · show CellTy V G (b, M, 1, T) a (kA b a) (τ a)
    rw [kA_big ha]; trivial
  · rw [hk a (kC_0 (by omega))]; exact h a
def NG (G : GH) (P : NP) : Prop := G.n0 = P.n0 ∧ ∀ i, i < G.n0 → G.nm i = nI (bsel P i)
theorem NG.gr {G G' : GH} {P : NP} (h : NG G P) (g : GRel G G') : NG G' P := ⟨g.2.1.trans h.1, fun i hi => by rw [g.2.2.1]; exact h.2 i (by rw [← g.2.1]; exact hi)⟩
theorem NG.same {G : GH} {P Q : NP} (h : NG G P) (e : Q.n0 = P.n0) (e0 : Q.b0 = P.b0) (e1 : Q.b1 = P.b1) (e2 : Q.b2 = P.b2) (e3 : Q.b3 = P.b3) : NG G Q := ⟨h.1.trans e.symm, fun i hi => by rw [bsel_eq e0 e1 e2 e3]; exact h.2 i hi⟩
theorem NG.text {G : GH} {P : NP} {n : Nat} {nm : Nat → Nat} (a : G.n0 = n) (b : ∀ i, G.nm i = nI (nm i)) (c : P.n0 = n) (d : TB P n nm) : NG G P := ⟨a.trans c.symm, fun i hi => (b i).trans (d i (by rw [← a]; exact hi)).symm⟩
theorem NG.fnd {G : GH} {P : NP} {x : Int32} (h : NG G P) : fnd G.nm x 0 G.n0 = fnd (fun i => nI (bsel P i)) x 0 P.n0 := by
  rw [← h.1]
  exact fnd_ext G.n0 0 (fun j _ hj => h.2 j (by omega))
def IV (V : VX) (b M T : Nat) (σ : Mem) : Prop := T ≤ 700 ∧ ∃ G : GH, okG G ∧ HT V G (b, M, 1, T) σ ∧ (∃ z, σ (b + 1480) = some (aJ V 1 z)) ∧ ∃ (u h : Nat) (P : NP) (L : Nat → LQ), Gd u h P L ∧ HR V (b + 1457) ⟨T, 1, u, h, P, L⟩ σ ∧ NG G P ∧ ∃ t : Nat → Nat, BY V σ (b + 1) T t ∧ BR σ (b + 1457) T t
theorem kA_t {b : Nat} : kA b (b + 1) = 2 := kA_off (o := 1)
theorem BY.ext {V : VX} {σ : Mem} {tp m : Nat} {t s : Nat → Nat} (h : BY V σ tp m t) (e : ∀ i, i < m → s i = t i) : BY V σ tp m s := by
  obtain ⟨f, h1, h2⟩ := h
  exact ⟨f, h1, fun i hi => by rw [e i hi]; exact h2 i hi⟩
theorem BR.ext {σ : Mem} {c m : Nat} {t s : Nat → Nat} (h : BR σ c m t) (e : ∀ i, i < m → s i = t i) : BR σ c m s := fun i hi => by rw [e i hi]; exact h i hi
theorem nI_nlt0 {n : Nat} (h : n < 2147483648) : ¬ nI n < 0 := fun e => Int32.lt_irrefl (Int32.lt_of_lt_of_le e (nI_0le h))
theorem tx_no {x : Int32} {n T : Nat} (e : x = nI n) (h : n ≤ T) (hT : T ≤ 700) : ¬ (x < 0 ∨ ∃ n : Nat, n ≤ 2147483647 ∧ x = nI n ∧ T < n) := by
  rintro (q | ⟨n2, h1, h2, h3⟩)
  · rw [e] at q; exact nI_nlt0 (by omega) q
  · have h4 := nI_inj (by omega) (by omega) (e.symm.trans h2)
    omega
section LC
variable {V : VX} {G : GH} {X : MX} {nm : String} {N k z pc n b : Nat} {σ : Mem} {lv : List (Nat × Value)} {st : List Value} {y2 : MethodName} {c2 : ByteArray} {maxL dd cn index : Nat} {r2 : Option FieldType} {As rest : List Value} {Post : Option Value → Mem → Prop}
theorem l_callC {M T : Nat} (F : Fx V X (yLw nm) cL_law 7 ret room_1) (d : DC cL_law pc 3 n (.invokevirtual index)) (hM : Ct (x_l X) V y2 c2 maxL r2 dd 0 0 N σ (.ref b :: As) Post) (cb : CB y2 c2 maxL r2 cn) (hlink : Cond.methodLink R_law index y2 ∈ tb) (hin : Cond.instanceMethod y2 ∈ tb) (hse : Cond.selects y2.cls y2 y2 ∈ tb) (h : HT V G (b, M, 1, T) σ) (hci : (classes[7]?).map (·.1) = some y2.cls) (hn : As.length = cn) (hst : st = As.reverse ++ .ref b :: rest) (hw : (rest.map fun v => v.category).sum ≤ 8) (hR : dd + 1 ≤ room_1.frames ∧ 8 + (maxL + 11) + 41 * dd ≤ room_1.locals) (hk : k ≤ 601024) (hz : z ≤ 7293034) (kk : ∀ r τ, Post r τ → Wm V X 7 N τ k z n lv (r.toList ++ rest)) : Wm V X 7 N σ k z pc lv st := by
  obtain ⟨fs, hfs, -⟩ : ∃ fs, σ b = some (ob 7 fs) ∧ TyL G (b, M, 1, T) b oL1 fs := by have h9 := h b; rw [show kA (b, M, 1, T).1 b = 1 from kA_b] at h9; exact h9
  exact m_callV F d hM cb hlink hin hse hfs hci hn hst hw hR ⟨hk, hz⟩ (k' := k) (z' := z) (N' := N) rfl rfl rfl kk
theorem l_callM {g : RG} (F : Fx V X (yLw nm) cL_law 7 ret room_1) (d : DC cL_law pc 3 n (.invokevirtual index)) (hM : Ct (x_l X) V y2 c2 maxL r2 dd 0 0 N σ (.ref (b + 1457) :: As) Post) (cb : CB y2 c2 maxL r2 cn) (hlink : Cond.methodLink R_law index y2 ∈ tb) (hin : Cond.instanceMethod y2 ∈ tb) (hse : Cond.selects y2.cls y2 y2 ∈ tb) (h : HR V (b + 1457) g σ) (hci : (classes[8]?).map (·.1) = some y2.cls) (hn : As.length = cn) (hst : st = As.reverse ++ .ref (b + 1457) :: rest) (hw : (rest.map fun v => v.category).sum ≤ 8) (hR : dd + 1 ≤ room_1.frames ∧ 8 + (maxL + 11) + 41 * dd ≤ room_1.locals) (hk : k ≤ 601024) (hz : z ≤ 7293034) (kk : ∀ r τ, Post r τ → Wm V X 7 N τ k z n lv (r.toList ++ rest)) : Wm V X 7 N σ k z pc lv st := by
  obtain ⟨fs, hfs, -⟩ : ∃ fs, σ (b + 1457) = some (ob 8 fs) ∧ TyO (b + 1457) g fs := h.cell (k := 0) (by decide)
  exact m_callV F d hM cb hlink hin hse hfs hci hn hst hw hR ⟨hk, hz⟩ (k' := k) (z' := z) (N' := N) rfl rfl rfl kk
theorem m_callSL {M T ou : Nat} (F : Fx V X (yLw nm) cL_law 7 ret room_1) (d : DC cL_law pc 3 n (.invokestatic index)) (hM : Met (x_l X) yL_lease (.codeWith yL_lease cL_lease 5 (some .int) HLt :: tb) (rmd 10 1 6) (fun v U => v = As.toArray ∧ HM V N σ U.heap ∧ KU V U) (QLL V G b M T ou σ) 1 6 (fun q => V.2.2.size ≤ q)) (hlink : Cond.methodLink R_law index yL_lease ∈ tb) (hn : As.length = 4) (hst : st = As.reverse ++ rest) (hw : (rest.map fun v => v.category).sum ≤ 8) (hR : 10 + 1 ≤ room_1.frames ∧ 8 + (5 + 11) + 41 * 10 ≤ room_1.locals) (hk : k + 1 ≤ 601024) (hz : z + 6 ≤ 7293034)
    (kk : ∀ (N' : Nat) (τ : Mem) (x : Int32), HT V G (b, M, 1, T) τ → (∃ z, τ ou = some (aJ V 1 z)) → (∀ a, a ≠ ou → kA b a ∈ [0, 1, 2, 3, 4, 5, 6, 7, 8, 9, 10, 11, 12, 13, 14, 15, 16, 17, 18, 19] → τ a = σ a) → Wm V X 7 N' τ (k + 1) (z + 6) n lv (.int x :: rest)) : Wm V X 7 N σ k z pc lv st := by
  obtain ⟨d, rfl⟩ := d
  subst hst
  intro H locs ls h1 h2 h3
  have hG : ∀ w ∈ (Cond.codeWith yL_lease cL_lease 5 (some .int) HLt :: tb), w ∈ tb := fun w hw => (List.mem_cons.mp hw).elim (fun e => e ▸ cw_L_lease) id
  have hr := vx_runSW (g := F0 (x_m X) pc ls (As.reverse ++ rest)) (As := As) (rest := rest) (locs := locs) (cells := k) (slots := z) (below := x_b X) (meth := x_t X) (e := x_e X) (R := x_R X) (hh := HLt) (n := 4) ⟨F.e, F.b, F.ml, F.own, F.ts⟩ hM
    ⟨⟨rfl, rfl, by rw [F.rm]; exact hR.1, by rw [F.rm]; exact hR.2, pay_in F.ts (tb_gi hG), List.mem_cons_self⟩, F.ts _ cw_L_lease, F.ts _ ini_L, ⟨by decide, by decide⟩, fun sig h => by
      have h2 : (parseMethodDescriptor yL_lease.desc).map (fun d => d.parameters.length) = some 4 := by decide +kernel
      rw [h] at h2
      exact (Option.some.inj h2).symm, F.ts _ hlink, F.ts _ sm_L_lease⟩ ⟨pc_blind, fun U hU hW => ⟨rfl, by rw [hU]; exact h1, F.ku.warm hW⟩⟩ rfl hn h3.1 rfl (lv_room hw) d (by rw [F.rm]; exact ⟨hk, hz⟩)
  intro T0 hT' S
  obtain ⟨v, st₀, t, T', L, h0, S', hL', e1, e2, ⟨N', r, τ, hv, ⟨⟨x, rfl⟩, q1, q2, q3⟩, hm⟩, step⟩ := hr T0 hT' S
  cases hv
  obtain ⟨t2, a1, b1⟩ := kk N' τ x q1 q2 q3 T'.heap (locs ++ L) ls (by rw [e1]; exact hm) (fun q hq => by
      rcases List.mem_append.mp hq with h | h
      · exact h2 q h
      · exact hL' q h) h3 T' rfl S'
  exact ⟨t2, step t2 a1, b1⟩
end LC
def QW (X : MX) : Prop := ∃ sb : Nat, x_a X = #[Value.ref sb] ∧ x_Q X = lw_Z (x_b X) #[Value.ref sb] (x_s X)
theorem m_lend {V : VX} {X : MX} {nm : String} {N k z : Nat} {σ : Mem} {lv : List (Nat × Value)} (F : Fx V X (yLw nm) cL_law 7 ret room_1) (hQ : QW X) (hH : V.2.2 = (x_s X).heap) (hk : k ≤ 601024) (hz : z ≤ 7293034) : Wm V X 7 N σ k z 1751 lv [] := by
  refine m_iconst F (v := 1) (by decide) e_L_law_1751 ?_
  obtain ⟨sb, hA, hq⟩ := hQ
  intro H locs ls h1 h2 h3
  rw [hq, hA]
  have hR := F.rm
  rw [hR]
  refine va_forget (fun q hq => by rw [← hH]; exact h2 q hq) (W.widen hk hz ?_)
  exact lw_ret F.e F.b F.rt F.lk e_L_law_1752.1
