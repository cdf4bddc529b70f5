def lw_P (b : Addr) (xs : List Int32) (args : Array Value) (s : State) : Prop := args = #[.ref b] ∧ s.IntsAt b xs ∧ xs.length ≤ 6 ∧ (Jvm.Cond.and given_1 narrow_1).before args s = true
def lw_Q (_ : Array Value) (s : State) (o : Outcome) (t : State) : Prop := o = .returned (some (.int 1)) ∧ Framed s o t [] 600002 7302232
def lw_Z (below : List Frame) (a : Array Value) (s : State) : State → Prop := fun t => ∃ o, t.status = .running ∧ Ended t below o ∧ lw_Q a s o t
/-- the law's own end, with 1 on the stack, nothing written that was there before, its room as the claim has it -/
theorem lw_ret {p : Program} {l : Launch} {e : Env} {s : State} {m : MethodId} {below : List Frame} {meth : Method} {c : Code} {b : Nat} (hx : p.tables.exec = Jvm.exec) (hb : c.code = code) (hr : meth.sig.returnType = ret) (hlocks : meth.locks = false) {pc : Nat} {H : Heap} {ls : Array Slot} (hdg : decode code pc = .ok (.ireturn, 1)) : W p l e room_1 s m #[Value.ref b] below meth c H [] 600002 7302232 (lw_Z below #[Value.ref b] s) (F0 m pc ls [.int 1]) := by
  intro T hT X
  obtain ⟨fs, hret, hrun, hended, hW, hframe⟩ := X.leave (v := some (.int 1)) (hlocks := hlocks) (fun h => by rw [hr] at h; cases h)
  have hmeth' : T.vm.method? m = some meth := X.method'
  refine ⟨T.setFrames fs, ?_, .returned (some (.int 1)), hrun, hended, rfl, ⟨_, rfl⟩, hW, hframe⟩
  jvm_step X.here [X.here.top, hx, hb, hdg, hmeth', hr, ret, narrow_b1]
  (try refine ⟨rfl, ?_⟩); (try refine ⟨rfl, ?_⟩)
  first | (intro acts; rw [hret _ acts rfl rfl rfl]) | rw [hret _ _ rfl rfl rfl]
  exact Steps.refl _
/-- what holds at the law's entry: the machine, the code, the tables' words (any of lw_tbl by 'hts w (by decide +kernel)'), the script of L ints xs at the cell b, what the Statement gives of the start (any of its parts by flat_of_before) -/
def lw_At (p : Program) (s : State) (m : MethodId) (meth : Method) (c : Code) (b L : Nat) (xs : Nat → Int32) : Prop :=
  p.tables.exec = Jvm.exec ∧ c.code = code ∧ meth.sig.returnType = ret ∧ c.maxLocals = 7 ∧ s.vm.findClass R_law = some m.cls ∧ (∀ w ∈ lw_tbl, w.before #[Value.ref b] s = true) ∧ va_X b L xs s s.heap ∧ b < s.heap.size ∧ meth.locks = false ∧ (Jvm.Cond.and given_1 narrow_1).before #[Value.ref b] s = true

section SX
variable {V : VX} {X : MX} {y : MethodName} {cc : ByteArray} {nL N k z pc n : Nat} {ret : Option FieldType} {R : Room} {σ : Mem} {lv : List (Nat × Value)} {st : List Value}
theorem m_sld (F : Fx V X y cc nL ret R) {sb L j : Nat} {xs : Nat → Int32} {i : Int32} (d : DC cc pc 1 n .iaload) (hX : va_X sb L xs (x_s X) V.2.2) (hb : sb < V.2.2.size) (hj : i.toNatClampNeg = j) (hin : vp_in i L) (kk : Wm V X nL N σ k z n lv (.int (xs j) :: st)) : Wm V X nL N σ k z pc lv (.int i :: .ref sb :: st) := by
  obtain ⟨d, rfl⟩ := d
  subst hj
  exact fun H locs ls h1 h2 h3 => va_sld (A := fun q => V.2.2.size ≤ q) F.e F.b hX hb (Nat.not_le.mpr hb) (HM.S HM.start h1 h1.2.1 h2) hin d (kk H locs ls h1 h2 h3)
theorem m_slen (F : Fx V X y cc nL ret R) {sb L : Nat} {xs : Nat → Int32} (d : DC cc pc 1 n .arraylength) (hX : va_X sb L xs (x_s X) V.2.2) (hb : sb < V.2.2.size) (kk : Wm V X nL N σ k z n lv (.int (Int32.ofNat L) :: st)) : Wm V X nL N σ k z pc lv (.ref sb :: st) := by
  obtain ⟨d, rfl⟩ := d
  exact fun H locs ls h1 h2 h3 => va_slen (A := fun q => V.2.2.size ≤ q) F.e F.b hX hb (Nat.not_le.mpr hb) (HM.S HM.start h1 h1.2.1 h2) d (kk H locs ls h1 h2 h3)
end SX
theorem MZ.keep {V : VX} {σ τ : Mem} {m : Nat} (h : MZ V σ m) (hk : ∀ x, m ≤ x → x ≤ m + 22 → τ x = σ x) : MZ V τ m := by
  obtain ⟨a0, a1, a2, a3, a4, a5, a6, a7, a8, a9, a10, a11, a12, a13, a14, a15, a16, a17, a18, a19, a20, a21, a22⟩ := h
  exact ⟨(hk _ (by omega) (by omega)).trans a0, (hk _ (by omega) (by omega)).trans a1, (hk _ (by omega) (by omega)).trans a2, (hk _ (by omega) (by omega)).trans a3, (hk _ (by omega) (by omega)).trans a4, (hk _ (by omega) (by omega)).trans a5, (hk _ (by omega) (by omega)).trans a6, (hk _ (by omega) (by omega)).trans a7, (hk _ (by omega) (by omega)).trans a8, (hk _ (by omega) (by omega)).trans a9, (hk _ (by omega) (by omega)).trans a10, (hk _ (by omega) (by omega)).trans a11, (hk _ (by omega) (by omega)).trans a12, (hk _ (by omega) (by omega)).trans a13, (hk _ (by omega) (by omega)).trans a14, (hk _ (by omega) (by omega)).trans a15, (hk _ (by omega) (by omega)).trans a16, (hk _ (by omega) (by omega)).trans a17, (hk _ (by omega) (by omega)).trans a18, (hk _ (by omega) (by omega)).trans a19, (hk _ (by omega) (by omega)).trans a20, (hk _ (by omega) (by omega)).trans a21, (hk _ (by omega) (by omega)).trans a22⟩
theorem LLz.keep {V : VX} {σ τ : Mem} {b : Nat} (h : LLz V σ b) (hk : ∀ x, b ≤ x → x < b + 1457 → τ x = σ x) : LLz V τ b := by
  obtain ⟨a0, a1, a2, a3, a4, a5, a6, a7, b0, b1, b2, b3⟩ := h
  exact ⟨(hk _ (by omega) (by omega)).trans a0, (hk _ (by omega) (by omega)).trans a1, (hk _ (by omega) (by omega)).trans a2, (hk _ (by omega) (by omega)).trans a3, (hk _ (by omega) (by omega)).trans a4, (hk _ (by omega) (by omega)).trans a5, (hk _ (by omega) (by omega)).trans a6, (hk _ (by omega) (by omega)).trans a7, b0.keep (fun x g1 g2 => hk x (by omega) (by omega)), b1.keep (fun x g1 g2 => hk x (by omega) (by omega)), b2.keep (fun x g1 g2 => hk x (by omega) (by omega)), fun j hj => (b3 j hj).keep (fun x g1 g2 => hk x (by omega) (by omega))⟩
abbrev yLw (nm : String) : MethodName := ⟨R_law, nm, "([I)Z"⟩
def QW (X : MX) : Prop := ∃ sb : Nat, x_a X = #[Value.ref sb] ∧ x_Q X = lw_Z (x_b X) #[Value.ref sb] (x_s X)
theorem m_lend {V : VX} {X : MX} {nm : String} {N k z : Nat} {σ : Mem} {lv : List (Nat × Value)} (F : Fx V X (yLw nm) cL_law 7 ret room_1) (hQ : QW X) (hH : V.2.2 = (x_s X).heap) (hk : k ≤ 600002) (hz : z ≤ 7302232) : Wm V X 7 N σ k z 1802 lv [] := by
  refine m_iconst F (v := 1) (by decide) e_L_law_1802 ?_
  obtain ⟨sb, hA, hq⟩ := hQ
  intro H locs ls h1 h2 h3
  rw [hq, hA]
  have hR := F.rm
  rw [hR]
  refine va_forget (fun q hq => by rw [← hH]; exact h2 q hq) (W.widen hk hz ?_)
  exact lw_ret F.e F.b F.rt F.lk e_L_law_1803.1
theorem m_lbreak {V : VX} {X : MX} {nm : String} {b sb N k z : Nat} {xs : Nat → Int32} {σ : Mem} (F : Fx V X (yLw nm) cL_law 7 ret room_1) (hQ : QW X) (hH : V.2.2 = (x_s X).heap) (hX : va_X sb 6 xs (x_s X) V.2.2) (hb : sb < V.2.2.size) (hk : k ≤ 600002) (hz : z ≤ 7302232) : Wm V X 7 N σ k z 1796 [(4, .int 0), (3, .ref (b + 1480)), (2, .ref (b + 1457)), (1, .ref b), (0, .ref sb)] [] := by
  refine m_iinc F (v := 6) (lv' := [(4, .int 6), (3, .ref (b + 1480)), (2, .ref (b + 1457)), (1, .ref b), (0, .ref sb)]) e_L_law_1796 rfl (by decide) (by decide) rfl ?_
  refine m_goto F e_L_law_1799 ?_
  refine m_iload F rfl e_L_law_23 ?_
  refine m_aload_n F rfl e_L_law_25 ?_
  refine m_slen F e_L_law_26 hX hb ?_
  refine Wm.topE (w := 6) (by decide) ?_
  refine m_bipush F (v := 6) (by decide) e_L_law_27 ?_
  refine m_isub F e_L_law_29 ?_
  refine Wm.topE (w := 0) (by decide) ?_
  refine m_icmp_gt F e_L_law_30 (fun _ => ?_) (fun q => absurd (by decide) q)
  exact m_lend F hQ hH hk hz
