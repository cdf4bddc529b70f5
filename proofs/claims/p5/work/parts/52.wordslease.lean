/-! 'throw new E("text")' where E's constructor calls its super's by another entry than 7. The road is that of the library's Stand.ctorThrowS, over a chain whose first link is free -/
section THROWN
variable {p : Program} {l : Launch} {e : Env} {R : Room} {s : State} {m : MethodId} {args : Array Value} {below : List Frame} {meth : Method} {c : Code} {cells slots : Nat} {locs : List Loc}
theorem tn_chain {pl : Platform} (hpl : pl.magicAccessors = ({} : Platform).magicAccessors) {top : MethodId} (htop : s.methodNamed? (Bundle.initS Bundle.tN) = some top) {E Y : String} {r : List String} {ix : Nat} {rx : ByteArray}
    (x0 : decode rx 0 = .ok (.aload_n 0, 1)) (x1 : decode rx 1 = .ok (.aload_n 1, 1)) (x2 : decode rx 2 = .ok (.invokespecial ix, 3)) (x5 : decode rx 5 = .ok (.return_, 1))
    (hE : Bundle.fit E = true) (hY : Bundle.fit Y = true) (hr : ∀ n ∈ r, Bundle.fit n = true) (h1 : ∀ w ∈ Bundle.passSAtoms E Y ix rx, w.before args s = true) (h2 : ∀ w ∈ Bundle.chainSAtoms Y r, w.before args s = true) :
    ∃ (P : PassC) (Ps : List PassC), Ps.length = r.length + 1 ∧ P.LinksS pl s ∧ (∀ Q, Q ∈ Ps → Q.LinksS pl s) ∧ s.methodNamed? (Bundle.initS E) = some P.m ∧ P.sup = firstOf top (Ps.map (·.toPassT)) ∧ PassesOn top (Ps.map (·.toPassT)) := by
  obtain ⟨P, L, hm, hs⟩ := PassC.ofS_atoms (args := args) (s := s) hpl (X := E) (Y := Y) (Bundle.fit_spec hE).1 (Bundle.fit_spec hY).2 x0 x1 x2 x5 h1
  obtain ⟨P', Ps, hlen, L', hL, hm', hsup, hpass⟩ := Bundle.chainS (args := args) hpl htop r Y hY hr h2
  refine ⟨P, P' :: Ps, congrArg (· + 1) hlen, L, fun Q hQ => ?_, hm, Option.some.inj (hs.symm.trans hm'), hsup, hpass⟩
  rcases List.mem_cons.mp hQ with rfl | hQ
  · exact L'
  · exact hL Q hQ
/-- the words of E itself -/
def tn_own (own : String) (ic : Nat) (E : String) : List Cond :=
  [.methodLink own ic (Bundle.initS E), .instantiable E 6, .selects E Bundle.tFill0 Bundle.tFill0, .selects E Bundle.tFill Bundle.tFill, .lays E Bundle.tN "cause" "Ljava/lang/Throwable;", .lays E Bundle.tN "stackTrace" Bundle.steD, .lays E Bundle.tN "suppressedExceptions" Bundle.listD, .lays E Bundle.tN "detailMessage" "Ljava/lang/String;", .fieldLink Bundle.tN 198 Bundle.tN "backtrace" "Ljava/lang/Object;", .lays Bundle.tN Bundle.tN "backtrace" "Ljava/lang/Object;", .lays E Bundle.tN "backtrace" "Ljava/lang/Object;"]
def tn_at (own : String) (ic : Nat) (E Y : String) (r : List String) (ix : Nat) (rx : ByteArray) : List Cond := Bundle.throwableAtoms ++ Bundle.throwableSAtoms ++ Bundle.passSAtoms E Y ix rx ++ Bundle.chainSAtoms Y r ++ tn_own own ic E
set_option maxHeartbeats 1000000 in
theorem tn_throw {T : State} (X : Stand p l e R s m args below meth c T locs cells slots) (hexec : p.tables.exec = Jvm.exec) (htr : e.platform.stackTraces = false) {own E Y : String} {r : List String} {ic ix : Nat} {rx : ByteArray}
    (x0 : decode rx 0 = .ok (.aload_n 0, 1)) (x1 : decode rx 1 = .ok (.aload_n 1, 1)) (x2 : decode rx 2 = .ok (.invokespecial ix, 3)) (x5 : decode rx 5 = .ok (.return_, 1))
    (hown : s.vm.findClass own = some m.cls) (hE : Bundle.fit E = true) (hY : Bundle.fit Y = true) (hr : ∀ n ∈ r, Bundle.fit n = true) (h : ∀ w ∈ tn_at own ic E Y r ix rx, w.before args s = true)
    (hU : (Cond.isRef (.static Bundle.tN "UNASSIGNED_STACK" Bundle.steD)).before args s = true) (hN : (Cond.isRef (.static Bundle.tN "SUPPRESSED_SENTINEL" Bundle.listD)).before args s = true)
    (hlocs : ∀ x ∈ locs, ∀ cell, s.heap[x.base]? = some cell → cell.vm.isStatics = false)
    {a : Addr} {cX : ClassId} {kX : Class} (hfX : s.vm.findClass E = some cX) (hkX : s.vm.classes[cX]? = some kX) (hcell : T.heap[a]? = some (freshCell cX kX)) (hnew : s.heap.size ≤ a) {msg : Value} (hmsg : msg.isRef = true)
    {g : JFrame} (hg : g.method = m) (hsize : g.locals.size = c.maxLocals) (hlocked : g.locked = none) (hentered : g.entered = []) {rest : List Value} (hstack : g.stack = msg :: .ref a :: .ref a :: rest)
    (hd6 : decode c.code g.pc = .ok (.invokespecial ic, 3)) (hd9 : decode c.code (g.pc + 3) = .ok (.athrow, 1)) (hout : ∀ x ∈ c.exceptionTable.toList, covers x (g.pc + 3) = false)
    (hRf : r.length + 4 < R.frames) (hRl : 2 * g.monitorRoom + ((Value.ref a :: rest).map fun v => v.category).sum + (13 * (r.length + 2) + 42) ≤ R.locals) (hlocks : meth.locks = false) :
    ∃ U : State, Steps p.tables e below (T.setTop g) U ∧ U.status = .running ∧ Ended U below (.threw a) ∧ s.WarmedH U.vm ∧ s.sameButNew ({ U with vm := s.vm } : State) locs cells slots ∧ ∃ ce : Cell, U.heap[a]? = some ce ∧ ce.vm = .none ∧ s.vm.findClass E = some ce.cls := by
  have howns : e.platform.frameOwnsMonitors = true := by rw [X.admits.platform]
  have hfin : e.platform.finalization = false := by rw [X.admits.platform]
  have hpl : e.platform.magicAccessors = ({} : Platform).magicAccessors := by rw [X.admits.platform]
  have own' : ∀ w ∈ tn_own own ic E, w.before args s = true := fun w hw => h w (by simp [tn_at, hw])
  obtain ⟨C, Z0, L, -, Q⟩ := ThrowableC.of_atoms (args := args) howns hfin hpl (fun w hw => h w (by simp [tn_at, hw]))
  obtain ⟨Z, M, LZ, LM, hnZ⟩ := Init0T.ofS_atoms (args := args) hpl L Q (fun w hw => h w (by simp [tn_at, hw]))
  obtain ⟨P, Ps, hlen, LP, hLs, hPm, hup, hpass⟩ := tn_chain (args := args) hpl hnZ x0 x1 x2 x5 hE hY hr (fun w hw => h w (by simp [tn_at, hw])) (fun w hw => h w (by simp [tn_at, hw]))
  have hfound : s.vm.findClass E = some P.m.cls := findClass_of_methodNamed hPm
  cases hfX.symm.trans hfound
  obtain ⟨c1, k1, hc1, hk, hord, -, -, hn6⟩ := Cond.instantiable_spec (own' (.instantiable E 6) (by simp [tn_own]))
  cases hc1.symm.trans hfound
  cases hkX.symm.trans hk
  have hsel0 : selectMethod e.platform s.vm P.m.cls C.fill0 = .method C.fill0 := by
    obtain ⟨c2, r2, m2, q1, q2, q3, q4, -⟩ := Cond.selects_spec (own' (.selects E Bundle.tFill0 Bundle.tFill0) (by simp [tn_own]))
    cases q1.symm.trans hfound
    cases q2.symm.trans (State.methodFound?_of_named Q.fill0 (by decide))
    cases q3.symm.trans Q.fill0
    rw [Launch.admits_selectMethod X.admits]; exact q4
  have hselF : selectMethod e.platform s.vm P.m.cls C.fill = .method C.fill := by
    obtain ⟨c2, r2, m2, q1, q2, q3, q4, -⟩ := Cond.selects_spec (own' (.selects E Bundle.tFill Bundle.tFill) (by simp [tn_own]))
    cases q1.symm.trans hfound
    cases q2.symm.trans (State.methodFound?_of_named Q.fill (by decide))
    cases q3.symm.trans Q.fill
    rw [Launch.admits_selectMethod X.admits]; exact q4
  obtain ⟨st0, hst0, hiss⟩ := Q.statics
  obtain ⟨u0, hu0⟩ := Cond.staticRefV Q.unassigned L.unassignedStatic L.statics hst0 hiss hU
  obtain ⟨sen, hsen⟩ := Cond.staticRefV Q.sentinel L.sentinelStatic L.statics hst0 hiss hN
  obtain ⟨ci, ib, fB, hkb, hgb, hab, hsB, -, hnB, htB, hfB⟩ := Cond.ownField (t := .object "java/lang/Object") Q.found L.cls (by decide +kernel) (own' (.fieldLink Bundle.tN 198 Bundle.tN "backtrace" "Ljava/lang/Object;") (by simp [tn_own])) (own' (.lays Bundle.tN Bundle.tN "backtrace" "Ljava/lang/Object;") (by simp [tn_own])) e.platform hpl
  obtain ⟨st1, hst1, heS, -, hkeep⟩ := X.same.2.2.2.2.2 C.aS st0 hst0
  have hcS : T.heap[C.aS]? = some st1 := hst1
  have hnl : ∀ i, (⟨C.aS, i⟩ : Loc) ∉ locs := fun i hi => by
    have h9 := hlocs _ hi st0 hst0
    rw [hiss] at h9
    cases h9
  have hkS : st1.vm ≠ .unknown := fun hu => by
    rw [heS] at hu
    rw [show st0.vm = .unknown from hu] at hiss
    cases hiss
  have hneS : C.aS ≠ a := Nat.ne_of_lt (Nat.lt_of_lt_of_le (Array.getElem?_eq_some_iff.mp hst0).1 hnew)
  obtain ⟨iM, hfM⟩ := Q.msg
  obtain ⟨tyC, dC, hdC, ndC⟩ := Cond.laysAt hfound hk Q.cause (own' (.lays E Bundle.tN "cause" "Ljava/lang/Throwable;") (by simp [tn_own]))
  obtain ⟨tyS, dS, hdS, ndS⟩ := Cond.laysAt hfound hk Q.stack (own' (.lays E Bundle.tN "stackTrace" Bundle.steD) (by simp [tn_own]))
  obtain ⟨tyP, dP, hdP, ndP⟩ := Cond.laysAt hfound hk Q.supp (own' (.lays E Bundle.tN "suppressedExceptions" Bundle.listD) (by simp [tn_own]))
  obtain ⟨tyM, dM, hdM, ndM⟩ := Cond.laysAt hfound hk hfM (own' (.lays E Bundle.tN "detailMessage" "Ljava/lang/String;") (by simp [tn_own]))
  obtain ⟨tyB, dB, hdB, ndB⟩ := Cond.laysAt hfound hk hfB (own' (.lays E Bundle.tN "backtrace" "Ljava/lang/Object;") (by simp [tn_own]))
  have aC := Cond.laysApart hdB hdC ndB ndC (by rw [hnB, Q.causeName]; decide)
  have aS := Cond.laysApart hdB hdS ndB ndS (by rw [hnB, Q.stackName]; decide)
  have aP := Cond.laysApart hdB hdP ndB ndP (by rw [hnB, Q.suppName]; decide)
  have hskip : SkipFacts C e.platform s (fun u => u) u0 ((preparedCellV C.toThrowableT (freshCell P.m.cls kX) a u0 sen).withEntry T.cur) := by
    refine ⟨{ ci198 := ci, i198 := ib, fBack := fB }, ⟨hkb, hgb, hab, hsB⟩, ?_, fun _ _ => rfl⟩
    have h9 := fresh_default (c := P.m.cls) tyB
    rw [htB] at h9
    simpa [preparedCellV, Cell.setSlot, Cell.withEntry, Array.getElem?_setIfInBounds, aC, aS, aP, aC.symm, aS.symm, aP.symm, defaultValue] using h9
  obtain ⟨tm, methC, cdC, kC, vm₁, hnC, -, -, -, -, -, -, -, hW₁, go1⟩ := Steps.initColdS (tb := p.tables) (e := e) (below := below) (s := s) (U := T) X.here hexec X.warmed hpl hown (t := Bundle.initS E) rfl rfl (Bundle.fit_spec hE).2
    (own' (.methodLink own ic (Bundle.initS E)) (by simp [tn_own])) (h (.instanceMethod (Bundle.initS E)) (by simp [tn_at, Bundle.passSAtoms])) (bytes := rx) (maxL := 2) (h (.code (Bundle.initS E) rx 2 none) (by simp [tn_at, Bundle.passSAtoms])) (f := g) hg (a := a) (msg := msg) (rest := .ref a :: rest) hstack hd6
  cases hnC.symm.trans hPm
  have X₁ := X.noted hW₁
  obtain ⟨vm₂, X₂, go2⟩ := X₁.ctorMessageOffV hexec (g := { g with stack := .ref a :: rest }) hg hsize C L Z LZ M LM (P :: Ps) (fun D hD => (List.mem_cons.mp hD).elim (fun e => e ▸ LP) (hLs D)) ⟨hup, hpass⟩ (u0 := u0) (sen := sen) (self := a) hmsg (cell := freshCell P.m.cls kX) (cellS := st1)
    hcell (fun _ => by simp) (by simp) rfl rfl hsel0 hselF hcS hneS hkS (by rw [hkeep _ (hnl _)]; exact hu0) (by rw [hkeep _ (hnl _)]; exact hsen)
    (Takes.of_laid hk hord tyC (by rw [Q.causeType]; rfl)) (Takes.of_laid hk hord tyS (by rw [Q.stackType]; exact fits_refV_array _ u0)) (Takes.of_laid hk hord tyP (by rw [Q.suppType]; exact fits_refV_object _ sen))
    (Takes.of_laid hk hord tyM (by rw [Q.msgType]; exact fits_refV_object _ ⟨msg, hmsg⟩)) Q.objLocals hskip htr [] hd6 (by simp only [List.length_cons, hlen]; omega) (by simp only [List.length_cons, hlen]; exact hRl)
  obtain ⟨hwalk, hrun, hended, hWU, hsame⟩ := X₂.athrowLeaves hexec (g := { g with stack := .ref a :: rest, pc := g.pc + 3 }) hg hlocked hentered hout (a := a) (rest := rest) rfl hd9
  have hlt : a < ((T.setVm vm₁).setVm vm₂).heap.size := (Array.getElem?_eq_some_iff.mp hcell).1
  have hce := heapAt_setCell_self (s := (T.setVm vm₁).setVm vm₂) (plainBareV C.toThrowableT (freshCell P.m.cls kX) a u0 sen msg) hlt
  refine ⟨_, go1 _ (fun acts => ?_), hrun, hended, hWU, hsame.weaken (fun y hy hlt' => ?_) (Nat.le_refl _) (Nat.le_refl _), _, hce, rfl, hfound⟩
  · rw [doInvoke_state]
    exact go2 _ hwalk
  · rcases List.mem_append.mp hy with h1 | h1
    · exact h1
    · have hb : y.base = a := by
        simp only [List.mem_cons, List.not_mem_nil, or_false] at h1
        rcases h1 with rfl | rfl | rfl | rfl | rfl <;> rfl
      rw [hb] at hlt'
      exact absurd hlt' (Nat.not_lt.mpr hnew)
def tn_atS (own : String) (ic : Nat) (E Y : String) (r : List String) (ix : Nat) (rx : ByteArray) : List Cond := (tn_at own ic E Y r ix rx).filter vx_no
/-- the walk's row: made, told its text, thrown out of the method -/
theorem tn_row {cc : ByteArray} {H : Heap} {pc : Nat} {ls : Array Slot} {rest : List Value} {Qc : Array Value → State → Outcome → State → Prop} {XC : String → State → State → Prop} {free : Addr → Prop} (hexec : p.tables.exec = Jvm.exec) (hb : c.code = cc) (hl : l.stackTraces = false) {own E Y text : String} {r : List String} {ik is ic ix mc ms sa : Nat} {rx : ByteArray} {A : Nat → Prop}
    (x0 : decode rx 0 = .ok (.aload_n 0, 1)) (x1 : decode rx 1 = .ok (.aload_n 1, 1)) (x2 : decode rx 2 = .ok (.invokespecial ix, 3)) (x5 : decode rx 5 = .ok (.return_, 1))
    (hown : s.vm.findClass own = some m.cls) (hE : Bundle.fit E = true) (hY : Bundle.fit Y = true) (hr : ∀ n ∈ r, Bundle.fit n = true)
    (hk : (Cond.classLink own ik E).before args s = true) (hini : (Cond.initialized E).before args s = true) (hstr : vk_R own is text sa s) (hat : ∀ w ∈ tn_atS own ic E Y r ix rx, w.before args s = true)
    (hgood : ∀ w ∈ Cond.classLink own ik E :: Cond.initialized E :: tn_atS own ic E Y r ix rx, vx_ot w = true)
    (hU : vx_Zq Bundle.tN "UNASSIGNED_STACK" Bundle.steD A s s.heap) (hN : vx_Zq Bundle.tN "SUPPRESSED_SENTINEL" Bundle.listD A s s.heap) (hS : va_S A s.heap H locs) (hsize : ls.size = c.maxLocals)
    (d0 : decode cc pc = .ok (.new ik, 3)) (d3 : decode cc (pc + 3) = .ok (.dup, 1)) (d4 : decode cc (pc + 4) = .ok (.ldc is, 2)) (d6 : decode cc (pc + 6) = .ok (.invokespecial ic, 3)) (d9 : decode cc (pc + 9) = .ok (.athrow, 1))
    (hout : ∀ x ∈ c.exceptionTable.toList, covers x (pc + 9) = false)
    (hRf : r.length + 4 < R.frames) (hRl : (rest.map fun v => v.category).sum + (13 * (r.length + 2) + 43) ≤ R.locals) (hRc : cells + 1 ≤ R.cells) (hRs : slots + 6 ≤ R.slots) (hlocks : meth.locks = false)
    (hx : ∀ t : State, s.vm.Alike t.vm → H.size ≤ t.heap.size → (∀ q : Nat, q < H.size → t.heap[q]? = H[q]?) → XC E s t)
    (hf : ∀ z ∈ locs, free z.base) (hc : cells + 1 ≤ mc) (hs : slots + 6 ≤ ms) :
    W p l e R s m args below meth c H locs cells slots (vx_MQ below Qc XC args s mc ms free) (F0 m pc ls rest) := by
  intro T hT X
  have htr : e.platform.stackTraces = false := (show e.platform.stackTraces = l.stackTraces by rw [X.admits.platform]).trans hl
  have Y0 := vx_rebase X (R' := { frames := R.frames, locals := R.locals, cells := 1, slots := 6 }) (Nat.le_refl _) (Nat.le_refl _) hRc hRs
  obtain ⟨s', hA⟩ : ∃ z, z = (T.setVm s.vm).setFrames (.invoking m args :: below) := ⟨_, rfl⟩
  rw [← hA] at Y0
  have hvm : s'.vm = s.vm := by rw [hA]; rfl
  have hhp : s'.heap = H := by rw [hA]; exact hT
  have hW0 : s.WarmedH s'.vm := by rw [hvm]; exact State.WarmedH.refl s
  have up : ∀ w ∈ Cond.classLink own ik E :: Cond.initialized E :: tn_atS own ic E Y r ix rx, w.before args s = true → w.before args s' = true := fun w hw h9 => vx_ot_at hW0 hvm.symm (hgood w hw) h9
  have hU' : vx_Zq Bundle.tN "UNASSIGNED_STACK" Bundle.steD A s' s'.heap := by rw [hhp]; exact vx_Zq.moved hW0.alike (hU.kept hS.2.1)
  have hN' : vx_Zq Bundle.tN "SUPPRESSED_SENTINEL" Bundle.listD A s' s'.heap := by rw [hhp]; exact vx_Zq.moved hW0.alike (hN.kept hS.2.1)
  have h : ∀ w ∈ tn_at own ic E Y r ix rx, w.before args s' = true := vx_own (fun w hw => up w (List.mem_cons_of_mem _ (List.mem_cons_of_mem _ hw)) (hat w hw)) (vx_isRefq hU'.1) (vx_isRefq hN'.1) hU'.2.word hN'.2.word
  have hown' : s'.vm.findClass own = some m.cls := by rw [hvm]; exact hown
  obtain ⟨vm₁, cX, kX, hfX, hkX, -, -, X₁, go1⟩ := Y0.newCold hexec (own := own) (C := E) (index := ik) (n := 6) hown' (up _ List.mem_cons_self hk) (h _ (by simp [tn_at, tn_own])) (up _ (List.mem_cons_of_mem _ List.mem_cons_self) hini) (g := F0 m pc ls rest) rfl (by rw [hb]; exact d0) (Nat.le_refl _) (Nat.le_refl _)
  generalize hT1 : (T.setVm vm₁).pushCell { cls := cX, slots := kX.instanceTypes.map defaultValue, vm := .none } = T1 at X₁ go1
  have hcat : (Value.ref T.heap.size).category = 1 := rfl
  have hcA : T1.heap[T.heap.size]? = some (freshCell cX kX) := by rw [← hT1]; exact State.heap_pushCell_size _ _
  have d3' : decode c.code (pc + 3) = .ok (.dup, 1) := by rw [hb]; exact d3
  have d4' : decode c.code (pc + 4) = .ok (.ldc is, 2) := by rw [hb]; exact d4
  have hstr' : vk_R own is text sa s' := vk_R.warm hW0 hstr
  obtain ⟨U, hgo, hrun, hend, hW, hsame, ce, hce, hcv, hcc⟩ := tn_throw (args := args) X₁ hexec htr x0 x1 x2 x5 hown' hE hY hr h (vx_isRefq hU'.1) (vx_isRefq hN'.1) (fun x hx => nomatch hx) hfX hkX hcA (by rw [hhp, hT]; exact Nat.le_refl _) (msg := .ref sa) rfl
    (g := { method := m, pc := pc + 6, locals := ls, stack := .ref sa :: .ref T.heap.size :: .ref T.heap.size :: rest, locked := none }) rfl hsize rfl rfl (rest := rest) rfl (by rw [hb]; exact d6) (by rw [hb]; exact d9) hout hRf (by simp only [List.map_cons, List.sum_cons, hcat]; omega) hlocks
  obtain ⟨f1, f2⟩ := vx_frame hsame
  rw [hhp] at f1 f2
  have hWs : s.WarmedH U.vm := State.WarmedH.trans hW0 hW
  have hcl : s.vm.findClass E = some ce.cls := by rw [hvm] at hcc; exact hcc
  have hall : s.sameButNew ({ U with vm := s.vm } : State) locs mc ms := by
    subst hA
    obtain ⟨e1, e2⟩ := hsame
    rw [State.setFrames_setFrames] at e1
    have h2 : (T.setVm s.vm).sameButNew ({ U with vm := s.vm } : State) [] (0 + 1) (0 + 6) := ⟨e1, e2⟩
    have h3 := X.same.trans h2
    rw [List.append_nil] at h3
    exact h3.mono hc hs
  refine ⟨U, ?_, .threw T.heap.size, hrun, hend, Or.inr ⟨T.heap.size, rfl, E, ce, locs, hx U hWs.alike f1 (fun q hq => f2 q hq (fun z hz => nomatch hz)), hce, hcv, hcl, hWs, hall, hf⟩⟩
  refine go1 _ ?_
  show Steps p.tables e below (T1.setTop { method := m, pc := pc + 3, locals := ls, stack := .ref T.heap.size :: rest, locked := none }) _
  jvm_step X₁.here [X₁.here.top, hexec, d3', Value.category]
  exact X₁.ldcString hexec (own := own) (text := text) (index := is) (a := sa) hown' hstr'.1 hstr'.2 (g := { method := m, pc := pc + 4, locals := ls, stack := .ref T.heap.size :: .ref T.heap.size :: rest, locked := none }) rfl d4' _ hgo
end THROWN
def XLt (V : VX) (G : GH) (b M T : Nat) (σ : Mem) : String → State → State → Prop := fun E _ t => (E = eIX ∨ E = eNS) ∧ ∃ (N' : Nat) (τ : Mem), HM V N' τ t.heap ∧ HK V G (b, M, 1, T) [0, 1, 2, 3, 4, 5, 6, 7, 8, 9, 10, 11, 12, 13, 14, 15, 16, 17, 18, 19] σ τ
abbrev QLt (V : VX) (G : GH) (b M T : Nat) (σ : Mem) : Array Value → State → Outcome → State → Prop := fun _ s o t => ∃ N', Qm V N' (fun r τ => HK V G (b, M, 1, T) [0, 1, 2, 3, 4, 5, 6, 7, 8, 9, 10, 11, 12, 13, 14, 15, 16, 17, 18, 19] σ τ ∧ ∃ x : Int32, r = some (.int x)) s o t
abbrev QXt (V : VX) (X : MX) (G : GH) (b M T : Nat) (σ : Mem) : State → Prop := vx_MQ (x_b X) (QLt V G b M T σ) (XLt V G b M T σ) (x_a X) (x_s X) 1 6 (fun q => V.2.2.size ≤ q)
theorem tw_tbI : ∀ w ∈ (vx_atS RX9 111 eIX eNM).filter goodWord, w ∈ tb := tb_all [13, 525, 534, 538, 541, 543, 526, 527, 35, 36, 528, 533, 539, 794, 515, 795, 517, 796, 519, 529, 531, 521, 790, 791, 793, 521, 781, 782, 783, 784, 784, 785, 786, 787, 787, 788, 789, 790, 1391, 1382, 1384, 536, 1385, 1386, 1387, 1388, 524, 523, 1389] (by decide +kernel) (by decide +kernel)
theorem tw_badI : ∀ w ∈ (vx_atS RX9 111 eIX eNM).filter (fun w => !goodWord w), w ∈ TWw := by decide +kernel
theorem tw_otI : ∀ w ∈ Cond.classLink RX9 107 eIX :: Cond.initialized eIX :: vx_atS RX9 111 eIX eNM, vx_ot w = true := by decide +kernel
theorem kcwI : Cond.classLink RX9 107 eIX ∈ tb := tb_in 1381 (by decide +kernel) (by decide +kernel)
theorem iniI : Cond.initialized eIX ∈ tb := tb_in 16 (by decide +kernel) (by decide +kernel)
theorem tw_tbN : ∀ w ∈ (tn_atS RX9 148 eNS "java/lang/RuntimeException" ["java/lang/Exception"] 13 prog_36_method_4_code).filter goodWord, w ∈ tb := tb_all [13, 525, 534, 538, 541, 543, 526, 527, 35, 36, 528, 533, 539, 794, 515, 795, 517, 796, 519, 529, 531, 521, 790, 791, 793, 521, 1405, 1406, 1407, 784, 784, 785, 786, 787, 787, 788, 789, 790, 1404, 1395, 1397, 537, 1398, 1399, 1400, 1401, 524, 523, 1402] (by decide +kernel) (by decide +kernel)
theorem tw_badN : ∀ w ∈ (tn_atS RX9 148 eNS "java/lang/RuntimeException" ["java/lang/Exception"] 13 prog_36_method_4_code).filter (fun w => !goodWord w), w ∈ TWw := by decide +kernel
theorem tw_otN : ∀ w ∈ Cond.classLink RX9 144 eNS :: Cond.initialized eNS :: tn_atS RX9 148 eNS "java/lang/RuntimeException" ["java/lang/Exception"] 13 prog_36_method_4_code, vx_ot w = true := by decide +kernel
theorem kcwN : Cond.classLink RX9 144 eNS ∈ tb := tb_in 1394 (by decide +kernel) (by decide +kernel)
theorem iniN : Cond.initialized eNS ∈ tb := tb_in 28 (by decide +kernel) (by decide +kernel)
theorem HM.S {V : VX} {N N' : Nat} {σ τ : Mem} {H0 H : Heap} {locs : List Loc} (h0 : HM V N σ H0) (h1 : HM V N' τ H) (hN : N ≤ N') (h2 : ∀ q ∈ locs, V.2.2.size ≤ q.base) : va_S (fun q => V.2.2.size ≤ q) H0 H locs :=
  ⟨by rw [h0.1, h1.1]; exact hN, fun q _ hA => by rw [h0.2.2.1 q (Nat.not_le.mp hA), h1.2.2.1 q (Nat.not_le.mp hA)], h2⟩
theorem HM.more {V : VX} {N : Nat} {σ : Mem} {H H' : Heap} (h : HM V N σ H) (hz : H.size ≤ H'.size) (ho : ∀ q : Nat, q < H.size → H'[q]? = H[q]?) : HM V H'.size σ H' := by
  have hN := h.1
  have hG := h.2.1
  refine ⟨rfl, by omega, fun q hq => ?_, fun a x ha => ⟨(h.2.2.2 a x ha).1, va_at.kept (h.2.2.2 a x ha).2 (ho a (h.2.2.2 a x ha).2.lt)⟩⟩
  rw [ho q (by omega)]; exact h.2.2.1 q hq
theorem m_iretX {V : VX} {G : GH} {X : MX} {y : MethodName} {cc : ByteArray} {nL N pc n b M T : Nat} {R : Room} {σ σ0 : Mem} {lv : List (Nat × Value)} {v : Int32} (F : Fx V X y cc nL (some .int) R) (hQ : x_Q X = QXt V X G b M T σ0) (d : DC cc pc 1 n .ireturn) (hp : HK V G (b, M, 1, T) [0, 1, 2, 3, 4, 5, 6, 7, 8, 9, 10, 11, 12, 13, 14, 15, 16, 17, 18, 19] σ0 σ) : Wm V X nL N σ 0 0 pc lv [.int v] := by
  obtain ⟨d, rfl⟩ := d
  intro H locs ls h1 h2 h3
  rw [hQ]
  refine vx_ret ?_
  intro T' hT S
  exact (W.iret (cells := 1) (slots := 6) F.e F.b F.rt (fun t ht hW => ⟨N, _, σ, rfl, ⟨hp, v, rfl⟩, by rw [ht]; exact h1⟩) h2 d F.lk) T' hT (stand_widen S (by decide) (by decide))
theorem e_X9_lease_10 : DC cX9_lease 10 3 13 (.new 107) := ⟨by decide +kernel, rfl⟩
theorem e_X9_lease_13 : DC cX9_lease 13 1 14 (.dup) := ⟨by decide +kernel, rfl⟩
theorem e_X9_lease_14 : DC cX9_lease 14 2 16 (.ldc 109) := ⟨by decide +kernel, rfl⟩
theorem e_X9_lease_16 : DC cX9_lease 16 3 19 (.invokespecial 111) := ⟨by decide +kernel, rfl⟩
theorem e_X9_lease_19 : DC cX9_lease 19 1 20 (.athrow) := ⟨by decide +kernel, rfl⟩
theorem e_X9_lease_125 : DC cX9_lease 125 3 128 (.new 144) := ⟨by decide +kernel, rfl⟩
theorem e_X9_lease_128 : DC cX9_lease 128 1 129 (.dup) := ⟨by decide +kernel, rfl⟩
theorem e_X9_lease_129 : DC cX9_lease 129 2 131 (.ldc 146) := ⟨by decide +kernel, rfl⟩
theorem e_X9_lease_131 : DC cX9_lease 131 3 134 (.invokespecial 148) := ⟨by decide +kernel, rfl⟩
theorem e_X9_lease_134 : DC cX9_lease 134 1 135 (.athrow) := ⟨by decide +kernel, rfl⟩
theorem e_X9_lease_0 : DC cX9_lease 0 1 1 (.aload_n 0) := ⟨by decide +kernel, rfl⟩
theorem e_X9_lease_1 : DC cX9_lease 1 1 2 (.iload_n 1) := ⟨by decide +kernel, rfl⟩
theorem e_X9_lease_2 : DC cX9_lease 2 3 5 (.invokevirtual 103) := ⟨by decide +kernel, rfl⟩
theorem e_X9_lease_5 : DC cX9_lease 5 1 6 (.astore_n 3) := ⟨by decide +kernel, rfl⟩
theorem e_X9_lease_6 : DC cX9_lease 6 1 7 (.aload_n 3) := ⟨by decide +kernel, rfl⟩
theorem e_X9_lease_7 : DJ cX9_lease 7 20 10 .ifnonnull := DJ.mk 13 (by decide +kernel) (by decide) rfl
theorem e_X9_lease_20 : DC cX9_lease 20 1 21 (.iload_n 2) := ⟨by decide +kernel, rfl⟩
theorem e_X9_lease_21 : decode cX9_lease 21 = .ok (.tableswitch 104 0 8 #[51, 56, 61, 66, 71, 76, 81, 86, 99], 51) := by decide +kernel
theorem e_X9_lease_72 : DC cX9_lease 72 1 73 (.aload_n 3) := ⟨by decide +kernel, rfl⟩
theorem e_X9_lease_73 : DC cX9_lease 73 3 76 (.getfield 114) := ⟨by decide +kernel, rfl⟩
theorem e_X9_lease_76 : DC cX9_lease 76 1 77 (.ireturn) := ⟨by decide +kernel, rfl⟩
theorem e_X9_lease_77 : DC cX9_lease 77 1 78 (.aload_n 3) := ⟨by decide +kernel, rfl⟩
theorem e_X9_lease_78 : DC cX9_lease 78 3 81 (.getfield 119) := ⟨by decide +kernel, rfl⟩
theorem e_X9_lease_81 : DC cX9_lease 81 1 82 (.ireturn) := ⟨by decide +kernel, rfl⟩
theorem e_X9_lease_82 : DC cX9_lease 82 1 83 (.aload_n 3) := ⟨by decide +kernel, rfl⟩
theorem e_X9_lease_83 : DC cX9_lease 83 3 86 (.getfield 122) := ⟨by decide +kernel, rfl⟩
theorem e_X9_lease_86 : DC cX9_lease 86 1 87 (.ireturn) := ⟨by decide +kernel, rfl⟩
theorem e_X9_lease_87 : DC cX9_lease 87 1 88 (.aload_n 3) := ⟨by decide +kernel, rfl⟩
theorem e_X9_lease_88 : DC cX9_lease 88 3 91 (.getfield 125) := ⟨by decide +kernel, rfl⟩
theorem e_X9_lease_91 : DC cX9_lease 91 1 92 (.ireturn) := ⟨by decide +kernel, rfl⟩
theorem e_X9_lease_92 : DC cX9_lease 92 1 93 (.aload_n 3) := ⟨by decide +kernel, rfl⟩
theorem e_X9_lease_93 : DC cX9_lease 93 3 96 (.invokevirtual 128) := ⟨by decide +kernel, rfl⟩
theorem e_X9_lease_96 : DC cX9_lease 96 1 97 (.ireturn) := ⟨by decide +kernel, rfl⟩
theorem e_X9_lease_97 : DC cX9_lease 97 1 98 (.aload_n 3) := ⟨by decide +kernel, rfl⟩
theorem e_X9_lease_98 : DC cX9_lease 98 3 101 (.getfield 132) := ⟨by decide +kernel, rfl⟩
theorem e_X9_lease_101 : DC cX9_lease 101 1 102 (.ireturn) := ⟨by decide +kernel, rfl⟩
theorem e_X9_lease_102 : DC cX9_lease 102 1 103 (.aload_n 3) := ⟨by decide +kernel, rfl⟩
theorem e_X9_lease_103 : DC cX9_lease 103 3 106 (.getfield 135) := ⟨by decide +kernel, rfl⟩
theorem e_X9_lease_106 : DC cX9_lease 106 1 107 (.ireturn) := ⟨by decide +kernel, rfl⟩
theorem e_X9_lease_107 : DC cX9_lease 107 1 108 (.aload_n 3) := ⟨by decide +kernel, rfl⟩
theorem e_X9_lease_108 : DC cX9_lease 108 3 111 (.getfield 138) := ⟨by decide +kernel, rfl⟩
theorem e_X9_lease_111 : DJ cX9_lease 111 118 114 (.ifCond .eq) := DJ.mk 7 (by decide +kernel) (by decide) rfl
theorem e_X9_lease_118 : DC cX9_lease 118 1 119 (.iconst 0) := ⟨by decide +kernel, rfl⟩
theorem e_X9_lease_119 : DC cX9_lease 119 1 120 (.ireturn) := ⟨by decide +kernel, rfl⟩
theorem e_X9_lease_114 : DC cX9_lease 114 1 115 (.iconst 1) := ⟨by decide +kernel, rfl⟩
theorem e_X9_lease_115 : DJ cX9_lease 115 119 118 .goto := DJ.mk 4 (by decide +kernel) (by decide) rfl
theorem e_X9_lease_120 : DC cX9_lease 120 1 121 (.aload_n 3) := ⟨by decide +kernel, rfl⟩
theorem e_X9_lease_121 : DC cX9_lease 121 3 124 (.getfield 141) := ⟨by decide +kernel, rfl⟩
theorem e_X9_lease_124 : DC cX9_lease 124 1 125 (.ireturn) := ⟨by decide +kernel, rfl⟩
