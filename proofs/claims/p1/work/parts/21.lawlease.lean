def HLt : List (Nat × Nat × Nat × Nat) := [(0, 10, 13, 13), (0, 10, 17, 15)]
abbrev QL (V : VX) (σ : Mem) : Array Value → State → Outcome → State → Prop := fun _ s o t => ∃ N', Qm V N' (fun r τ => r = some (.int 1) ∧ τ = σ) s o t
theorem cw_L_lease : Cond.codeWith yL_lease cL_lease 5 (some .int) HLt ∈ tb := tb_in 1374 (by decide +kernel) (by decide +kernel)
theorem kc_L_13 : Cond.classLink R_law 13 eIX ∈ tb := tb_in 1375 (by decide +kernel) (by decide +kernel)
theorem ini_L : Cond.initialized R_law ∈ tb := tb_in 0 (by decide +kernel) (by decide +kernel)
theorem ml_L_43 : Cond.methodLink R_law 43 yL_lease ∈ tb := tb_in 1372 (by decide +kernel) (by decide +kernel)
theorem sm_L_lease : Cond.static yL_lease ∈ tb := tb_in 1373 (by decide +kernel) (by decide +kernel)
theorem cb_X9_lease : CB yX9_lease cX9_lease 4 (some .int) 2 := ⟨tb_in 1380 (by decide +kernel) (by decide +kernel), tb_in 1 (by decide +kernel) (by decide +kernel), by decide +kernel⟩
theorem ml_L_7 : Cond.methodLink R_law 7 yX9_lease ∈ tb := tb_in 1377 (by decide +kernel) (by decide +kernel)
theorem im_X9_lease : Cond.instanceMethod yX9_lease ∈ tb := tb_in 1378 (by decide +kernel) (by decide +kernel)
theorem se_X9_lease : Cond.selects (yX9_lease).cls yX9_lease yX9_lease ∈ tb := tb_in 1379 (by decide +kernel) (by decide +kernel)
theorem e_L_lease_0 : DC cL_lease 0 1 1 (.aload_n 3) := ⟨by decide +kernel, rfl⟩
theorem e_L_lease_1 : DC cL_lease 1 1 2 (.iconst 0) := ⟨by decide +kernel, rfl⟩
theorem e_L_lease_2 : DC cL_lease 2 1 3 (.aload_n 0) := ⟨by decide +kernel, rfl⟩
theorem e_L_lease_3 : DC cL_lease 3 1 4 (.iload_n 1) := ⟨by decide +kernel, rfl⟩
theorem e_L_lease_4 : DC cL_lease 4 1 5 (.iload_n 2) := ⟨by decide +kernel, rfl⟩
theorem e_L_lease_5 : DC cL_lease 5 3 8 (.invokevirtual 7) := ⟨by decide +kernel, rfl⟩
theorem e_L_lease_13 : DC cL_lease 13 2 15 (.astore 4) := ⟨by decide +kernel, rfl⟩
theorem e_L_lease_15 : DC cL_lease 15 1 16 (.iconst 1) := ⟨by decide +kernel, rfl⟩
theorem e_L_lease_16 : DC cL_lease 16 1 17 (.ireturn) := ⟨by decide +kernel, rfl⟩

section CX
variable {V : VX} {X : MX} {y : MethodName} {cc : ByteArray} {nL N k z pc n : Nat} {ret : Option FieldType} {R : Room} {σ : Mem} {lv : List (Nat × Value)} {st : List Value}
variable {mc ms dd maxL cn : Nat} {y2 : MethodName} {c2 : ByteArray} {r2 : Option FieldType} {As rest : List Value}
theorem m_callVX (F : Fx V X y cc nL ret R) {index ci a sa : Nat} {fs : List Value} (d : DC cc pc 3 n (.invokevirtual index)) (hM : vx_Met (x_l X) y2 (.code y2 c2 maxL r2 :: tb) (rmd dd mc ms) (fun v U => v = (Value.ref a :: As).toArray ∧ HM V N σ U.heap ∧ KU V U ∧ TW V sa U) (fun _ _ _ _ => False) (XL V σ) mc ms (fun q => V.2.2.size ≤ q)) (hT : TW V sa (x_s X)) (cb : CB y2 c2 maxL r2 cn) (hlink : Cond.methodLink y.cls index y2 ∈ tb) (hin : Cond.instanceMethod y2 ∈ tb) (hse : Cond.selects y2.cls y2 y2 ∈ tb) (ha : σ a = some (.inr (ci, fs))) (hci : (classes[ci]?).map (·.1) = some y2.cls) (hn : As.length = cn) (hst : st = As.reverse ++ .ref a :: rest) (hw : (rest.map fun v => v.category).sum ≤ 8) (hR : dd + 1 ≤ R.frames ∧ 8 + (maxL + 11) + 41 * dd ≤ R.locals) (hf : k + mc ≤ R.cells ∧ z + ms ≤ R.slots)
    (kx : ∀ (q9 : Addr) (ce : Cell) (N' : Nat) (H1 : Heap) (locs1 : List Loc) (ls : Array Slot), HM V N' σ H1 → (∀ q ∈ locs1, V.2.2.size ≤ q.base) → lv_has ls nL lv → H1[q9]? = some ce → ce.vm = .none → (x_s X).vm.findClass eIX = some ce.cls → vx_W (x_p X) (x_l X) (x_e X) (x_R X) (x_s X) (x_m X) (x_a X) (x_b X) (x_t X) (x_c X) H1 locs1 (k + mc) (z + ms) (x_Q X) (F0 (x_m X) pc ls rest) q9) : Wm V X nL N σ k z pc lv st := by
  obtain ⟨d, rfl⟩ := d
  subst hst
  intro H locs ls h1 h2 h3
  obtain ⟨q, hq, hq1⟩ := Option.map_eq_some_iff.mp hci
  have hrecv := va_recv F.ku.1 (h1.one ha) hq (q0 := 0) rfl
  rw [hq1] at hrecv
  have hb := callB_of (own := y.cls) (index := index) (y := y2) (bytes := c2) (maxL := maxL) (ret := r2) (ws := Cond.code y2 c2 maxL r2 :: tb) (rm := rmd dd mc ms) (mc := mc) (ms := ms) (R := x_R X) cn F.ts (tb_gi (cond_tb cb)) rfl rfl rfl (F.ts _ cb.2.1) (F.ts _ hlink) cb.2.2 (by rw [F.rm]; exact hR)
  have hr := vx_runV (g := F0 (x_m X) pc ls (As.reverse ++ .ref a :: rest)) (C := y2.cls) (As := As) (rest := rest) (locs := locs) (cells := k) (slots := z) (below := x_b X) (meth := x_t X) (e := x_e X) ⟨F.e, F.b, F.ml, F.own, F.ts⟩ hM ⟨hb, F.ts _ hin, F.ts _ hse⟩ ⟨pc_blindT, hrecv, fun U hU hW => ⟨rfl, by rw [hU]; exact h1, F.ku.warm hW, hT.warm hW⟩⟩ rfl hn h3.1 rfl (lv_room hw) d (by rw [F.rm]; exact hf)
  intro T hT' S
  rcases hr T hT' S with ⟨v, st₀, t, T', L, h0, S', hL, e1, e2, hF, st⟩ | ⟨q9, st₀, t, T', L, E, ce, h0, S', hL, e1, e2, ⟨hE, N', hm⟩, hce, hcv, hcl, step⟩
  · exact False.elim hF
  · subst hE
    obtain ⟨t2, a1, b1⟩ := kx q9 ce N' T'.heap (locs ++ L) ls (by rw [e1]; exact hm) (fun q hq => by
      rcases List.mem_append.mp hq with h | h
      · exact h2 q h
      · exact hL q h) h3 (by rw [e1]; exact hce) hcv hcl T' rfl S'
    exact ⟨t2, step.trans a1, b1⟩
theorem m_callSX (F : Fx V X y cc nL ret R) {index sa : Nat} (d : DC cc pc 3 n (.invokestatic index)) (hM : Met (x_l X) yL_lease (.codeWith yL_lease cL_lease 5 (some .int) HLt :: tb) (rmd 9 1 6) (fun v U => v = As.toArray ∧ HM V N σ U.heap ∧ KU V U ∧ TW V sa U) (QL V σ) 1 6 (fun q => V.2.2.size ≤ q)) (hT : TW V sa (x_s X)) (hlink : Cond.methodLink y.cls index yL_lease ∈ tb) (hn : As.length = 4) (hst : st = As.reverse ++ rest) (hw : (rest.map fun v => v.category).sum ≤ 8) (hR : 9 + 1 ≤ R.frames ∧ 8 + (5 + 11) + 41 * 9 ≤ R.locals) (hf : k + 1 ≤ R.cells ∧ z + 6 ≤ R.slots)
    (kk : ∀ N' : Nat, Wm V X nL N' σ (k + 1) (z + 6) n lv (.int 1 :: rest)) : Wm V X nL N σ k z pc lv st := by
  obtain ⟨d, rfl⟩ := d
  subst hst
  intro H locs ls h1 h2 h3
  have hG : ∀ w ∈ (Cond.codeWith yL_lease cL_lease 5 (some .int) HLt :: tb), w ∈ tb := fun w hw => (List.mem_cons.mp hw).elim (fun e => e ▸ cw_L_lease) id
  have hr := vx_runSW (g := F0 (x_m X) pc ls (As.reverse ++ rest)) (As := As) (rest := rest) (locs := locs) (cells := k) (slots := z) (below := x_b X) (meth := x_t X) (e := x_e X) (R := x_R X) (hh := HLt) (n := 4) ⟨F.e, F.b, F.ml, F.own, F.ts⟩ hM
    ⟨⟨rfl, rfl, by rw [F.rm]; exact hR.1, by rw [F.rm]; exact hR.2, pay_in F.ts (tb_gi hG), List.mem_cons_self⟩, F.ts _ cw_L_lease, F.ts _ ini_L, ⟨by decide, by decide⟩, fun sig h => by
      have h2 : (parseMethodDescriptor yL_lease.desc).map (fun d => d.parameters.length) = some 4 := by decide +kernel
      rw [h] at h2
      exact (Option.some.inj h2).symm, F.ts _ hlink, F.ts _ sm_L_lease⟩ ⟨pc_blindT, fun U hU hW => ⟨rfl, by rw [hU]; exact h1, F.ku.warm hW, hT.warm hW⟩⟩ rfl hn h3.1 rfl (lv_room hw) d (by rw [F.rm]; exact hf)
  intro T hT' S
  obtain ⟨v, st₀, t, T', L, h0, S', hL', e1, e2, ⟨N', r, τ, hv, ⟨hr1, hτ⟩, hm⟩, step⟩ := hr T hT' S
  cases hv
  subst hr1; subst hτ
  obtain ⟨t2, a1, b1⟩ := kk N' T'.heap (locs ++ L) ls (by rw [e1]; exact hm) (fun q hq => by
      rcases List.mem_append.mp hq with h | h
      · exact h2 q h
      · exact hL' q h) h3 T' rfl S'
  exact ⟨t2, step t2 a1, b1⟩
end CX
set_option maxRecDepth 20000 in
theorem k_Llease (l : Launch) (hl0 : l.stackTraces = false) (V : VX) (N : Nat) (σ : Mem) (b sa ou : Nat) (x y : Int32) (hZ : LLz V σ b) : Met l yL_lease (.codeWith yL_lease cL_lease 5 (some .int) HLt :: tb) (rmd 9 1 6) (fun v U => v = [.ref b, .int x, .int y, .ref ou].toArray ∧ HM V N σ U.heap ∧ KU V U ∧ TW V sa U) (QL V σ) 1 6 (fun q => V.2.2.size ≤ q) := by
  refine va_MetW (cc := cL_lease) (maxL := 5) (ret := some .int) (hh := HLt) (by decide) rfl ?_
  intro p e s m args below meth c s₁ B hml hv
  obtain ⟨rfl, hM0, hK, hT0⟩ := hv
  have hts := atoms_spec (ws := Cond.codeWith yL_lease cL_lease 5 (some .int) HLt :: tb) B.pre
  have htab := vx_table (x := yL_lease) B (hts _ List.mem_cons_self)
  have h3 := lv_entry [.ref b, .int x, .int y, .ref ou] (n := 5) (Nat.le_of_ble_eq_true rfl)
  rw [lg_entry_eq]
  have body : ∀ X : MX, x_Q X = MQ (x_b X) (QL V σ) (x_a X) (x_s X) 1 6 (fun q => V.2.2.size ≤ q) → Fx V X yL_lease cL_lease 5 (some .int) (rmd 9 1 6) → (x_c X).exceptionTable.toList = tableOf HLt → (x_l X).stackTraces = false → TW V sa (x_s X) → Wm V X 5 N σ 0 0 0 [(0, .ref b), (1, .int x), (2, .int y), (3, .ref ou)] [] := by
    intro X hQ F htb hl hT
    refine m_aload_n F rfl e_L_lease_0 ?_
    refine m_iconst F (v := 0) (by decide) e_L_lease_1 ?_
    refine m_aload_n F rfl e_L_lease_2 ?_
    refine m_iload_n F rfl e_L_lease_3 ?_
    refine m_iload_n F rfl e_L_lease_4 ?_
    refine m_callVX F e_L_lease_5 (k_lease0 (x_l X) hl V _ _ b sa x y hZ) hT cb_X9_lease ml_L_7 im_X9_lease se_X9_lease hZ.1 rfl rfl (rest := [.int 0, .ref ou]) rfl (Nat.le_of_ble_eq_true rfl) ⟨Nat.le_of_ble_eq_true rfl, Nat.le_of_ble_eq_true rfl⟩ ⟨Nat.le_of_ble_eq_true rfl, Nat.le_of_ble_eq_true rfl⟩ (fun q9 ce N' H1 locs1 ls g1 g2 g3 hce hcv hcl => ?_)
    refine vx_catch (own := R_law) (name := eIX) (E := eIX) F.own [] ⟨0, 10, 13, 13⟩ [⟨0, 10, 17, 15⟩] (by rw [htb]; rfl) (fun z hz => absurd hz List.not_mem_nil) (by decide) (by decide) (F.ts _ kc_L_13) (va_Nw.use rfl (hT.2.2.2 _ (by simp [TWw]))) hce hcv hcl ?_
    have hh : Wm V X 5 N' σ 1 6 13 [(0, .ref b), (1, .int x), (2, .int y), (3, .ref ou)] [.ref q9] := by
      refine m_astore F (lv' := [(4, .ref q9), (0, .ref b), (1, .int x), (2, .int y), (3, .ref ou)]) e_L_lease_13 (by decide) rfl ?_
      refine m_iconst F (v := 1) (by decide) e_L_lease_15 ?_
      intro H locs ls h1 h2 h3
      rw [hQ]
      exact W.iret F.e F.b F.rt (fun t ht hW => ⟨N', _, σ, rfl, ⟨rfl, rfl⟩, by rw [ht]; exact h1⟩) h2 e_L_lease_16.1 F.lk
    exact hh H1 locs1 ls g1 g2 g3
  exact body ((p, l, e, rmd 9 1 6, s, m, [Value.ref b, .int x, .int y, .ref ou].toArray, below, meth, c), MQ below (QL V σ) [Value.ref b, .int x, .int y, .ref ou].toArray s 1 6 (fun q => V.2.2.size ≤ q)) rfl
    ⟨B.exec, B.bytes, hml, findClass_of_methodNamed B.named, fun w hw => hts w (List.mem_cons_of_mem _ hw), hK, B.returns, B.notSynchronized, (name_of_methodNamed B.named B.method).1, rfl⟩ htab hl0 hT0 s.heap [] _ hM0 (fun _ h => absurd h List.not_mem_nil) h3
