def R_law : String := "LeaseLedgerLaw"
abbrev cL_lease : ByteArray := method_3_code
def yL_lease : MethodName := ⟨R_law, "lease", "(LLeaseLedger;II[J)I"⟩
abbrev cL_law : ByteArray := code
abbrev eIX : String := "java/lang/IndexOutOfBoundsException"
abbrev eNM : List String := ["java/lang/RuntimeException", "java/lang/Exception"]
def TWw : List Cond := [.castable eIX eIX, .declares ⟨"java/lang/RuntimeException", "<init>", "(Ljava/lang/String;)V"⟩, .declares ⟨"java/lang/Exception", "<init>", "(Ljava/lang/String;)V"⟩, .declares ⟨"java/lang/Throwable", "<init>", "(Ljava/lang/String;)V"⟩]
def TW (V : VX) (sa : Nat) (U : State) : Prop := vk_R RX9 109 "no such lease" sa U ∧ vx_Zq Bundle.tN "UNASSIGNED_STACK" Bundle.steD (fun q => V.2.2.size ≤ q) U V.2.2 ∧ vx_Zq Bundle.tN "SUPPRESSED_SENTINEL" Bundle.listD (fun q => V.2.2.size ≤ q) U V.2.2 ∧ ∀ w ∈ TWw, va_Nw w U
theorem tw_on {w : Cond} (hw : w ∈ TWw) : w.onTables = true := by
  simp only [TWw, List.mem_cons, List.not_mem_nil, or_false] at hw
  rcases hw with rfl | rfl | rfl | rfl <;> rfl
theorem tw_warm {s U : State} (hW : s.WarmedH U.vm) {w : Cond} (hw : w ∈ TWw) (h : va_Nw w s) : va_Nw w U := by
  simp only [TWw, List.mem_cons, List.not_mem_nil, or_false] at hw
  rcases hw with rfl | rfl | rfl | rfl
  · exact va_Nw.warmC hW h
  · exact va_Nw.warmD hW h
  · exact va_Nw.warmD hW h
  · exact va_Nw.warmD hW h
theorem TW.warm {V : VX} {sa : Nat} {s U : State} (hW : s.WarmedH U.vm) (h : TW V sa s) : TW V sa U := ⟨vk_R.warm hW h.1, vx_Zq.moved hW.alike h.2.1, vx_Zq.moved hW.alike h.2.2.1, fun w hw => tw_warm hW hw (h.2.2.2 w hw)⟩
theorem TW.call {V : VX} {sa : Nat} {U : State} {g : JFrame} {mk : MethodId} {a : Array Value} (h : TW V sa U) : TW V sa (U.calling g mk a) := ⟨vk_R.same (u := U) (U := U.calling g mk a) rfl h.1, vx_Zq.moved (u := U) (U := U.calling g mk a) (Vm.Alike.refl U.vm) h.2.1, vx_Zq.moved (u := U) (U := U.calling g mk a) (Vm.Alike.refl U.vm) h.2.2.1, fun w hw => va_Nw.same (u := U) (U := U.calling g mk a) (tw_on hw) rfl (h.2.2.2 w hw)⟩
def XL (V : VX) (σ : Mem) : String → State → State → Prop := fun E _ t => E = eIX ∧ ∃ N', HM V N' σ t.heap
theorem pc_blindT {V : VX} {N sa : Nat} {σ : Mem} {as : List Value} : FrameBlind (fun v U => v = as.toArray ∧ HM V N σ U.heap ∧ KU V U ∧ TW V sa U) := fun _ _ _ _ q => ⟨q.1, q.2.1, q.2.2.1.call, q.2.2.2.call⟩
theorem tw_tb : ∀ w ∈ (vx_atS RX9 111 eIX eNM).filter goodWord, w ∈ tb := tb_all [13, 525, 534, 538, 541, 543, 526, 527, 35, 36, 528, 533, 539, 794, 515, 795, 517, 796, 519, 529, 531, 521, 790, 791, 793, 521, 781, 782, 783, 784, 784, 785, 786, 787, 787, 788, 789, 790, 1391, 1382, 1384, 536, 1385, 1386, 1387, 1388, 524, 523, 1389] (by decide +kernel) (by decide +kernel)
theorem tw_bad : ∀ w ∈ (vx_atS RX9 111 eIX eNM).filter (fun w => !goodWord w), w ∈ TWw := by decide +kernel
theorem tw_ot : ∀ w ∈ Cond.classLink RX9 107 eIX :: Cond.initialized eIX :: vx_atS RX9 111 eIX eNM, vx_ot w = true := by decide +kernel
theorem kc_X9_107 : Cond.classLink RX9 107 eIX ∈ tb := tb_in 1381 (by decide +kernel) (by decide +kernel)
theorem ini_IX : Cond.initialized eIX ∈ tb := tb_in 16 (by decide +kernel) (by decide +kernel)
theorem HM.S {V : VX} {N N' : Nat} {σ τ : Mem} {H0 H : Heap} {locs : List Loc} (h0 : HM V N σ H0) (h1 : HM V N' τ H) (hN : N ≤ N') (h2 : ∀ q ∈ locs, V.2.2.size ≤ q.base) : va_S (fun q => V.2.2.size ≤ q) H0 H locs :=
  ⟨by rw [h0.1, h1.1]; exact hN, fun q _ hA => by rw [h0.2.2.1 q (Nat.not_le.mp hA), h1.2.2.1 q (Nat.not_le.mp hA)], h2⟩
theorem HM.more {V : VX} {N : Nat} {σ : Mem} {H H' : Heap} (h : HM V N σ H) (hz : H.size ≤ H'.size) (ho : ∀ q : Nat, q < H.size → H'[q]? = H[q]?) : HM V H'.size σ H' := by
  have hN := h.1
  have hG := h.2.1
  refine ⟨rfl, by omega, fun q hq => ?_, fun a x ha => ⟨(h.2.2.2 a x ha).1, va_at.kept (h.2.2.2 a x ha).2 (ho a (h.2.2.2 a x ha).2.lt)⟩⟩
  rw [ho q (by omega)]; exact h.2.2.1 q hq
abbrev QX (V : VX) (X : MX) (σ : Mem) : State → Prop := vx_MQ (x_b X) (fun _ _ _ _ => False) (XL V σ) (x_a X) (x_s X) 1 6 (fun q => V.2.2.size ≤ q)
theorem e_X9_lease_10 : DC cX9_lease 10 3 13 (.new 107) := ⟨by decide +kernel, rfl⟩
theorem e_X9_lease_13 : DC cX9_lease 13 1 14 (.dup) := ⟨by decide +kernel, rfl⟩
theorem e_X9_lease_14 : DC cX9_lease 14 2 16 (.ldc 109) := ⟨by decide +kernel, rfl⟩
theorem e_X9_lease_16 : DC cX9_lease 16 3 19 (.invokespecial 111) := ⟨by decide +kernel, rfl⟩
theorem e_X9_lease_19 : DC cX9_lease 19 1 20 (.athrow) := ⟨by decide +kernel, rfl⟩
theorem e_X9_lease_0 : DC cX9_lease 0 1 1 (.aload_n 0) := ⟨by decide +kernel, rfl⟩
theorem e_X9_lease_1 : DC cX9_lease 1 1 2 (.iload_n 1) := ⟨by decide +kernel, rfl⟩
theorem e_X9_lease_2 : DC cX9_lease 2 3 5 (.invokevirtual 103) := ⟨by decide +kernel, rfl⟩
theorem e_X9_lease_5 : DC cX9_lease 5 1 6 (.astore_n 3) := ⟨by decide +kernel, rfl⟩
theorem e_X9_lease_6 : DC cX9_lease 6 1 7 (.aload_n 3) := ⟨by decide +kernel, rfl⟩
theorem e_X9_lease_7 : DJ cX9_lease 7 20 10 .ifnonnull := DJ.mk 13 (by decide +kernel) (by decide) rfl
theorem lease_throw {V : VX} {X : MX} {N sa : Nat} {σ σ0 : Mem} {lv : List (Nat × Value)} (F : Fx V X yX9_lease cX9_lease 4 (some .int) (rmd 8 1 6)) (hQ : x_Q X = QX V X σ) (ht : ∀ z ∈ (x_c X).exceptionTable.toList, False) (hl : (x_l X).stackTraces = false) (hT : TW V sa (x_s X)) (h0 : HM V N σ0 (x_s X).heap) : Wm V X 4 N σ 0 0 10 lv [] := by
  intro H locs ls h1 h2 h3
  rw [hQ]
  have hS := HM.S h0 h1 (Nat.le_refl _) h2
  have hk : ∀ a : Nat, a < V.2.2.size → ¬ (V.2.2.size ≤ a) → (x_s X).heap[a]? = V.2.2[a]? := fun a ha _ => h0.2.2.1 a ha
  refine vx_throwS (cc := cX9_lease) (pc := 10) (own := RX9) (cls := eIX) (text := "no such lease") (names := eNM) (ik := 107) (is := 109) (ic := 111) (sa := sa) (A := fun q => V.2.2.size ≤ q) F.e F.b hl F.own (by decide +kernel) (by decide +kernel) (F.ts _ kc_X9_107) (F.ts _ ini_IX) hT.1
    (vx_hat (L := vx_atS RX9 111 eIX eNM) (B := TWw) (fun w hw => F.ts w (tw_tb w hw)) tw_bad (fun w hw => va_Nw.use (tw_on hw) (hT.2.2.2 w hw))) tw_ot (hT.2.1.kept hk) (hT.2.2.1.kept hk) hS (by rw [F.ml]; exact h3.1)
    e_X9_lease_10.1 e_X9_lease_13.1 e_X9_lease_14.1 e_X9_lease_16.1 e_X9_lease_19.1 (fun z hz => absurd hz (ht z)) (by rw [F.rm]; exact Nat.le_of_ble_eq_true rfl) (by rw [F.rm]; exact Nat.le_of_ble_eq_true rfl) (by rw [F.rm]; exact Nat.le_of_ble_eq_true rfl) (by rw [F.rm]; exact Nat.le_of_ble_eq_true rfl) F.lk
    (fun t _ hz ho => ⟨rfl, t.heap.size, h1.more hz ho⟩) h2 (Nat.le_of_ble_eq_true rfl) (Nat.le_of_ble_eq_true rfl)
set_option maxRecDepth 20000 in
theorem k_lease0 (l : Launch) (hl0 : l.stackTraces = false) (V : VX) (N : Nat) (σ : Mem) (b sa : Nat) (x y : Int32) (hZ : LLz V σ b) : vx_Met l yX9_lease (.code yX9_lease cX9_lease 4 (some .int) :: tb) (rmd 8 1 6) (fun v U => v = [.ref b, .int x, .int y].toArray ∧ HM V N σ U.heap ∧ KU V U ∧ TW V sa U) (fun _ _ _ _ => False) (XL V σ) 1 6 (fun q => V.2.2.size ≤ q) := by
  refine vx_ofW (cc := cX9_lease) (maxL := 4) (ret := some .int) (by decide) rfl ?_
  intro p e s m args below meth c s₁ B hml ht0 hv
  obtain ⟨rfl, hM0, hK, hT0⟩ := hv
  have hts := atoms_spec (ws := Cond.code yX9_lease cX9_lease 4 (some .int) :: tb) B.pre
  have h3 := lv_entry [.ref b, .int x, .int y] (n := 4) (Nat.le_of_ble_eq_true rfl)
  rw [lg_entry_eq]
  have body : ∀ X : MX, x_Q X = QX V X σ → Fx V X yX9_lease cX9_lease 4 (some .int) (rmd 8 1 6) → (∀ z ∈ (x_c X).exceptionTable.toList, False) → (x_l X).stackTraces = false → TW V sa (x_s X) → HM V N σ (x_s X).heap → Wm V X 4 N σ 0 0 0 [(0, .ref b), (1, .int x), (2, .int y)] [] := by
    intro X hQ F ht hl hT hM
    refine m_aload_n F rfl e_X9_lease_0 ?_
    refine m_iload_n F rfl e_X9_lease_1 ?_
    refine m_callV F e_X9_lease_2 (k_leaseAt0 (x_l X) V _ _ b 0 0 0 x hZ.lg) cb_X9_leaseAt ml_X9_103 im_X9_leaseAt se_X9_leaseAt hZ.1 rfl rfl (rest := []) rfl (Nat.le_of_ble_eq_true rfl) ⟨Nat.le_of_ble_eq_true rfl, Nat.le_of_ble_eq_true rfl⟩ ⟨Nat.le_of_ble_eq_true rfl, Nat.le_of_ble_eq_true rfl⟩ (k' := 0) (z' := 0) (N' := N) rfl rfl rfl (fun r τ hp => ?_)
    obtain ⟨rfl, hτ⟩ := hp
    rw [hτ]
    clear hτ
    refine m_astore_nN F (lv' := [(3, .null), (0, .ref b), (1, .int x), (2, .int y)]) e_X9_lease_5 (by decide) rfl ?_
    refine m_aload_nN F rfl e_X9_lease_6 ?_
    refine m_ifnonnullN F e_X9_lease_7 ?_
    exact lease_throw F hQ ht hl hT hM
  exact body ((p, l, e, rmd 8 1 6, s, m, [Value.ref b, .int x, .int y].toArray, below, meth, c), vx_MQ below (fun _ _ _ _ => False) (XL V σ) [Value.ref b, .int x, .int y].toArray s 1 6 (fun q => V.2.2.size ≤ q)) rfl
    ⟨B.exec, B.bytes, hml, findClass_of_methodNamed B.named, fun w hw => hts w (List.mem_cons_of_mem _ hw), hK, B.returns, B.notSynchronized, (name_of_methodNamed B.named B.method).1, rfl⟩ ht0 hl0 hT0 hM0 s.heap [] _ hM0 (fun _ h => absurd h List.not_mem_nil) h3
