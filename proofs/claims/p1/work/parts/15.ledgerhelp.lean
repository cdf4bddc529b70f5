theorem e_X9_coming_0 : DC cX9_coming 0 1 1 (.iconst 0) := ⟨by decide +kernel, rfl⟩
theorem e_X9_coming_1 : DC cX9_coming 1 1 2 (.iload_n 1) := ⟨by decide +kernel, rfl⟩
theorem e_X9_coming_2 : DC cX9_coming 2 2 4 (.bipush 99) := ⟨by decide +kernel, rfl⟩
theorem e_X9_coming_4 : DC cX9_coming 4 1 5 (.aload_n 0) := ⟨by decide +kernel, rfl⟩
theorem e_X9_coming_5 : DC cX9_coming 5 3 8 (.getfield 16) := ⟨by decide +kernel, rfl⟩
theorem fl_X9_16 : FL RX9 16 7 2 := ⟨RX9, TX9, 13, rfl, by decide, uw_7, tb_in 332 (by decide +kernel) (by decide +kernel), rfl⟩
theorem e_X9_coming_8 : DC cX9_coming 8 3 11 (.getfield 94) := ⟨by decide +kernel, rfl⟩
theorem fl_X9_94 : FL RX9 94 1 11 := ⟨RX2, TX2, 13, rfl, by decide, uw_1, tb_in 247 (by decide +kernel) (by decide +kernel), rfl⟩
theorem e_X9_coming_11 : DC cX9_coming 11 1 12 (.isub) := ⟨by decide +kernel, rfl⟩
theorem e_X9_coming_12 : DC cX9_coming 12 3 15 (.invokestatic 386) := ⟨by decide +kernel, rfl⟩
theorem ml_X9_386 : Cond.methodLink RX9 386 Lib.Math.min.name ∈ tb := tb_in 1205 (by decide +kernel) (by decide +kernel)
theorem e_X9_coming_15 : DC cX9_coming 15 3 18 (.invokestatic 392) := ⟨by decide +kernel, rfl⟩
theorem ml_X9_392 : Cond.methodLink RX9 392 Lib.Math.max.name ∈ tb := tb_in 1206 (by decide +kernel) (by decide +kernel)
theorem e_X9_coming_18 : DC cX9_coming 18 1 19 (.ireturn) := ⟨by decide +kernel, rfl⟩
theorem e_X9_leaseAt_0 : DC cX9_leaseAt 0 1 1 (.iload_n 1) := ⟨by decide +kernel, rfl⟩
theorem e_X9_leaseAt_1 : DJ cX9_leaseAt 1 27 4 (.ifCond .lt) := DJ.mk 26 (by decide +kernel) (by decide) rfl
theorem e_X9_leaseAt_27 : DC cX9_leaseAt 27 1 28 (.aconst_null) := ⟨by decide +kernel, rfl⟩
theorem e_X9_leaseAt_28 : DC cX9_leaseAt 28 1 29 (.areturn) := ⟨by decide +kernel, rfl⟩
theorem e_X9_leaseAt_4 : DC cX9_leaseAt 4 1 5 (.iload_n 1) := ⟨by decide +kernel, rfl⟩
theorem e_X9_leaseAt_5 : DC cX9_leaseAt 5 1 6 (.aload_n 0) := ⟨by decide +kernel, rfl⟩
theorem e_X9_leaseAt_6 : DC cX9_leaseAt 6 3 9 (.getfield 16) := ⟨by decide +kernel, rfl⟩
theorem e_X9_leaseAt_9 : DC cX9_leaseAt 9 3 12 (.getfield 358) := ⟨by decide +kernel, rfl⟩
theorem fl_X9_358 : FL RX9 358 1 8 := ⟨RX2, TX2, 13, rfl, by decide, uw_1, tb_in 240 (by decide +kernel) (by decide +kernel), rfl⟩
theorem e_X9_leaseAt_12 : DJ cX9_leaseAt 12 27 15 (.if_icmp .ge) := DJ.mk 15 (by decide +kernel) (by decide) rfl
theorem e_X9_runningAt_0 : DC cX9_runningAt 0 1 1 (.aload_n 0) := ⟨by decide +kernel, rfl⟩
theorem e_X9_runningAt_1 : DC cX9_runningAt 1 1 2 (.iload_n 1) := ⟨by decide +kernel, rfl⟩
theorem e_X9_runningAt_2 : DC cX9_runningAt 2 3 5 (.invokevirtual 103) := ⟨by decide +kernel, rfl⟩
theorem cb_X9_leaseAt : CB yX9_leaseAt cX9_leaseAt 2 (some (.object "LeaseLedger$Lease")) 1 := ⟨tb_in 1051 (by decide +kernel) (by decide +kernel), tb_in 1 (by decide +kernel) (by decide +kernel), by decide +kernel⟩
theorem ml_X9_103 : Cond.methodLink RX9 103 yX9_leaseAt ∈ tb := tb_in 1048 (by decide +kernel) (by decide +kernel)
theorem im_X9_leaseAt : Cond.instanceMethod yX9_leaseAt ∈ tb := tb_in 1050 (by decide +kernel) (by decide +kernel)
theorem se_X9_leaseAt : Cond.selects (yX9_leaseAt).cls yX9_leaseAt yX9_leaseAt ∈ tb := tb_sel 4 (by decide +kernel) (by decide +kernel)
theorem e_X9_runningAt_5 : DC cX9_runningAt 5 1 6 (.astore_n 2) := ⟨by decide +kernel, rfl⟩
theorem e_X9_runningAt_6 : DC cX9_runningAt 6 1 7 (.aload_n 2) := ⟨by decide +kernel, rfl⟩
theorem e_X9_runningAt_7 : DJ cX9_runningAt 7 22 10 .ifnull := DJ.mk 15 (by decide +kernel) (by decide) rfl
theorem e_X9_runningAt_22 : DC cX9_runningAt 22 1 23 (.aconst_null) := ⟨by decide +kernel, rfl⟩
theorem e_X9_runningAt_23 : DC cX9_runningAt 23 1 24 (.areturn) := ⟨by decide +kernel, rfl⟩
theorem e_X9_remember_0 : DC cX9_remember 0 1 1 (.aload_n 0) := ⟨by decide +kernel, rfl⟩
theorem e_X9_remember_1 : DC cX9_remember 1 3 4 (.getfield 35) := ⟨by decide +kernel, rfl⟩
theorem e_X9_remember_4 : DC cX9_remember 4 1 5 (.aload_n 0) := ⟨by decide +kernel, rfl⟩
theorem e_X9_remember_5 : DC cX9_remember 5 3 8 (.getfield 371) := ⟨by decide +kernel, rfl⟩
theorem fl_X9_371 : FL RX9 371 7 8 := ⟨RX9, TX9, 13, rfl, by decide, uw_7, tb_in 338 (by decide +kernel) (by decide +kernel), rfl⟩
theorem e_X9_remember_8 : DC cX9_remember 8 1 9 (.aload_n 0) := ⟨by decide +kernel, rfl⟩
theorem e_X9_remember_9 : DC cX9_remember 9 3 12 (.getfield 368) := ⟨by decide +kernel, rfl⟩
theorem fl_X9_368 : FL RX9 368 7 9 := ⟨RX9, TX9, 13, rfl, by decide, uw_7, tb_in 339 (by decide +kernel) (by decide +kernel), rfl⟩
theorem e_X9_remember_12 : DC cX9_remember 12 1 13 (.iadd) := ⟨by decide +kernel, rfl⟩
theorem e_X9_remember_13 : DC cX9_remember 13 2 15 (.bipush 20) := ⟨by decide +kernel, rfl⟩
theorem e_X9_remember_15 : DC cX9_remember 15 1 16 (.irem) := ⟨by decide +kernel, rfl⟩
theorem e_X9_remember_16 : DC cX9_remember 16 1 17 (.aaload) := ⟨by decide +kernel, rfl⟩
theorem e_X9_remember_17 : DC cX9_remember 17 1 18 (.aload_n 0) := ⟨by decide +kernel, rfl⟩
theorem e_X9_remember_18 : DC cX9_remember 18 3 21 (.getfield 16) := ⟨by decide +kernel, rfl⟩
theorem e_X9_remember_21 : DC cX9_remember 21 3 24 (.invokevirtual 374) := ⟨by decide +kernel, rfl⟩
theorem cb_X2_copyFrom : CB yX2_copyFrom cX2_copyFrom 3 none 1 := ⟨tb_in 944 (by decide +kernel) (by decide +kernel), tb_in 2 (by decide +kernel) (by decide +kernel), by decide +kernel⟩
theorem ml_X9_374 : Cond.methodLink RX9 374 yX2_copyFrom ∈ tb := tb_in 941 (by decide +kernel) (by decide +kernel)
theorem im_X2_copyFrom : Cond.instanceMethod yX2_copyFrom ∈ tb := tb_in 942 (by decide +kernel) (by decide +kernel)
theorem se_X2_copyFrom : Cond.selects (yX2_copyFrom).cls yX2_copyFrom yX2_copyFrom ∈ tb := tb_in 943 (by decide +kernel) (by decide +kernel)
theorem e_X9_remember_24 : DC cX9_remember 24 1 25 (.aload_n 0) := ⟨by decide +kernel, rfl⟩
theorem e_X9_remember_25 : DC cX9_remember 25 3 28 (.getfield 368) := ⟨by decide +kernel, rfl⟩
theorem e_X9_remember_28 : DC cX9_remember 28 2 30 (.bipush 20) := ⟨by decide +kernel, rfl⟩
theorem e_X9_remember_30 : DJ cX9_remember 30 46 33 (.if_icmp .ge) := DJ.mk 16 (by decide +kernel) (by decide) rfl
theorem e_X9_remember_33 : DC cX9_remember 33 1 34 (.aload_n 0) := ⟨by decide +kernel, rfl⟩
theorem e_X9_remember_34 : DC cX9_remember 34 1 35 (.dup) := ⟨by decide +kernel, rfl⟩
theorem e_X9_remember_35 : DC cX9_remember 35 3 38 (.getfield 368) := ⟨by decide +kernel, rfl⟩
theorem e_X9_remember_38 : DC cX9_remember 38 1 39 (.iconst 1) := ⟨by decide +kernel, rfl⟩
theorem e_X9_remember_39 : DC cX9_remember 39 1 40 (.iadd) := ⟨by decide +kernel, rfl⟩
theorem e_X9_remember_40 : DC cX9_remember 40 3 43 (.putfield 368) := ⟨by decide +kernel, rfl⟩
theorem fp_X9_368 : FP RX9 368 7 9 false .int := ⟨RX9, TX9, 13, tyX9, rfl, by decide, uw_7, tb_in 339 (by decide +kernel) (by decide +kernel), rfl, rfl, by decide +kernel, tyX9_ok, nmX9⟩
theorem e_X9_remember_43 : DJ cX9_remember 43 59 46 .goto := DJ.mk 16 (by decide +kernel) (by decide) rfl
theorem e_X9_remember_59 : DC cX9_remember 59 1 60 (.return_) := ⟨by decide +kernel, rfl⟩
theorem e_X9_bookIn_19 : DC cX9_bookIn 19 1 20 (.iload_n 3) := ⟨by decide +kernel, rfl⟩
theorem e_X9_bookIn_20 : DC cX9_bookIn 20 1 21 (.iload_n 2) := ⟨by decide +kernel, rfl⟩
theorem e_X9_bookIn_21 : DJ cX9_bookIn 21 37 24 (.if_icmp .ge) := DJ.mk 16 (by decide +kernel) (by decide) rfl
theorem e_X9_bookIn_37 : DC cX9_bookIn 37 1 38 (.aload_n 0) := ⟨by decide +kernel, rfl⟩
theorem e_X9_bookIn_38 : DC cX9_bookIn 38 3 41 (.getfield 20) := ⟨by decide +kernel, rfl⟩
theorem e_X9_bookIn_41 : DC cX9_bookIn 41 1 42 (.areturn) := ⟨by decide +kernel, rfl⟩
theorem e_X9_bookIn_24 : DC cX9_bookIn 24 1 25 (.aload_n 0) := ⟨by decide +kernel, rfl⟩
theorem e_X9_bookIn_25 : DC cX9_bookIn 25 3 28 (.getfield 20) := ⟨by decide +kernel, rfl⟩
theorem e_X9_bookIn_28 : DC cX9_bookIn 28 3 31 (.invokevirtual 100) := ⟨by decide +kernel, rfl⟩
theorem ml_X9_100 : Cond.methodLink RX9 100 yX2_periodGoesBy ∈ tb := tb_in 969 (by decide +kernel) (by decide +kernel)
theorem e_X9_bookIn_31 : DC cX9_bookIn 31 3 34 (.iinc 3 1) := ⟨by decide +kernel, rfl⟩
theorem e_X9_bookIn_34 : DJ cX9_bookIn 34 19 37 .goto := DJ.mk (-15) (by decide +kernel) (by decide) rfl
theorem e_X9_bookIn_0 : DC cX9_bookIn 0 1 1 (.aload_n 0) := ⟨by decide +kernel, rfl⟩
theorem e_X9_bookIn_1 : DC cX9_bookIn 1 3 4 (.getfield 20) := ⟨by decide +kernel, rfl⟩
theorem e_X9_bookIn_4 : DC cX9_bookIn 4 1 5 (.aload_n 0) := ⟨by decide +kernel, rfl⟩
theorem e_X9_bookIn_5 : DC cX9_bookIn 5 3 8 (.getfield 16) := ⟨by decide +kernel, rfl⟩
theorem e_X9_bookIn_8 : DC cX9_bookIn 8 3 11 (.invokevirtual 374) := ⟨by decide +kernel, rfl⟩
theorem e_X9_bookIn_11 : DC cX9_bookIn 11 1 12 (.aload_n 0) := ⟨by decide +kernel, rfl⟩
theorem e_X9_bookIn_12 : DC cX9_bookIn 12 1 13 (.iload_n 1) := ⟨by decide +kernel, rfl⟩
theorem e_X9_bookIn_13 : DC cX9_bookIn 13 3 16 (.invokevirtual 324) := ⟨by decide +kernel, rfl⟩
theorem cb_X9_coming : CB yX9_coming cX9_coming 2 (some .int) 1 := ⟨tb_in 1204 (by decide +kernel) (by decide +kernel), tb_in 1 (by decide +kernel) (by decide +kernel), by decide +kernel⟩
theorem ml_X9_324 : Cond.methodLink RX9 324 yX9_coming ∈ tb := tb_in 1201 (by decide +kernel) (by decide +kernel)
theorem im_X9_coming : Cond.instanceMethod yX9_coming ∈ tb := tb_in 1203 (by decide +kernel) (by decide +kernel)
theorem se_X9_coming : Cond.selects (yX9_coming).cls yX9_coming yX9_coming ∈ tb := tb_sel 7 (by decide +kernel) (by decide +kernel)
theorem e_X9_bookIn_16 : DC cX9_bookIn 16 1 17 (.istore_n 2) := ⟨by decide +kernel, rfl⟩
theorem e_X9_bookIn_17 : DC cX9_bookIn 17 1 18 (.iconst 0) := ⟨by decide +kernel, rfl⟩
theorem e_X9_bookIn_18 : DC cX9_bookIn 18 1 19 (.istore_n 3) := ⟨by decide +kernel, rfl⟩
def LG (V : VX) (τ : Mem) (b c p ps : Nat) : Prop := τ b = some (ob 7 [.ref (b + 1), .int 0, .ref (b + 2), .ref (b + 65), .ref (b + 128), .ref (b + 130), .int 0, .ref (b + 193), .int 0, .int (nI c), .ref (b + 194), .ref (b + 195), .ref (b + 196)]) ∧ τ (b + 193) = some (aR 6 V 20 (pfB b)) ∧ τ (b + 194) = some (ob 0 [.long 0, .long 0]) ∧ τ (b + 195) = some (ob 0 [.long 0, .long 0]) ∧ τ (b + 196) = some (ob 0 [.long 0, .long 0]) ∧ EB V τ (b + 2) p ∧ EB V τ (b + 65) ps ∧ ∀ j, j < 20 → ∃ pj, EB V τ (b + 197 + 63 * j) pj
theorem LLz.lg {V : VX} {τ : Mem} {b : Nat} (h : LLz V τ b) : LG V τ b 0 0 0 := by
  obtain ⟨a0, a1, a2, a3, a4, a5, a6, a7, b0, b1, b2, b3⟩ := h
  exact ⟨a0, a4, a5, a6, a7, b0.eb, b1.eb, fun j hj => ⟨0, (b3 j hj).eb⟩⟩
theorem max0 {k : Nat} (h : k < 2 ^ 31) : (if (0 : Int32) < nI k then nI k else 0) = nI k := by
  by_cases h0 : k = 0
  · subst h0; rfl
  · exact if_pos (show (0 : Int32) < nI k from nI_lt (a := 0) (by omega) h)
set_option maxRecDepth 20000 in
theorem k_coming0 (l : Launch) (V : VX) (N : Nat) (σ : Mem) (b c p ps : Nat) (k : Nat) (hL : LG V σ b c p ps) (hk : p + k ≤ 99) : Ct l V yX9_coming cX9_coming 2 (some .int) 1 0 0 N σ [.ref b, .int (nI k)] (fun r τ => r = some (.int (nI k)) ∧ τ = σ) := by
  refine Ct.of (by decide) (Nat.le_of_ble_eq_true rfl) [(0, .ref b), (1, .int (nI k))] rfl (fun X hX F hQ => ?_)
  obtain ⟨o45, pr45, f1_45, f2_45, f3_45, e1_45, e2_45, ps_45⟩ := hL
  refine m_iconst F (v := 0) (by decide) e_X9_coming_0 ?_
  refine m_iload_n F rfl e_X9_coming_1 ?_
  refine m_bipush F (v := 99) (by decide) e_X9_coming_2 ?_
  refine m_aload_n F rfl e_X9_coming_4 ?_
  refine m_get F e_X9_coming_5 fl_X9_16 o45 rfl ?_
  refine m_get F e_X9_coming_8 fl_X9_94 e1_45.head rfl ?_
  refine m_isub F e_X9_coming_11 ?_
  refine Wm.topE (w := nI (99 - p)) (pk_sub (a := 99) (b := p) (by omega)) ?_
  refine m_min F e_X9_coming_12 ml_X9_386 sm_min ini_math co_min (Nat.le_of_ble_eq_true rfl) (Nat.le_of_ble_eq_true rfl) (Nat.le_of_ble_eq_true rfl) (Nat.le_of_ble_eq_true rfl) ?_
  refine Wm.topE (w := nI k) (if_neg (nI_nlt (by omega) (by omega))) ?_
  refine m_max F e_X9_coming_15 ml_X9_392 sm_max ini_math co_max (Nat.le_of_ble_eq_true rfl) (Nat.le_of_ble_eq_true rfl) (Nat.le_of_ble_eq_true rfl) (Nat.le_of_ble_eq_true rfl) ?_
  refine Wm.topE (w := nI k) (max0 (by omega)) ?_
  exact m_iret F hQ e_X9_coming_18 (⟨rfl, rfl⟩)
set_option maxRecDepth 20000 in
theorem k_leaseAt0 (l : Launch) (V : VX) (N : Nat) (σ : Mem) (b c p ps : Nat) (x : Int32) (hL : LG V σ b c p ps)  : Ct l V yX9_leaseAt cX9_leaseAt 2 (some (.object "LeaseLedger$Lease")) 0 0 0 N σ [.ref b, .int x] (fun r τ => r = some .null ∧ τ = σ) := by
  refine Ct.of (by decide) (Nat.le_of_ble_eq_true rfl) [(0, .ref b), (1, .int x)] rfl (fun X hX F hQ => ?_)
  obtain ⟨o46, pr46, f1_46, f2_46, f3_46, e1_46, e2_46, ps_46⟩ := hL
  refine m_iload_n F rfl e_X9_leaseAt_0 ?_
  refine m_if_lt F e_X9_leaseAt_1 (fun q1 => ?_) (fun q1 => ?_)
  · refine m_null F e_X9_leaseAt_27 ?_
    exact m_aret F hQ e_X9_leaseAt_28 (Or.inl rfl) (⟨rfl, rfl⟩)
  · refine m_iload_n F rfl e_X9_leaseAt_4 ?_
    refine m_aload_n F rfl e_X9_leaseAt_5 ?_
    refine m_get F e_X9_leaseAt_6 fl_X9_16 o46 rfl ?_
    refine m_get F e_X9_leaseAt_9 fl_X9_358 e1_46.head rfl ?_
    refine m_icmp_ge F e_X9_leaseAt_12 (fun q12 => ?_) (fun q12 => absurd q12 (fun n => n (Int32.not_lt.mp q1)))
    refine m_null F e_X9_leaseAt_27 ?_
    exact m_aret F hQ e_X9_leaseAt_28 (Or.inl rfl) (⟨rfl, rfl⟩)
set_option maxRecDepth 20000 in
theorem k_runningAt0 (l : Launch) (V : VX) (N : Nat) (σ : Mem) (b c p ps : Nat) (x : Int32) (hL : LG V σ b c p ps)  : Ct l V yX9_runningAt cX9_runningAt 3 (some (.object "LeaseLedger$Lease")) 1 0 0 N σ [.ref b, .int x] (fun r τ => r = some .null ∧ τ = σ) := by
  refine Ct.of (by decide) (Nat.le_of_ble_eq_true rfl) [(0, .ref b), (1, .int x)] rfl (fun X hX F hQ => ?_)
  obtain ⟨o47, pr47, f1_47, f2_47, f3_47, e1_47, e2_47, ps_47⟩ := hL
  refine m_aload_n F rfl e_X9_runningAt_0 ?_
  refine m_iload_n F rfl e_X9_runningAt_1 ?_
  refine m_callV F e_X9_runningAt_2 (k_leaseAt0 (x_l X) V _ _ b c p ps x ⟨o47, pr47, f1_47, f2_47, f3_47, e1_47, e2_47, ps_47⟩) cb_X9_leaseAt ml_X9_103 im_X9_leaseAt se_X9_leaseAt o47 rfl rfl (rest := []) rfl (Nat.le_of_ble_eq_true rfl) ⟨Nat.le_of_ble_eq_true rfl, Nat.le_of_ble_eq_true rfl⟩ ⟨Nat.le_of_ble_eq_true rfl, Nat.le_of_ble_eq_true rfl⟩ (k' := 0) (z' := 0) (N' := N) rfl rfl rfl (fun r τ hp => ?_)
  obtain ⟨rfl, rfl⟩ := hp
  refine m_astore_nN F (lv' := [(2, .null), (0, .ref b), (1, .int x)]) e_X9_runningAt_5 (by decide) rfl ?_
  refine m_aload_nN F rfl e_X9_runningAt_6 ?_
  refine m_ifnullN F e_X9_runningAt_7 ?_
  refine m_null F e_X9_runningAt_22 ?_
  exact m_aret F hQ e_X9_runningAt_23 (Or.inl rfl) (⟨rfl, rfl⟩)
set_option maxRecDepth 20000 in
theorem k_remember0 (l : Launch) (V : VX) (N : Nat) (σ : Mem) (b c p ps : Nat)  (hL : LG V σ b c p ps) (hc : c < 20) : Ct l V yX9_remember cX9_remember 1 none 3 0 0 N σ [.ref b] (fun r τ => r = none ∧ LG V τ b (c + 1) p ps ∧ ∀ q : Nat, (b + 1457 ≤ q ∨ b + 2 ≤ q ∧ q ≤ b + 64) → τ q = σ q) := by
  refine Ct.of (by decide) (Nat.le_of_ble_eq_true rfl) [(0, .ref b)] rfl (fun X hX F hQ => ?_)
  obtain ⟨o48, pr48, f1_48, f2_48, f3_48, e1_48, e2_48, ps_48⟩ := hL
  refine m_aload_n F rfl e_X9_remember_0 ?_
  refine m_get F e_X9_remember_1 fl_X9_35 o48 rfl ?_
  refine m_aload_n F rfl e_X9_remember_4 ?_
  refine m_get F e_X9_remember_5 fl_X9_371 o48 rfl ?_
  refine m_aload_n F rfl e_X9_remember_8 ?_
  refine m_get F e_X9_remember_9 fl_X9_368 o48 rfl ?_
  refine m_iadd F e_X9_remember_12 ?_
  refine Wm.topE (w := nI (0 + c)) (nI_add 0 c) ?_
  refine m_bipush F (v := 20) (by decide) e_X9_remember_13 ?_
  refine m_irem F (by decide) e_X9_remember_15 ?_
  refine Wm.topE (w := nI c) (by rw [Nat.zero_add]; exact (pk_rem (a := c) (d := 20) (by omega) (by omega) (by omega)).trans (by rw [Nat.mod_eq_of_lt (by omega)])) ?_
  refine m_aald F (j := c) e_X9_remember_16 pr48 rfl (nI_clamp (by omega)) (vp_in_nI (by omega) (by omega)) ?_
  obtain ⟨px, hx9⟩ := ps_48 c (by omega)
  rw [show pfB b c = some (b + 197 + 63 * c) from if_pos (by omega)]
  refine m_aload_n F rfl e_X9_remember_17 ?_
  refine m_get F e_X9_remember_18 fl_X9_16 o48 rfl ?_
  refine m_callV F e_X9_remember_21 (k_Bcopy0 (x_l X) V _ _ (b + 197 + 63 * c) px (b + 2) p hx9 e1_48 (by omega)) cb_X2_copyFrom ml_X9_374 im_X2_copyFrom se_X2_copyFrom hx9.head rfl rfl (rest := []) rfl (Nat.le_of_ble_eq_true rfl) ⟨Nat.le_of_ble_eq_true rfl, Nat.le_of_ble_eq_true rfl⟩ ⟨Nat.le_of_ble_eq_true rfl, Nat.le_of_ble_eq_true rfl⟩ (k' := 0) (z' := 0) (N' := N) rfl rfl rfl (fun r τ49 hp => ?_)
  obtain ⟨rfl, eb50, hf51⟩ := hp
  have g52 : τ49 b = some (ob 7 [.ref (b + 1), .int 0, .ref (b + 2), .ref (b + 65), .ref (b + 128), .ref (b + 130), .int 0, .ref (b + 193), .int 0, .int (nI c), .ref (b + 194), .ref (b + 195), .ref (b + 196)]) := (hf51 b (by omega)).trans o48
  have g53 : τ49 (b + 193) = some (aR 6 V 20 (pfB b)) := (hf51 (b + 193) (by omega)).trans pr48
  have g54 : τ49 (b + 194) = some (ob 0 [.long 0, .long 0]) := (hf51 (b + 194) (by omega)).trans f1_48
  have g55 : τ49 (b + 195) = some (ob 0 [.long 0, .long 0]) := (hf51 (b + 195) (by omega)).trans f2_48
  have g56 : τ49 (b + 196) = some (ob 0 [.long 0, .long 0]) := (hf51 (b + 196) (by omega)).trans f3_48
  have eb57 : EB V τ49 (b + 2) p := e1_48.keep (fun x g1 g2 => (hf51 x (by omega)).trans rfl)
  have eb58 : EB V τ49 (b + 65) ps := e2_48.keep (fun x g1 g2 => (hf51 x (by omega)).trans rfl)
  have pst59 : ∀ j, j < 20 → ∃ pj, EB V τ49 (b + 197 + 63 * j) pj := fun j hj => (Nat.decEq j c).byCases (fun e9 => ⟨_, e9 ▸ eb50⟩) (fun n9 => (ps_48 j hj).elim (fun pj h9 => ⟨pj, h9.keep (fun x g1 g2 => (hf51 x (by omega)).trans rfl)⟩))
  have fr60 : ∀ q : Nat, b + 1457 ≤ q ∨ b + 2 ≤ q ∧ q ≤ b + 64 → τ49 q = σ q := fun q h1 => (hf51 q (by omega)).trans rfl
  refine m_aload_n F rfl e_X9_remember_24 ?_
  refine m_get F e_X9_remember_25 fl_X9_368 g52 rfl ?_
  refine m_bipush F (v := 20) (by decide) e_X9_remember_28 ?_
  refine m_icmp_ge F e_X9_remember_30 (fun q30 => ?_) (fun q30 => ?_)
  · have c30 : c ≥ 20 := (nI_leI (a := 20) (b := c) (by omega) (by omega)).mp q30
    exfalso; omega
  · have c30 : c < 20 := by have hh := mt (nI_leI (a := 20) (b := c) (by omega) (by omega)).mpr q30; omega
    refine m_aload_n F rfl e_X9_remember_33 ?_
    refine m_dup F rfl e_X9_remember_34 ?_
    refine m_get F e_X9_remember_35 fl_X9_368 g52 rfl ?_
    refine m_iconst F (v := 1) (by decide) e_X9_remember_38 ?_
    refine m_iadd F e_X9_remember_39 ?_
    refine Wm.topE (w := nI (c + 1)) (nI_add c 1) ?_
    refine m_put F e_X9_remember_40 fp_X9_368 g52 rfl rfl (Nat.le_of_ble_eq_true rfl) (fs' := [.ref (b + 1), .int 0, .ref (b + 2), .ref (b + 65), .ref (b + 128), .ref (b + 130), .int 0, .ref (b + 193), .int 0, .int (nI (c + 1)), .ref (b + 194), .ref (b + 195), .ref (b + 196)]) rfl rfl ?_
    refine m_goto F e_X9_remember_43 ?_
    exact m_vret F hQ e_X9_remember_59 (⟨rfl, ⟨ru_eq, (ru_ne (by omega) g53), (ru_ne (by omega) g54), (ru_ne (by omega) g55), (ru_ne (by omega) g56), eb57.keep (fun x g1 g2 => (ru_ne (by omega) rfl)), eb58.keep (fun x g1 g2 => (ru_ne (by omega) rfl)), (fun j hj => (pst59 j hj).elim (fun pj h9 => ⟨pj, h9.keep (fun x g1 g2 => (ru_ne (by omega) rfl))⟩))⟩, fun q h1 => (ru_ne (by omega) (fr60 q h1))⟩)
theorem lp_bookIn0 {V : VX} {X : MX} {N : Nat} {σ : Mem} {Post : Option Value → Mem → Prop} (F : Fx V X yX9_bookIn cX9_bookIn 4 (some (.object "LeaseLedger$Book")) (rmd 3 0 0)) (hQ : Rt V X 0 0 N Post) {b c p k : Nat} (hk : p + k ≤ 99) (hp : ∀ τ : Mem, LG V τ b c p (p + k) → (∀ q : Nat, b + 1457 ≤ q → τ q = σ q) → Post (some (.ref (b + 65))) τ) : ∀ (n i : Nat) (τ : Mem), i ≤ k → k - i < n → LG V τ b c p (p + i) → (∀ q : Nat, b + 1457 ≤ q → τ q = σ q) → Wm V X 4 N τ 0 0 19 [(3, .int (nI i)), (0, .ref b), (1, .int (nI k)), (2, .int (nI k))] [] := by
  intro n
  induction n with
  | zero => intro i τ h1 h2; exact absurd h2 (by omega)
  | succ n ih =>
    intro i τ h1 h2 hL hfr
    obtain ⟨o61, pr61, f1_61, f2_61, f3_61, e1_61, e2_61, ps_61⟩ := hL
    refine m_iload_n F rfl e_X9_bookIn_19 ?_
    refine m_iload_n F rfl e_X9_bookIn_20 ?_
    refine m_icmp_ge F e_X9_bookIn_21 (fun q21 => ?_) (fun q21 => ?_)
    · have c21 : i ≥ k := (nI_leI (a := k) (b := i) (by omega) (by omega)).mp q21
      have hi9 : i = k := by omega
      subst hi9
      refine m_aload_n F rfl e_X9_bookIn_37 ?_
      refine m_get F e_X9_bookIn_38 fl_X9_20 o61 rfl ?_
      exact m_aret F hQ e_X9_bookIn_41 (Or.inr ⟨_, rfl⟩) (hp _ ⟨o61, pr61, f1_61, f2_61, f3_61, e1_61, e2_61, ps_61⟩ (fun q h1 => (hfr q h1)))
    · have c21 : i < k := by have hh := mt (nI_leI (a := k) (b := i) (by omega) (by omega)).mpr q21; omega
      refine m_aload_n F rfl e_X9_bookIn_24 ?_
      refine m_get F e_X9_bookIn_25 fl_X9_20 o61 rfl ?_
      refine m_callV F e_X9_bookIn_28 (k_period0 (x_l X) V _ _ (b + 65) (p + i) e2_61 (by omega)) cb_X2_periodGoesBy ml_X9_100 im_X2_periodGoesBy se_X2_periodGoesBy e2_61.head rfl rfl (rest := []) rfl (Nat.le_of_ble_eq_true rfl) ⟨Nat.le_of_ble_eq_true rfl, Nat.le_of_ble_eq_true rfl⟩ ⟨Nat.le_of_ble_eq_true rfl, Nat.le_of_ble_eq_true rfl⟩ (k' := 0) (z' := 0) (N' := N) rfl rfl rfl (fun r τ62 hp => ?_)
      obtain ⟨rfl, eb63, hf64⟩ := hp
      have g65 : τ62 b = some (ob 7 [.ref (b + 1), .int 0, .ref (b + 2), .ref (b + 65), .ref (b + 128), .ref (b + 130), .int 0, .ref (b + 193), .int 0, .int (nI c), .ref (b + 194), .ref (b + 195), .ref (b + 196)]) := (hf64 b (by omega)).trans o61
      have g66 : τ62 (b + 193) = some (aR 6 V 20 (pfB b)) := (hf64 (b + 193) (by omega)).trans pr61
      have g67 : τ62 (b + 194) = some (ob 0 [.long 0, .long 0]) := (hf64 (b + 194) (by omega)).trans f1_61
      have g68 : τ62 (b + 195) = some (ob 0 [.long 0, .long 0]) := (hf64 (b + 195) (by omega)).trans f2_61
      have g69 : τ62 (b + 196) = some (ob 0 [.long 0, .long 0]) := (hf64 (b + 196) (by omega)).trans f3_61
      have eb70 : EB V τ62 (b + 2) p := e1_61.keep (fun x g1 g2 => (hf64 x (by omega)).trans rfl)
      have pst71 : ∀ j, j < 20 → ∃ pj, EB V τ62 (b + 197 + 63 * j) pj := fun j hj => (ps_61 j hj).elim (fun pj h9 => ⟨pj, h9.keep (fun x g1 g2 => (hf64 x (by omega)).trans rfl)⟩)
      have fr72 : ∀ q : Nat, b + 1457 ≤ q → τ62 q = σ q := fun q h1 => (hf64 q (by omega)).trans (hfr q h1)
      refine m_iinc F (v := nI (i + 1)) (lv' := [(3, .int (nI (i + 1))), (0, .ref b), (1, .int (nI k)), (2, .int (nI k))]) e_X9_bookIn_31 rfl (nI_add i 1) (by decide) rfl ?_
      refine m_goto F e_X9_bookIn_34 ?_
      exact ih (i + 1) _ (by omega) (by omega) ⟨g65, g66, g67, g68, g69, eb70, eb63, pst71⟩ (fun q h1 => (fr72 q h1))
set_option maxRecDepth 20000 in
theorem k_bookIn0 (l : Launch) (V : VX) (N : Nat) (σ : Mem) (b c p ps : Nat) (k : Nat) (hL : LG V σ b c p ps) (hk : p + k ≤ 99) : Ct l V yX9_bookIn cX9_bookIn 4 (some (.object "LeaseLedger$Book")) 3 0 0 N σ [.ref b, .int (nI k)] (fun r τ => r = some (.ref (b + 65)) ∧ LG V τ b c p (p + k) ∧ ∀ q : Nat, b + 1457 ≤ q → τ q = σ q) := by
  refine Ct.of (by decide) (Nat.le_of_ble_eq_true rfl) [(0, .ref b), (1, .int (nI k))] rfl (fun X hX F hQ => ?_)
  obtain ⟨o73, pr73, f1_73, f2_73, f3_73, e1_73, e2_73, ps_73⟩ := hL
  refine m_aload_n F rfl e_X9_bookIn_0 ?_
  refine m_get F e_X9_bookIn_1 fl_X9_20 o73 rfl ?_
  refine m_aload_n F rfl e_X9_bookIn_4 ?_
  refine m_get F e_X9_bookIn_5 fl_X9_16 o73 rfl ?_
  refine m_callV F e_X9_bookIn_8 (k_Bcopy0 (x_l X) V _ _ (b + 65) ps (b + 2) p e2_73 e1_73 (by omega)) cb_X2_copyFrom ml_X9_374 im_X2_copyFrom se_X2_copyFrom e2_73.head rfl rfl (rest := []) rfl (Nat.le_of_ble_eq_true rfl) ⟨Nat.le_of_ble_eq_true rfl, Nat.le_of_ble_eq_true rfl⟩ ⟨Nat.le_of_ble_eq_true rfl, Nat.le_of_ble_eq_true rfl⟩ (k' := 0) (z' := 0) (N' := N) rfl rfl rfl (fun r τ74 hp => ?_)
  obtain ⟨rfl, eb75, hf76⟩ := hp
  have g77 : τ74 b = some (ob 7 [.ref (b + 1), .int 0, .ref (b + 2), .ref (b + 65), .ref (b + 128), .ref (b + 130), .int 0, .ref (b + 193), .int 0, .int (nI c), .ref (b + 194), .ref (b + 195), .ref (b + 196)]) := (hf76 b (by omega)).trans o73
  have g78 : τ74 (b + 193) = some (aR 6 V 20 (pfB b)) := (hf76 (b + 193) (by omega)).trans pr73
  have g79 : τ74 (b + 194) = some (ob 0 [.long 0, .long 0]) := (hf76 (b + 194) (by omega)).trans f1_73
  have g80 : τ74 (b + 195) = some (ob 0 [.long 0, .long 0]) := (hf76 (b + 195) (by omega)).trans f2_73
  have g81 : τ74 (b + 196) = some (ob 0 [.long 0, .long 0]) := (hf76 (b + 196) (by omega)).trans f3_73
  have eb82 : EB V τ74 (b + 2) p := e1_73.keep (fun x g1 g2 => (hf76 x (by omega)).trans rfl)
  have pst83 : ∀ j, j < 20 → ∃ pj, EB V τ74 (b + 197 + 63 * j) pj := fun j hj => (ps_73 j hj).elim (fun pj h9 => ⟨pj, h9.keep (fun x g1 g2 => (hf76 x (by omega)).trans rfl)⟩)
  have fr84 : ∀ q : Nat, b + 1457 ≤ q → τ74 q = σ q := fun q h1 => (hf76 q (by omega)).trans rfl
  refine m_aload_n F rfl e_X9_bookIn_11 ?_
  refine m_iload_n F rfl e_X9_bookIn_12 ?_
  refine m_callV F e_X9_bookIn_13 (k_coming0 (x_l X) V _ _ b c p p k ⟨g77, g78, g79, g80, g81, eb82, eb75, pst83⟩ (by omega)) cb_X9_coming ml_X9_324 im_X9_coming se_X9_coming g77 rfl rfl (rest := []) rfl (Nat.le_of_ble_eq_true rfl) ⟨Nat.le_of_ble_eq_true rfl, Nat.le_of_ble_eq_true rfl⟩ ⟨Nat.le_of_ble_eq_true rfl, Nat.le_of_ble_eq_true rfl⟩ (k' := 0) (z' := 0) (N' := N) rfl rfl rfl (fun r τ hp => ?_)
  obtain ⟨rfl, rfl⟩ := hp
  refine m_istore_n F (lv' := [(2, .int (nI k)), (0, .ref b), (1, .int (nI k))]) e_X9_bookIn_16 (by decide) rfl ?_
  refine m_iconst F (v := 0) (by decide) e_X9_bookIn_17 ?_
  refine m_istore_n F (lv' := [(3, .int 0), (2, .int (nI k)), (0, .ref b), (1, .int (nI k))]) e_X9_bookIn_18 (by decide) rfl ?_
  refine Wm.lvsub (lv' := [(3, .int 0), (0, .ref b), (1, .int (nI k)), (2, .int (nI k))]) ?_ [0, 2, 3, 1] rfl
  exact lp_bookIn0 F hQ hk (fun τ h1 h2 => ⟨rfl, h1, h2⟩) (k + 1) 0 _ (by omega) (by omega) ⟨g77, g78, g79, g80, g81, eb82, eb75, pst83⟩ (fun q h1 => (fr84 q h1))
