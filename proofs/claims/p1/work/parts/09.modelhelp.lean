theorem e_X10_isLease_0 : DC cX10_isLease 0 1 1 (.iload_n 1) := ⟨by decide +kernel, rfl⟩
theorem e_X10_isLease_1 : DJ cX10_isLease 1 16 4 (.ifCond .lt) := DJ.mk 15 (by decide +kernel) (by decide) rfl
theorem e_X10_isLease_16 : DC cX10_isLease 16 1 17 (.iconst 0) := ⟨by decide +kernel, rfl⟩
theorem e_X10_isLease_17 : DC cX10_isLease 17 1 18 (.ireturn) := ⟨by decide +kernel, rfl⟩
theorem e_X10_isLease_4 : DC cX10_isLease 4 1 5 (.iload_n 1) := ⟨by decide +kernel, rfl⟩
theorem e_X10_isLease_5 : DC cX10_isLease 5 1 6 (.aload_n 0) := ⟨by decide +kernel, rfl⟩
theorem e_X10_isLease_6 : DC cX10_isLease 6 3 9 (.invokevirtual 221) := ⟨by decide +kernel, rfl⟩
theorem e_X10_isLease_9 : DJ cX10_isLease 9 16 12 (.if_icmp .ge) := DJ.mk 7 (by decide +kernel) (by decide) rfl
theorem e_X10_isRunning_0 : DC cX10_isRunning 0 1 1 (.aload_n 0) := ⟨by decide +kernel, rfl⟩
theorem e_X10_isRunning_1 : DC cX10_isRunning 1 1 2 (.iload_n 1) := ⟨by decide +kernel, rfl⟩
theorem e_X10_isRunning_2 : DC cX10_isRunning 2 3 5 (.invokevirtual 292) := ⟨by decide +kernel, rfl⟩
theorem cb_X10_isLease : CB yX10_isLease cX10_isLease 2 (some .boolean) 1 := ⟨tb_in 1763 (by decide +kernel) (by decide +kernel), tb_in 10 (by decide +kernel) (by decide +kernel), by decide +kernel⟩
theorem ml_X10_292 : Cond.methodLink RX10 292 yX10_isLease ∈ tb := tb_in 1760 (by decide +kernel) (by decide +kernel)
theorem im_X10_isLease : Cond.instanceMethod yX10_isLease ∈ tb := tb_in 1762 (by decide +kernel) (by decide +kernel)
theorem se_X10_isLease : Cond.selects (yX10_isLease).cls yX10_isLease yX10_isLease ∈ tb := tb_sel 47 (by decide +kernel) (by decide +kernel)
theorem e_X10_isRunning_5 : DJ cX10_isRunning 5 20 8 (.ifCond .eq) := DJ.mk 15 (by decide +kernel) (by decide) rfl
theorem e_X10_isRunning_20 : DC cX10_isRunning 20 1 21 (.iconst 0) := ⟨by decide +kernel, rfl⟩
theorem e_X10_isRunning_21 : DC cX10_isRunning 21 1 22 (.ireturn) := ⟨by decide +kernel, rfl⟩
theorem e_X10_isOwn_0 : DC cX10_isOwn 0 1 1 (.aload_n 0) := ⟨by decide +kernel, rfl⟩
theorem e_X10_isOwn_1 : DC cX10_isOwn 1 1 2 (.iload_n 1) := ⟨by decide +kernel, rfl⟩
theorem e_X10_isOwn_2 : DC cX10_isOwn 2 3 5 (.invokevirtual 292) := ⟨by decide +kernel, rfl⟩
theorem e_X10_isOwn_5 : DJ cX10_isOwn 5 35 8 (.ifCond .eq) := DJ.mk 30 (by decide +kernel) (by decide) rfl
theorem e_X10_isOwn_35 : DC cX10_isOwn 35 1 36 (.iconst 0) := ⟨by decide +kernel, rfl⟩
theorem e_X10_isOwn_36 : DC cX10_isOwn 36 1 37 (.ireturn) := ⟨by decide +kernel, rfl⟩
theorem e_X10_canTake_0 : DC cX10_canTake 0 1 1 (.iload_n 1) := ⟨by decide +kernel, rfl⟩
theorem e_X10_canTake_1 : DJ cX10_canTake 1 65 4 (.ifCond .lt) := DJ.mk 64 (by decide +kernel) (by decide) rfl
theorem e_X10_canTake_65 : DC cX10_canTake 65 1 66 (.iconst 0) := ⟨by decide +kernel, rfl⟩
theorem e_X10_canTake_66 : DC cX10_canTake 66 1 67 (.ireturn) := ⟨by decide +kernel, rfl⟩
theorem e_X10_canTake_4 : DC cX10_canTake 4 1 5 (.iload_n 1) := ⟨by decide +kernel, rfl⟩
theorem e_X10_canTake_5 : DC cX10_canTake 5 1 6 (.aload_n 0) := ⟨by decide +kernel, rfl⟩
theorem e_X10_canTake_6 : DC cX10_canTake 6 3 9 (.getfield 13) := ⟨by decide +kernel, rfl⟩
theorem e_X10_canTake_9 : DC cX10_canTake 9 1 10 (.iconst 3) := ⟨by decide +kernel, rfl⟩
theorem e_X10_canTake_10 : DC cX10_canTake 10 1 11 (.iaload) := ⟨by decide +kernel, rfl⟩
theorem e_X10_canTake_11 : DJ cX10_canTake 11 65 14 (.if_icmp .ge) := DJ.mk 54 (by decide +kernel) (by decide) rfl
theorem e_X10_namedAt_0 : DC cX10_namedAt 0 1 1 (.iconst 0) := ⟨by decide +kernel, rfl⟩
theorem e_X10_namedAt_1 : DC cX10_namedAt 1 2 3 (.istore 4) := ⟨by decide +kernel, rfl⟩
theorem e_X10_namedAt_3 : DC cX10_namedAt 3 2 5 (.iload 4) := ⟨by decide +kernel, rfl⟩
theorem e_X10_namedAt_5 : DC cX10_namedAt 5 1 6 (.iload_n 2) := ⟨by decide +kernel, rfl⟩
theorem e_X10_namedAt_6 : DJ cX10_namedAt 6 31 9 (.if_icmp .ge) := DJ.mk 25 (by decide +kernel) (by decide) rfl
theorem e_X10_namedAt_31 : DC cX10_namedAt 31 1 32 (.iconst (-1)) := ⟨by decide +kernel, rfl⟩
theorem e_X10_namedAt_32 : DC cX10_namedAt 32 1 33 (.ireturn) := ⟨by decide +kernel, rfl⟩
theorem e_X10_running_0 : DC cX10_running 0 1 1 (.iconst 0) := ⟨by decide +kernel, rfl⟩
theorem e_X10_running_1 : DC cX10_running 1 1 2 (.istore_n 1) := ⟨by decide +kernel, rfl⟩
theorem e_X10_running_2 : DC cX10_running 2 1 3 (.iconst 0) := ⟨by decide +kernel, rfl⟩
theorem e_X10_running_3 : DC cX10_running 3 1 4 (.istore_n 2) := ⟨by decide +kernel, rfl⟩
theorem e_X10_running_4 : DC cX10_running 4 1 5 (.iload_n 2) := ⟨by decide +kernel, rfl⟩
theorem e_X10_running_5 : DC cX10_running 5 1 6 (.aload_n 0) := ⟨by decide +kernel, rfl⟩
theorem e_X10_running_6 : DC cX10_running 6 3 9 (.invokevirtual 221) := ⟨by decide +kernel, rfl⟩
theorem e_X10_running_9 : DJ cX10_running 9 34 12 (.if_icmp .ge) := DJ.mk 25 (by decide +kernel) (by decide) rfl
theorem e_X10_running_34 : DC cX10_running 34 1 35 (.iload_n 1) := ⟨by decide +kernel, rfl⟩
theorem e_X10_running_35 : DC cX10_running 35 1 36 (.ireturn) := ⟨by decide +kernel, rfl⟩
theorem e_X10_owedAll_0 : DC cX10_owedAll 0 1 1 (.lconst 0) := ⟨by decide +kernel, rfl⟩
theorem e_X10_owedAll_1 : DC cX10_owedAll 1 1 2 (.lstore_n 1) := ⟨by decide +kernel, rfl⟩
theorem e_X10_owedAll_2 : DC cX10_owedAll 2 1 3 (.iconst 0) := ⟨by decide +kernel, rfl⟩
theorem e_X10_owedAll_3 : DC cX10_owedAll 3 1 4 (.istore_n 3) := ⟨by decide +kernel, rfl⟩
theorem e_X10_owedAll_4 : DC cX10_owedAll 4 1 5 (.iload_n 3) := ⟨by decide +kernel, rfl⟩
theorem e_X10_owedAll_5 : DC cX10_owedAll 5 1 6 (.aload_n 0) := ⟨by decide +kernel, rfl⟩
theorem e_X10_owedAll_6 : DC cX10_owedAll 6 3 9 (.invokevirtual 221) := ⟨by decide +kernel, rfl⟩
theorem e_X10_owedAll_9 : DJ cX10_owedAll 9 34 12 (.if_icmp .ge) := DJ.mk 25 (by decide +kernel) (by decide) rfl
theorem e_X10_owedAll_34 : DC cX10_owedAll 34 1 35 (.lload_n 1) := ⟨by decide +kernel, rfl⟩
theorem e_X10_owedAll_35 : DC cX10_owedAll 35 1 36 (.lreturn) := ⟨by decide +kernel, rfl⟩
theorem e_X10_paidAll_0 : DC cX10_paidAll 0 1 1 (.lconst 0) := ⟨by decide +kernel, rfl⟩
theorem e_X10_paidAll_1 : DC cX10_paidAll 1 1 2 (.lstore_n 1) := ⟨by decide +kernel, rfl⟩
theorem e_X10_paidAll_2 : DC cX10_paidAll 2 1 3 (.iconst 0) := ⟨by decide +kernel, rfl⟩
theorem e_X10_paidAll_3 : DC cX10_paidAll 3 1 4 (.istore_n 3) := ⟨by decide +kernel, rfl⟩
theorem e_X10_paidAll_4 : DC cX10_paidAll 4 1 5 (.iload_n 3) := ⟨by decide +kernel, rfl⟩
theorem e_X10_paidAll_5 : DC cX10_paidAll 5 1 6 (.aload_n 0) := ⟨by decide +kernel, rfl⟩
theorem e_X10_paidAll_6 : DC cX10_paidAll 6 3 9 (.invokevirtual 221) := ⟨by decide +kernel, rfl⟩
theorem e_X10_paidAll_9 : DJ cX10_paidAll 9 34 12 (.if_icmp .ge) := DJ.mk 25 (by decide +kernel) (by decide) rfl
theorem e_X10_paidAll_34 : DC cX10_paidAll 34 1 35 (.lload_n 1) := ⟨by decide +kernel, rfl⟩
theorem e_X10_paidAll_35 : DC cX10_paidAll 35 1 36 (.lreturn) := ⟨by decide +kernel, rfl⟩
theorem e_X10_areAhead_0 : DC cX10_areAhead 0 1 1 (.iload_n 0) := ⟨by decide +kernel, rfl⟩
theorem e_X10_areAhead_1 : DJ cX10_areAhead 1 14 4 (.ifCond .lt) := DJ.mk 13 (by decide +kernel) (by decide) rfl
theorem e_X10_areAhead_14 : DC cX10_areAhead 14 1 15 (.iconst 0) := ⟨by decide +kernel, rfl⟩
theorem e_X10_areAhead_15 : DC cX10_areAhead 15 1 16 (.ireturn) := ⟨by decide +kernel, rfl⟩
theorem e_X10_areAhead_4 : DC cX10_areAhead 4 1 5 (.iload_n 0) := ⟨by decide +kernel, rfl⟩
theorem e_X10_areAhead_5 : DC cX10_areAhead 5 2 7 (.bipush 72) := ⟨by decide +kernel, rfl⟩
theorem e_X10_areAhead_7 : DJ cX10_areAhead 7 14 10 (.if_icmp .gt) := DJ.mk 7 (by decide +kernel) (by decide) rfl
theorem e_X10_areAhead_10 : DC cX10_areAhead 10 1 11 (.iconst 1) := ⟨by decide +kernel, rfl⟩
theorem e_X10_areAhead_11 : DJ cX10_areAhead 11 15 14 .goto := DJ.mk 4 (by decide +kernel) (by decide) rfl
theorem e_X10_copies_3 : DC cX10_copies 3 2 5 (.iload 4) := ⟨by decide +kernel, rfl⟩
theorem e_X10_copies_5 : DC cX10_copies 5 3 8 (.sipush 1113) := ⟨by decide +kernel, rfl⟩
theorem e_X10_copies_8 : DJ cX10_copies 8 29 11 (.if_icmp .ge) := DJ.mk 21 (by decide +kernel) (by decide) rfl
theorem e_X10_copies_29 : DC cX10_copies 29 1 30 (.return_) := ⟨by decide +kernel, rfl⟩
theorem e_X10_copies_11 : DC cX10_copies 11 1 12 (.aload_n 2) := ⟨by decide +kernel, rfl⟩
theorem e_X10_copies_12 : DC cX10_copies 12 1 13 (.iload_n 3) := ⟨by decide +kernel, rfl⟩
theorem e_X10_copies_13 : DC cX10_copies 13 2 15 (.iload 4) := ⟨by decide +kernel, rfl⟩
theorem e_X10_copies_15 : DC cX10_copies 15 1 16 (.iadd) := ⟨by decide +kernel, rfl⟩
theorem e_X10_copies_16 : DC cX10_copies 16 1 17 (.aload_n 0) := ⟨by decide +kernel, rfl⟩
theorem e_X10_copies_17 : DC cX10_copies 17 1 18 (.iload_n 1) := ⟨by decide +kernel, rfl⟩
theorem e_X10_copies_18 : DC cX10_copies 18 2 20 (.iload 4) := ⟨by decide +kernel, rfl⟩
theorem e_X10_copies_20 : DC cX10_copies 20 1 21 (.iadd) := ⟨by decide +kernel, rfl⟩
theorem e_X10_copies_21 : DC cX10_copies 21 1 22 (.laload) := ⟨by decide +kernel, rfl⟩
theorem e_X10_copies_22 : DC cX10_copies 22 1 23 (.lastore) := ⟨by decide +kernel, rfl⟩
theorem e_X10_copies_23 : DC cX10_copies 23 3 26 (.iinc 4 1) := ⟨by decide +kernel, rfl⟩
theorem e_X10_copies_26 : DJ cX10_copies 26 3 29 .goto := DJ.mk (-23) (by decide +kernel) (by decide) rfl
theorem e_X10_copies_0 : DC cX10_copies 0 1 1 (.iconst 0) := ⟨by decide +kernel, rfl⟩
theorem e_X10_copies_1 : DC cX10_copies 1 2 3 (.istore 4) := ⟨by decide +kernel, rfl⟩
set_option maxRecDepth 20000 in
theorem k_isLease0 (l : Launch) (V : VX) (N : Nat) (σ : Mem) (m : Nat) (v_thrown v_taped v_lines v_size v_at v_place v_sort v_value v_fault v_faultPlace v_lastFault v_lastPlace v_undoable v_hasImage v_drawn : Int32) (x : Int32) (h_obj : σ m = some (ob 8 [.int v_thrown, .ref (m + 1), .int v_taped, .ref (m + 2), .ref (m + 3), .ref (m + 4), .ref (m + 5), .ref (m + 6), .ref (m + 7), .ref (m + 8), .ref (m + 9), .ref (m + 10), .ref (m + 11), .ref (m + 12), .ref (m + 13), .ref (m + 14), .ref (m + 15), .int v_lines, .int v_size, .int v_at, .int v_place, .int v_sort, .int v_value, .int v_fault, .int v_faultPlace, .int v_lastFault, .int v_lastPlace, .ref (m + 16), .ref (m + 17), .ref (m + 18), .ref (m + 19), .ref (m + 20), .int v_undoable, .int v_hasImage, .ref (m + 21), .ref (m + 22), .int v_drawn])) (h_number : σ (m + 2) = some (aI V 10 (fun _ => 0)))  : Ct l V yX10_isLease cX10_isLease 2 (some .boolean) 1 0 0 N σ [.ref m, .int x] (fun r τ => r = some (.int 0) ∧ τ = σ) := by
  refine Ct.of (by decide) (Nat.le_of_ble_eq_true rfl) [(0, .ref m), (1, .int x)] rfl (fun X hX F hQ => ?_)
  refine m_iload_n F rfl e_X10_isLease_0 ?_
  refine m_if_lt F e_X10_isLease_1 (fun q1 => ?_) (fun q1 => ?_)
  · refine m_iconst F (v := 0) (by decide) e_X10_isLease_16 ?_
    exact m_zret F hQ e_X10_isLease_17 (by decide) (⟨rfl, rfl⟩)
  · refine m_iload_n F rfl e_X10_isLease_4 ?_
    refine m_aload_n F rfl e_X10_isLease_5 ?_
    refine m_callV F e_X10_isLease_6 (k_leases0 (x_l X) V _ _ m v_thrown v_taped v_lines v_size v_at v_place v_sort v_value v_fault v_faultPlace v_lastFault v_lastPlace v_undoable v_hasImage v_drawn  h_obj h_number ) cb_X10_leases ml_X10_221 im_X10_leases se_X10_leases h_obj rfl rfl (rest := [.int x]) rfl (Nat.le_of_ble_eq_true rfl) ⟨Nat.le_of_ble_eq_true rfl, Nat.le_of_ble_eq_true rfl⟩ ⟨Nat.le_of_ble_eq_true rfl, Nat.le_of_ble_eq_true rfl⟩ (k' := 0) (z' := 0) (N' := N) rfl rfl rfl (fun r τ hp => ?_)
    obtain ⟨rfl, rfl⟩ := hp
    refine m_icmp_ge F e_X10_isLease_9 (fun q9 => ?_) (fun q9 => absurd q9 (fun n => n (Int32.not_lt.mp q1)))
    refine m_iconst F (v := 0) (by decide) e_X10_isLease_16 ?_
    exact m_zret F hQ e_X10_isLease_17 (by decide) (⟨rfl, rfl⟩)
set_option maxRecDepth 20000 in
theorem k_isRunning0 (l : Launch) (V : VX) (N : Nat) (σ : Mem) (m : Nat) (v_thrown v_taped v_lines v_size v_at v_place v_sort v_value v_fault v_faultPlace v_lastFault v_lastPlace v_undoable v_hasImage v_drawn : Int32) (x : Int32) (h_obj : σ m = some (ob 8 [.int v_thrown, .ref (m + 1), .int v_taped, .ref (m + 2), .ref (m + 3), .ref (m + 4), .ref (m + 5), .ref (m + 6), .ref (m + 7), .ref (m + 8), .ref (m + 9), .ref (m + 10), .ref (m + 11), .ref (m + 12), .ref (m + 13), .ref (m + 14), .ref (m + 15), .int v_lines, .int v_size, .int v_at, .int v_place, .int v_sort, .int v_value, .int v_fault, .int v_faultPlace, .int v_lastFault, .int v_lastPlace, .ref (m + 16), .ref (m + 17), .ref (m + 18), .ref (m + 19), .ref (m + 20), .int v_undoable, .int v_hasImage, .ref (m + 21), .ref (m + 22), .int v_drawn])) (h_number : σ (m + 2) = some (aI V 10 (fun _ => 0)))  : Ct l V yX10_isRunning cX10_isRunning 2 (some .boolean) 2 0 0 N σ [.ref m, .int x] (fun r τ => r = some (.int 0) ∧ τ = σ) := by
  refine Ct.of (by decide) (Nat.le_of_ble_eq_true rfl) [(0, .ref m), (1, .int x)] rfl (fun X hX F hQ => ?_)
  refine m_aload_n F rfl e_X10_isRunning_0 ?_
  refine m_iload_n F rfl e_X10_isRunning_1 ?_
  refine m_callV F e_X10_isRunning_2 (k_isLease0 (x_l X) V _ _ m v_thrown v_taped v_lines v_size v_at v_place v_sort v_value v_fault v_faultPlace v_lastFault v_lastPlace v_undoable v_hasImage v_drawn x h_obj h_number ) cb_X10_isLease ml_X10_292 im_X10_isLease se_X10_isLease h_obj rfl rfl (rest := []) rfl (Nat.le_of_ble_eq_true rfl) ⟨Nat.le_of_ble_eq_true rfl, Nat.le_of_ble_eq_true rfl⟩ ⟨Nat.le_of_ble_eq_true rfl, Nat.le_of_ble_eq_true rfl⟩ (k' := 0) (z' := 0) (N' := N) rfl rfl rfl (fun r τ hp => ?_)
  obtain ⟨rfl, rfl⟩ := hp
  refine m_if_eq F e_X10_isRunning_5 (fun _ => ?_) (fun q => absurd (by decide) q)
  refine m_iconst F (v := 0) (by decide) e_X10_isRunning_20 ?_
  exact m_zret F hQ e_X10_isRunning_21 (by decide) (⟨rfl, rfl⟩)
set_option maxRecDepth 20000 in
theorem k_isOwn0 (l : Launch) (V : VX) (N : Nat) (σ : Mem) (m : Nat) (v_thrown v_taped v_lines v_size v_at v_place v_sort v_value v_fault v_faultPlace v_lastFault v_lastPlace v_undoable v_hasImage v_drawn : Int32) (x y : Int32) (h_obj : σ m = some (ob 8 [.int v_thrown, .ref (m + 1), .int v_taped, .ref (m + 2), .ref (m + 3), .ref (m + 4), .ref (m + 5), .ref (m + 6), .ref (m + 7), .ref (m + 8), .ref (m + 9), .ref (m + 10), .ref (m + 11), .ref (m + 12), .ref (m + 13), .ref (m + 14), .ref (m + 15), .int v_lines, .int v_size, .int v_at, .int v_place, .int v_sort, .int v_value, .int v_fault, .int v_faultPlace, .int v_lastFault, .int v_lastPlace, .ref (m + 16), .ref (m + 17), .ref (m + 18), .ref (m + 19), .ref (m + 20), .int v_undoable, .int v_hasImage, .ref (m + 21), .ref (m + 22), .int v_drawn])) (h_number : σ (m + 2) = some (aI V 10 (fun _ => 0)))  : Ct l V yX10_isOwn cX10_isOwn 3 (some .boolean) 2 0 0 N σ [.ref m, .int x, .int y] (fun r τ => r = some (.int 0) ∧ τ = σ) := by
  refine Ct.of (by decide) (Nat.le_of_ble_eq_true rfl) [(0, .ref m), (1, .int x), (2, .int y)] rfl (fun X hX F hQ => ?_)
  refine m_aload_n F rfl e_X10_isOwn_0 ?_
  refine m_iload_n F rfl e_X10_isOwn_1 ?_
  refine m_callV F e_X10_isOwn_2 (k_isLease0 (x_l X) V _ _ m v_thrown v_taped v_lines v_size v_at v_place v_sort v_value v_fault v_faultPlace v_lastFault v_lastPlace v_undoable v_hasImage v_drawn x h_obj h_number ) cb_X10_isLease ml_X10_292 im_X10_isLease se_X10_isLease h_obj rfl rfl (rest := []) rfl (Nat.le_of_ble_eq_true rfl) ⟨Nat.le_of_ble_eq_true rfl, Nat.le_of_ble_eq_true rfl⟩ ⟨Nat.le_of_ble_eq_true rfl, Nat.le_of_ble_eq_true rfl⟩ (k' := 0) (z' := 0) (N' := N) rfl rfl rfl (fun r τ hp => ?_)
  obtain ⟨rfl, rfl⟩ := hp
  refine m_if_eq F e_X10_isOwn_5 (fun _ => ?_) (fun q => absurd (by decide) q)
  refine m_iconst F (v := 0) (by decide) e_X10_isOwn_35 ?_
  exact m_zret F hQ e_X10_isOwn_36 (by decide) (⟨rfl, rfl⟩)
set_option maxRecDepth 20000 in
theorem k_canTake0 (l : Launch) (V : VX) (N : Nat) (σ : Mem) (m : Nat) (v_thrown v_taped v_lines v_size v_at v_place v_sort v_value v_fault v_faultPlace v_lastFault v_lastPlace v_undoable v_hasImage v_drawn : Int32) (x : Int32) (h_obj : σ m = some (ob 8 [.int v_thrown, .ref (m + 1), .int v_taped, .ref (m + 2), .ref (m + 3), .ref (m + 4), .ref (m + 5), .ref (m + 6), .ref (m + 7), .ref (m + 8), .ref (m + 9), .ref (m + 10), .ref (m + 11), .ref (m + 12), .ref (m + 13), .ref (m + 14), .ref (m + 15), .int v_lines, .int v_size, .int v_at, .int v_place, .int v_sort, .int v_value, .int v_fault, .int v_faultPlace, .int v_lastFault, .int v_lastPlace, .ref (m + 16), .ref (m + 17), .ref (m + 18), .ref (m + 19), .ref (m + 20), .int v_undoable, .int v_hasImage, .ref (m + 21), .ref (m + 22), .int v_drawn])) (h_number : σ (m + 2) = some (aI V 10 (fun _ => 0)))  : Ct l V yX10_canTake cX10_canTake 2 (some .boolean) 0 0 0 N σ [.ref m, .int x] (fun r τ => r = some (.int 0) ∧ τ = σ) := by
  refine Ct.of (by decide) (Nat.le_of_ble_eq_true rfl) [(0, .ref m), (1, .int x)] rfl (fun X hX F hQ => ?_)
  refine m_iload_n F rfl e_X10_canTake_0 ?_
  refine m_if_lt F e_X10_canTake_1 (fun q1 => ?_) (fun q1 => ?_)
  · refine m_iconst F (v := 0) (by decide) e_X10_canTake_65 ?_
    exact m_zret F hQ e_X10_canTake_66 (by decide) (⟨rfl, rfl⟩)
  · refine m_iload_n F rfl e_X10_canTake_4 ?_
    refine m_aload_n F rfl e_X10_canTake_5 ?_
    refine m_get F e_X10_canTake_6 fl_X10_13 h_obj rfl ?_
    refine m_iconst F (v := 3) (by decide) e_X10_canTake_9 ?_
    refine m_iald F (j := 3) e_X10_canTake_10 h_number (by decide) (by unfold vp_in; decide) ?_
    refine Wm.topE (w := 0) (rfl) ?_
    refine m_icmp_ge F e_X10_canTake_11 (fun q11 => ?_) (fun q11 => absurd q11 (fun n => n (Int32.not_lt.mp q1)))
    refine m_iconst F (v := 0) (by decide) e_X10_canTake_65 ?_
    exact m_zret F hQ e_X10_canTake_66 (by decide) (⟨rfl, rfl⟩)
set_option maxRecDepth 20000 in
theorem k_namedAt0 (l : Launch) (V : VX) (N : Nat) (σ : Mem) (m : Nat) (v_thrown v_taped v_lines v_size v_at v_place v_sort v_value v_fault v_faultPlace v_lastFault v_lastPlace v_undoable v_hasImage v_drawn : Int32) (x : Int32) (h_obj : σ m = some (ob 8 [.int v_thrown, .ref (m + 1), .int v_taped, .ref (m + 2), .ref (m + 3), .ref (m + 4), .ref (m + 5), .ref (m + 6), .ref (m + 7), .ref (m + 8), .ref (m + 9), .ref (m + 10), .ref (m + 11), .ref (m + 12), .ref (m + 13), .ref (m + 14), .ref (m + 15), .int v_lines, .int v_size, .int v_at, .int v_place, .int v_sort, .int v_value, .int v_fault, .int v_faultPlace, .int v_lastFault, .int v_lastPlace, .ref (m + 16), .ref (m + 17), .ref (m + 18), .ref (m + 19), .ref (m + 20), .int v_undoable, .int v_hasImage, .ref (m + 21), .ref (m + 22), .int v_drawn]))  : Ct l V yX10_namedAt cX10_namedAt 5 (some .int) 0 0 0 N σ [.ref m, .int 0, .int 0, .int x] (fun r τ => r = some (.int (-1)) ∧ τ = σ) := by
  refine Ct.of (by decide) (Nat.le_of_ble_eq_true rfl) [(0, .ref m), (1, .int 0), (2, .int 0), (3, .int x)] rfl (fun X hX F hQ => ?_)
  refine m_iconst F (v := 0) (by decide) e_X10_namedAt_0 ?_
  refine m_istore F (lv' := [(4, .int 0), (0, .ref m), (1, .int 0), (2, .int 0), (3, .int x)]) e_X10_namedAt_1 (by decide) rfl ?_
  refine m_iload F rfl e_X10_namedAt_3 ?_
  refine m_iload_n F rfl e_X10_namedAt_5 ?_
  refine m_icmp_ge F e_X10_namedAt_6 (fun _ => ?_) (fun q => absurd (by decide) q)
  refine m_iconst F (v := (-1)) (by decide) e_X10_namedAt_31 ?_
  exact m_iret F hQ e_X10_namedAt_32 (⟨rfl, rfl⟩)
set_option maxRecDepth 20000 in
theorem k_running0 (l : Launch) (V : VX) (N : Nat) (σ : Mem) (m : Nat) (v_thrown v_taped v_lines v_size v_at v_place v_sort v_value v_fault v_faultPlace v_lastFault v_lastPlace v_undoable v_hasImage v_drawn : Int32)  (h_obj : σ m = some (ob 8 [.int v_thrown, .ref (m + 1), .int v_taped, .ref (m + 2), .ref (m + 3), .ref (m + 4), .ref (m + 5), .ref (m + 6), .ref (m + 7), .ref (m + 8), .ref (m + 9), .ref (m + 10), .ref (m + 11), .ref (m + 12), .ref (m + 13), .ref (m + 14), .ref (m + 15), .int v_lines, .int v_size, .int v_at, .int v_place, .int v_sort, .int v_value, .int v_fault, .int v_faultPlace, .int v_lastFault, .int v_lastPlace, .ref (m + 16), .ref (m + 17), .ref (m + 18), .ref (m + 19), .ref (m + 20), .int v_undoable, .int v_hasImage, .ref (m + 21), .ref (m + 22), .int v_drawn])) (h_number : σ (m + 2) = some (aI V 10 (fun _ => 0)))  : Ct l V yX10_running cX10_running 3 (some .int) 1 0 0 N σ [.ref m] (fun r τ => r = some (.int 0) ∧ τ = σ) := by
  refine Ct.of (by decide) (Nat.le_of_ble_eq_true rfl) [(0, .ref m)] rfl (fun X hX F hQ => ?_)
  refine m_iconst F (v := 0) (by decide) e_X10_running_0 ?_
  refine m_istore_n F (lv' := [(1, .int 0), (0, .ref m)]) e_X10_running_1 (by decide) rfl ?_
  refine m_iconst F (v := 0) (by decide) e_X10_running_2 ?_
  refine m_istore_n F (lv' := [(2, .int 0), (1, .int 0), (0, .ref m)]) e_X10_running_3 (by decide) rfl ?_
  refine m_iload_n F rfl e_X10_running_4 ?_
  refine m_aload_n F rfl e_X10_running_5 ?_
  refine m_callV F e_X10_running_6 (k_leases0 (x_l X) V _ _ m v_thrown v_taped v_lines v_size v_at v_place v_sort v_value v_fault v_faultPlace v_lastFault v_lastPlace v_undoable v_hasImage v_drawn  h_obj h_number ) cb_X10_leases ml_X10_221 im_X10_leases se_X10_leases h_obj rfl rfl (rest := [.int 0]) rfl (Nat.le_of_ble_eq_true rfl) ⟨Nat.le_of_ble_eq_true rfl, Nat.le_of_ble_eq_true rfl⟩ ⟨Nat.le_of_ble_eq_true rfl, Nat.le_of_ble_eq_true rfl⟩ (k' := 0) (z' := 0) (N' := N) rfl rfl rfl (fun r τ hp => ?_)
  obtain ⟨rfl, rfl⟩ := hp
  refine m_icmp_ge F e_X10_running_9 (fun _ => ?_) (fun q => absurd (by decide) q)
  refine m_iload_n F rfl e_X10_running_34 ?_
  exact m_iret F hQ e_X10_running_35 (⟨rfl, rfl⟩)
set_option maxRecDepth 20000 in
theorem k_owedAll0 (l : Launch) (V : VX) (N : Nat) (σ : Mem) (m : Nat) (v_thrown v_taped v_lines v_size v_at v_place v_sort v_value v_fault v_faultPlace v_lastFault v_lastPlace v_undoable v_hasImage v_drawn : Int32)  (h_obj : σ m = some (ob 8 [.int v_thrown, .ref (m + 1), .int v_taped, .ref (m + 2), .ref (m + 3), .ref (m + 4), .ref (m + 5), .ref (m + 6), .ref (m + 7), .ref (m + 8), .ref (m + 9), .ref (m + 10), .ref (m + 11), .ref (m + 12), .ref (m + 13), .ref (m + 14), .ref (m + 15), .int v_lines, .int v_size, .int v_at, .int v_place, .int v_sort, .int v_value, .int v_fault, .int v_faultPlace, .int v_lastFault, .int v_lastPlace, .ref (m + 16), .ref (m + 17), .ref (m + 18), .ref (m + 19), .ref (m + 20), .int v_undoable, .int v_hasImage, .ref (m + 21), .ref (m + 22), .int v_drawn])) (h_number : σ (m + 2) = some (aI V 10 (fun _ => 0)))  : Ct l V yX10_owedAll cX10_owedAll 4 (some .long) 1 0 0 N σ [.ref m] (fun r τ => r = some (.long 0) ∧ τ = σ) := by
  refine Ct.of (by decide) (Nat.le_of_ble_eq_true rfl) [(0, .ref m)] rfl (fun X hX F hQ => ?_)
  refine m_lconst F (v := 0) (by decide) e_X10_owedAll_0 ?_
  refine m_lstore_n F (lv' := [(1, .long 0), (0, .ref m)]) e_X10_owedAll_1 (by decide) rfl ?_
  refine m_iconst F (v := 0) (by decide) e_X10_owedAll_2 ?_
  refine m_istore_n F (lv' := [(3, .int 0), (1, .long 0), (0, .ref m)]) e_X10_owedAll_3 (by decide) rfl ?_
  refine m_iload_n F rfl e_X10_owedAll_4 ?_
  refine m_aload_n F rfl e_X10_owedAll_5 ?_
  refine m_callV F e_X10_owedAll_6 (k_leases0 (x_l X) V _ _ m v_thrown v_taped v_lines v_size v_at v_place v_sort v_value v_fault v_faultPlace v_lastFault v_lastPlace v_undoable v_hasImage v_drawn  h_obj h_number ) cb_X10_leases ml_X10_221 im_X10_leases se_X10_leases h_obj rfl rfl (rest := [.int 0]) rfl (Nat.le_of_ble_eq_true rfl) ⟨Nat.le_of_ble_eq_true rfl, Nat.le_of_ble_eq_true rfl⟩ ⟨Nat.le_of_ble_eq_true rfl, Nat.le_of_ble_eq_true rfl⟩ (k' := 0) (z' := 0) (N' := N) rfl rfl rfl (fun r τ hp => ?_)
  obtain ⟨rfl, rfl⟩ := hp
  refine m_icmp_ge F e_X10_owedAll_9 (fun _ => ?_) (fun q => absurd (by decide) q)
  refine m_lload_n F rfl e_X10_owedAll_34 ?_
  exact m_lret F hQ e_X10_owedAll_35 (⟨rfl, rfl⟩)
set_option maxRecDepth 20000 in
theorem k_paidAll0 (l : Launch) (V : VX) (N : Nat) (σ : Mem) (m : Nat) (v_thrown v_taped v_lines v_size v_at v_place v_sort v_value v_fault v_faultPlace v_lastFault v_lastPlace v_undoable v_hasImage v_drawn : Int32)  (h_obj : σ m = some (ob 8 [.int v_thrown, .ref (m + 1), .int v_taped, .ref (m + 2), .ref (m + 3), .ref (m + 4), .ref (m + 5), .ref (m + 6), .ref (m + 7), .ref (m + 8), .ref (m + 9), .ref (m + 10), .ref (m + 11), .ref (m + 12), .ref (m + 13), .ref (m + 14), .ref (m + 15), .int v_lines, .int v_size, .int v_at, .int v_place, .int v_sort, .int v_value, .int v_fault, .int v_faultPlace, .int v_lastFault, .int v_lastPlace, .ref (m + 16), .ref (m + 17), .ref (m + 18), .ref (m + 19), .ref (m + 20), .int v_undoable, .int v_hasImage, .ref (m + 21), .ref (m + 22), .int v_drawn])) (h_number : σ (m + 2) = some (aI V 10 (fun _ => 0)))  : Ct l V yX10_paidAll cX10_paidAll 4 (some .long) 1 0 0 N σ [.ref m] (fun r τ => r = some (.long 0) ∧ τ = σ) := by
  refine Ct.of (by decide) (Nat.le_of_ble_eq_true rfl) [(0, .ref m)] rfl (fun X hX F hQ => ?_)
  refine m_lconst F (v := 0) (by decide) e_X10_paidAll_0 ?_
  refine m_lstore_n F (lv' := [(1, .long 0), (0, .ref m)]) e_X10_paidAll_1 (by decide) rfl ?_
  refine m_iconst F (v := 0) (by decide) e_X10_paidAll_2 ?_
  refine m_istore_n F (lv' := [(3, .int 0), (1, .long 0), (0, .ref m)]) e_X10_paidAll_3 (by decide) rfl ?_
  refine m_iload_n F rfl e_X10_paidAll_4 ?_
  refine m_aload_n F rfl e_X10_paidAll_5 ?_
  refine m_callV F e_X10_paidAll_6 (k_leases0 (x_l X) V _ _ m v_thrown v_taped v_lines v_size v_at v_place v_sort v_value v_fault v_faultPlace v_lastFault v_lastPlace v_undoable v_hasImage v_drawn  h_obj h_number ) cb_X10_leases ml_X10_221 im_X10_leases se_X10_leases h_obj rfl rfl (rest := [.int 0]) rfl (Nat.le_of_ble_eq_true rfl) ⟨Nat.le_of_ble_eq_true rfl, Nat.le_of_ble_eq_true rfl⟩ ⟨Nat.le_of_ble_eq_true rfl, Nat.le_of_ble_eq_true rfl⟩ (k' := 0) (z' := 0) (N' := N) rfl rfl rfl (fun r τ hp => ?_)
  obtain ⟨rfl, rfl⟩ := hp
  refine m_icmp_ge F e_X10_paidAll_9 (fun _ => ?_) (fun q => absurd (by decide) q)
  refine m_lload_n F rfl e_X10_paidAll_34 ?_
  exact m_lret F hQ e_X10_paidAll_35 (⟨rfl, rfl⟩)
set_option maxRecDepth 20000 in
theorem k_areAhead (l : Launch) (V : VX) (N : Nat) (σ : Mem) (x : Int32)  : Ct l V yX10_areAhead cX10_areAhead 1 (some .boolean) 0 0 0 N σ [.int x] (fun r τ => r = some (.int (if x < 0 ∨ 72 < x then 0 else 1)) ∧ τ = σ) := by
  refine Ct.of (by decide) (Nat.le_of_ble_eq_true rfl) [(0, .int x)] rfl (fun X hX F hQ => ?_)
  refine m_iload_n F rfl e_X10_areAhead_0 ?_
  refine m_if_lt F e_X10_areAhead_1 (fun q1 => ?_) (fun q1 => ?_)
  · refine m_iconst F (v := 0) (by decide) e_X10_areAhead_14 ?_
    exact m_zret F hQ e_X10_areAhead_15 (by decide) (⟨by rw [if_pos (Or.inl q1)], rfl⟩)
  · refine m_iload_n F rfl e_X10_areAhead_4 ?_
    refine m_bipush F (v := 72) (by decide) e_X10_areAhead_5 ?_
    refine m_icmp_gt F e_X10_areAhead_7 (fun q7 => ?_) (fun q7 => ?_)
    · refine m_iconst F (v := 0) (by decide) e_X10_areAhead_14 ?_
      exact m_zret F hQ e_X10_areAhead_15 (by decide) (⟨by rw [if_pos (Or.inr q7)], rfl⟩)
    · refine m_iconst F (v := 1) (by decide) e_X10_areAhead_10 ?_
      refine m_goto F e_X10_areAhead_11 ?_
      exact m_zret F hQ e_X10_areAhead_15 (by decide) (⟨by rw [if_neg (fun h => h.elim q1 q7)], rfl⟩)
def cpJ (f g : Nat → Int64) (a b i : Nat) : Nat → Int64 := fun j => if b ≤ j ∧ j < b + i then f (a + (j - b)) else g j
theorem cpJ_upd {f g : Nat → Int64} {a b i : Nat} : vp_updL (cpJ f g a b i) (b + i) (f (a + i)) = cpJ f g a b (i + 1) := by
  funext j
  simp only [vp_updL, cpJ]
  by_cases h1 : j = b + i
  · subst h1; rw [if_pos rfl, if_pos ⟨by omega, by omega⟩, show b + i - b = i by omega]
  · rw [if_neg h1]
    by_cases h2 : b ≤ j ∧ j < b + i
    · rw [if_pos h2, if_pos ⟨h2.1, by omega⟩]
    · rw [if_neg h2, if_neg (by omega)]
theorem cpJ_0 {f g : Nat → Int64} {a b : Nat} : cpJ f g a b 0 = g := by
  funext j; simp only [cpJ]; rw [if_neg (by omega)]
theorem cpJ_in {f g : Nat → Int64} {a b n j : Nat} (h1 : b ≤ j) (h2 : j < b + n) : cpJ f g a b n j = f (a + (j - b)) := by
  simp only [cpJ]; rw [if_pos ⟨h1, h2⟩]
theorem lp_copies {V : VX} {X : MX} {N : Nat} {σ : Mem} {Post : Option Value → Mem → Prop} (F : Fx V X yX10_copies cX10_copies 5 none (rmd 0 0 0)) (hQ : Rt V X 0 0 N Post) {p q lp lq a b : Nat} {f g : Nat → Int64} (hpq : p ≠ q) (h_p : σ p = some (aJ V lp f)) (h1 : a + 1113 ≤ lp) (h2 : b + 1113 ≤ lq) (h3 : lp < 2 ^ 30) (h4 : lq < 2 ^ 30) (hp : Post none (va_up σ q (some (aJ V lq (cpJ f g a b 1113))))) : ∀ n i : Nat, i ≤ 1113 → 1113 - i < n → Wm V X 5 N (va_up σ q (some (aJ V lq (cpJ f g a b i)))) 0 0 3 [(4, .int (nI i)), (0, .ref p), (1, .int (nI a)), (2, .ref q), (3, .int (nI b))] [] := by
  intro n
  induction n with
  | zero => intro i h1 h2; exact absurd h2 (by omega)
  | succ n ih =>
    intro i h5 h6
    refine m_iload F rfl e_X10_copies_3 ?_
    refine m_sipush F (v := 1113) (by decide) e_X10_copies_5 ?_
    refine m_icmp_ge F e_X10_copies_8 (fun q8 => ?_) (fun q8 => ?_)
    · have c8 : i ≥ 1113 := (nI_leI (a := 1113) (b := i) (by omega) (by omega)).mp q8
      have hi : i = 1113 := by omega
      subst hi
      exact m_vret F hQ e_X10_copies_29 (hp)
    · have c8 : i < 1113 := by have hh := mt (nI_leI (a := 1113) (b := i) (by omega) (by omega)).mpr q8; omega
      refine m_aload_n F rfl e_X10_copies_11 ?_
      refine m_iload_n F rfl e_X10_copies_12 ?_
      refine m_iload F rfl e_X10_copies_13 ?_
      refine m_iadd F e_X10_copies_15 ?_
      refine Wm.topE (w := nI (b + i)) (nI_add b i) ?_
      refine m_aload_n F rfl e_X10_copies_16 ?_
      refine m_iload_n F rfl e_X10_copies_17 ?_
      refine m_iload F rfl e_X10_copies_18 ?_
      refine m_iadd F e_X10_copies_20 ?_
      refine Wm.topE (w := nI (a + i)) (nI_add a i) ?_
      refine m_lald F (j := a + i) e_X10_copies_21 (ru_ne (by omega) h_p) (nI_clamp (by omega)) (vp_in_nI (by omega) (by omega)) ?_
      refine m_last F (j := b + i) e_X10_copies_22 ru_eq (nI_clamp (by omega)) (vp_in_nI (by omega) (by omega)) rfl (bx_uu _ _ _ _) ?_
      refine m_iinc F (v := nI (i + 1)) (lv' := [(4, .int (nI (i + 1))), (0, .ref p), (1, .int (nI a)), (2, .ref q), (3, .int (nI b))]) e_X10_copies_23 rfl (nI_add i 1) (by decide) rfl ?_
      refine m_goto F e_X10_copies_26 ?_
      refine Wm.memE (congrArg (fun g => va_up σ q (some (aJ V lq g))) cpJ_upd) ?_
      exact ih (i + 1) (by omega) (by omega)
set_option maxRecDepth 20000 in
theorem k_copies (l : Launch) (V : VX) (N : Nat) (σ : Mem) (p q lp lq a b : Nat) (f g : Nat → Int64) (hpq : p ≠ q) (h1 : a + 1113 ≤ lp) (h2 : b + 1113 ≤ lq) (h3 : lp < 2 ^ 30) (h4 : lq < 2 ^ 30) (h_p : σ p = some (aJ V lp f)) (h_q : σ q = some (aJ V lq g)) : Ct l V yX10_copies cX10_copies 5 none 0 0 0 N σ [.ref p, .int (nI a), .ref q, .int (nI b)] (fun r τ => r = none ∧ τ = va_up σ q (some (aJ V lq (cpJ f g a b 1113)))) := by
  refine Ct.of (by decide) (Nat.le_of_ble_eq_true rfl) [(0, .ref p), (1, .int (nI a)), (2, .ref q), (3, .int (nI b))] rfl (fun X hX F hQ => ?_)
  refine m_iconst F (v := 0) (by decide) e_X10_copies_0 ?_
  refine m_istore F (lv' := [(4, .int 0), (0, .ref p), (1, .int (nI a)), (2, .ref q), (3, .int (nI b))]) e_X10_copies_1 (by decide) rfl ?_
  refine Wm.memE (up_self h_q) ?_
  refine Wm.memE (congrArg (fun g => va_up σ q (some (aJ V lq g))) (cpJ_0 (f := f) (a := a) (b := b)).symm) ?_
  exact lp_copies F hQ hpq h_p h1 h2 h3 h4 ⟨rfl, rfl⟩ 1114 0 (by omega) (by omega)
