theorem e_X1_init_0 : DC cX1_init 0 1 1 (.aload_n 0) := ⟨by decide +kernel, rfl⟩
theorem e_X1_init_1 : DC cX1_init 1 3 4 (.invokespecial 1) := ⟨by decide +kernel, rfl⟩
theorem ml_X1_1 : Cond.methodLink RX1 1 objectInit ∈ tb := tb_in 73 (by decide +kernel) (by decide +kernel)
theorem im_obj : Cond.instanceMethod objectInit ∈ tb := tb_in 35 (by decide +kernel) (by decide +kernel)
theorem co_obj : Cond.code objectInit ⟨#[0xb1]⟩ 1 none ∈ tb := tb_in 36 (by decide +kernel) (by decide +kernel)
theorem e_X1_init_4 : DC cX1_init 4 1 5 (.return_) := ⟨by decide +kernel, rfl⟩
theorem e_X6_init_0 : DC cX6_init 0 1 1 (.aload_n 0) := ⟨by decide +kernel, rfl⟩
theorem e_X6_init_1 : DC cX6_init 1 3 4 (.invokespecial 1) := ⟨by decide +kernel, rfl⟩
theorem ml_X6_1 : Cond.methodLink RX6 1 objectInit ∈ tb := tb_in 201 (by decide +kernel) (by decide +kernel)
theorem e_X6_init_4 : DC cX6_init 4 1 5 (.return_) := ⟨by decide +kernel, rfl⟩
theorem e_X8_init_0 : DC cX8_init 0 1 1 (.aload_n 0) := ⟨by decide +kernel, rfl⟩
theorem e_X8_init_1 : DC cX8_init 1 3 4 (.invokespecial 3) := ⟨by decide +kernel, rfl⟩
theorem ml_X8_3 : Cond.methodLink RX8 3 objectInit ∈ tb := tb_in 95 (by decide +kernel) (by decide +kernel)
theorem e_X8_init_4 : DC cX8_init 4 1 5 (.aload_n 0) := ⟨by decide +kernel, rfl⟩
theorem e_X8_init_5 : DC cX8_init 5 2 7 (.bipush 72) := ⟨by decide +kernel, rfl⟩
theorem e_X8_init_7 : DC cX8_init 7 2 9 (.newarray .long) := ⟨by decide +kernel, rfl⟩
theorem arr_long : Cond.arrayClass .long ∈ tb := tb_in 67 (by decide +kernel) (by decide +kernel)
theorem e_X8_init_9 : DC cX8_init 9 3 12 (.putfield 9) := ⟨by decide +kernel, rfl⟩
theorem uw_6 : ∀ w ∈ u_ws RX8 TX8 3, w ∈ tb := tb_all [101, 103, 105] (by decide +kernel) (by decide +kernel)
theorem fp_X8_9 : FP RX8 9 6 0 true (.array .long) := ⟨RX8, TX8, 3, tyX8, rfl, by decide, uw_6, tb_in 98 (by decide +kernel) (by decide +kernel), rfl, rfl, by decide +kernel, tyX8_ok, nmX8⟩
theorem e_X8_init_12 : DC cX8_init 12 1 13 (.aload_n 0) := ⟨by decide +kernel, rfl⟩
theorem e_X8_init_13 : DC cX8_init 13 2 15 (.bipush 72) := ⟨by decide +kernel, rfl⟩
theorem e_X8_init_15 : DC cX8_init 15 2 17 (.newarray .long) := ⟨by decide +kernel, rfl⟩
theorem e_X8_init_17 : DC cX8_init 17 3 20 (.putfield 15) := ⟨by decide +kernel, rfl⟩
theorem fp_X8_15 : FP RX8 15 6 1 true (.array .long) := ⟨RX8, TX8, 3, tyX8, rfl, by decide, uw_6, tb_in 99 (by decide +kernel) (by decide +kernel), rfl, rfl, by decide +kernel, tyX8_ok, nmX8⟩
theorem e_X8_init_20 : DC cX8_init 20 1 21 (.aload_n 0) := ⟨by decide +kernel, rfl⟩
theorem e_X8_init_21 : DC cX8_init 21 3 24 (.new 18) := ⟨by decide +kernel, rfl⟩
theorem uw_0 : ∀ w ∈ u_ws RX1 TX1 2, w ∈ tb := tb_all [78, 80] (by decide +kernel) (by decide +kernel)
theorem fn_X8_18 : FN RX8 18 0 2 [.long 0, .long 0] := ⟨RX1, TX1, tyX1, rfl, uw_0, tb_in 96 (by decide +kernel) (by decide +kernel), tb_in 69 (by decide +kernel) (by decide +kernel), tb_in 4 (by decide +kernel) (by decide +kernel), tyX1_ok, by decide +kernel⟩
theorem e_X8_init_24 : DC cX8_init 24 1 25 (.dup) := ⟨by decide +kernel, rfl⟩
theorem e_X8_init_25 : DC cX8_init 25 3 28 (.invokespecial 20) := ⟨by decide +kernel, rfl⟩
theorem cb_X1_init : CB yX1_init cX1_init 1 none 0 := ⟨tb_in 72 (by decide +kernel) (by decide +kernel), tb_in 4 (by decide +kernel) (by decide +kernel), by decide +kernel⟩
theorem im_X1_init : Cond.instanceMethod yX1_init ∈ tb := tb_in 71 (by decide +kernel) (by decide +kernel)
theorem e_X8_init_28 : DC cX8_init 28 3 31 (.putfield 21) := ⟨by decide +kernel, rfl⟩
theorem fp_X8_21 : FP RX8 21 6 2 true (.object "LeaseLedger$Amount") := ⟨RX8, TX8, 3, tyX8, rfl, by decide, uw_6, tb_in 100 (by decide +kernel) (by decide +kernel), rfl, rfl, by decide +kernel, tyX8_ok, nmX8⟩
theorem e_X8_init_31 : DC cX8_init 31 1 32 (.return_) := ⟨by decide +kernel, rfl⟩
theorem e_X3_init_0 : DC cX3_init 0 1 1 (.aload_n 0) := ⟨by decide +kernel, rfl⟩
theorem e_X3_init_1 : DC cX3_init 1 3 4 (.invokespecial 5) := ⟨by decide +kernel, rfl⟩
theorem ml_X3_5 : Cond.methodLink RX3 5 objectInit ∈ tb := tb_in 52 (by decide +kernel) (by decide +kernel)
theorem e_X3_init_4 : DC cX3_init 4 1 5 (.aload_n 0) := ⟨by decide +kernel, rfl⟩
theorem e_X3_init_5 : DC cX3_init 5 3 8 (.sipush 360) := ⟨by decide +kernel, rfl⟩
theorem e_X3_init_8 : DC cX3_init 8 2 10 (.newarray .long) := ⟨by decide +kernel, rfl⟩
theorem e_X3_init_10 : DC cX3_init 10 3 13 (.putfield 11) := ⟨by decide +kernel, rfl⟩
theorem uw_2 : ∀ w ∈ u_ws RX3 TX3 3, w ∈ tb := tb_all [58, 60, 62] (by decide +kernel) (by decide +kernel)
theorem fp_X3_11 : FP RX3 11 2 0 true (.array .long) := ⟨RX3, TX3, 3, tyX3, rfl, by decide, uw_2, tb_in 53 (by decide +kernel) (by decide +kernel), rfl, rfl, by decide +kernel, tyX3_ok, nmX3⟩
theorem e_X3_init_13 : DC cX3_init 13 1 14 (.aload_n 0) := ⟨by decide +kernel, rfl⟩
theorem e_X3_init_14 : DC cX3_init 14 2 16 (.bipush 6) := ⟨by decide +kernel, rfl⟩
theorem e_X3_init_16 : DC cX3_init 16 2 18 (.newarray .long) := ⟨by decide +kernel, rfl⟩
theorem e_X3_init_18 : DC cX3_init 18 3 21 (.putfield 15) := ⟨by decide +kernel, rfl⟩
theorem fp_X3_15 : FP RX3 15 2 1 true (.array .long) := ⟨RX3, TX3, 3, tyX3, rfl, by decide, uw_2, tb_in 54 (by decide +kernel) (by decide +kernel), rfl, rfl, by decide +kernel, tyX3_ok, nmX3⟩
theorem e_X3_init_21 : DC cX3_init 21 1 22 (.return_) := ⟨by decide +kernel, rfl⟩
theorem e_X5_init_0 : DC cX5_init 0 1 1 (.aload_n 0) := ⟨by decide +kernel, rfl⟩
theorem e_X5_init_1 : DC cX5_init 1 3 4 (.invokespecial 3) := ⟨by decide +kernel, rfl⟩
theorem ml_X5_3 : Cond.methodLink RX5 3 objectInit ∈ tb := tb_in 87 (by decide +kernel) (by decide +kernel)
theorem e_X5_init_4 : DC cX5_init 4 1 5 (.aload_n 0) := ⟨by decide +kernel, rfl⟩
theorem e_X5_init_5 : DC cX5_init 5 3 8 (.new 9) := ⟨by decide +kernel, rfl⟩
theorem fn_X5_9 : FN RX5 9 0 2 [.long 0, .long 0] := ⟨RX1, TX1, tyX1, rfl, uw_0, tb_in 88 (by decide +kernel) (by decide +kernel), tb_in 69 (by decide +kernel) (by decide +kernel), tb_in 4 (by decide +kernel) (by decide +kernel), tyX1_ok, by decide +kernel⟩
theorem e_X5_init_8 : DC cX5_init 8 1 9 (.dup) := ⟨by decide +kernel, rfl⟩
theorem e_X5_init_9 : DC cX5_init 9 3 12 (.invokespecial 11) := ⟨by decide +kernel, rfl⟩
theorem e_X5_init_12 : DC cX5_init 12 3 15 (.putfield 12) := ⟨by decide +kernel, rfl⟩
theorem uw_3 : ∀ w ∈ u_ws RX5 TX5 18, w ∈ tb := tb_all [160, 162, 164, 166, 168, 170, 172, 174, 176, 178, 180, 182, 184, 186, 188, 190, 192, 194] (by decide +kernel) (by decide +kernel)
theorem fp_X5_12 : FP RX5 12 3 13 true (.object "LeaseLedger$Amount") := ⟨RX5, TX5, 18, tyX5, rfl, by decide, uw_3, tb_in 147 (by decide +kernel) (by decide +kernel), rfl, rfl, by decide +kernel, tyX5_ok, nmX5⟩
theorem e_X5_init_15 : DC cX5_init 15 1 16 (.aload_n 0) := ⟨by decide +kernel, rfl⟩
theorem e_X5_init_16 : DC cX5_init 16 3 19 (.new 9) := ⟨by decide +kernel, rfl⟩
theorem e_X5_init_19 : DC cX5_init 19 1 20 (.dup) := ⟨by decide +kernel, rfl⟩
theorem e_X5_init_20 : DC cX5_init 20 3 23 (.invokespecial 11) := ⟨by decide +kernel, rfl⟩
theorem e_X5_init_23 : DC cX5_init 23 3 26 (.putfield 18) := ⟨by decide +kernel, rfl⟩
theorem fp_X5_18 : FP RX5 18 3 14 true (.object "LeaseLedger$Amount") := ⟨RX5, TX5, 18, tyX5, rfl, by decide, uw_3, tb_in 150 (by decide +kernel) (by decide +kernel), rfl, rfl, by decide +kernel, tyX5_ok, nmX5⟩
theorem e_X5_init_26 : DC cX5_init 26 1 27 (.aload_n 0) := ⟨by decide +kernel, rfl⟩
theorem e_X5_init_27 : DC cX5_init 27 3 30 (.new 21) := ⟨by decide +kernel, rfl⟩
theorem fn_X5_21 : FN RX5 21 6 3 [.null, .null, .null] := ⟨RX8, TX8, tyX8, rfl, uw_6, tb_in 90 (by decide +kernel) (by decide +kernel), tb_in 91 (by decide +kernel) (by decide +kernel), tb_in 6 (by decide +kernel) (by decide +kernel), tyX8_ok, by decide +kernel⟩
theorem e_X5_init_30 : DC cX5_init 30 1 31 (.dup) := ⟨by decide +kernel, rfl⟩
theorem e_X5_init_31 : DC cX5_init 31 3 34 (.invokespecial 23) := ⟨by decide +kernel, rfl⟩
theorem cb_X8_init : CB yX8_init cX8_init 1 none 0 := ⟨tb_in 94 (by decide +kernel) (by decide +kernel), tb_in 6 (by decide +kernel) (by decide +kernel), by decide +kernel⟩
theorem im_X8_init : Cond.instanceMethod yX8_init ∈ tb := tb_in 93 (by decide +kernel) (by decide +kernel)
theorem e_X5_init_34 : DC cX5_init 34 3 37 (.putfield 24) := ⟨by decide +kernel, rfl⟩
theorem fp_X5_24 : FP RX5 24 3 15 true (.object "LeaseLedger$Row") := ⟨RX5, TX5, 18, tyX5, rfl, by decide, uw_3, tb_in 153 (by decide +kernel) (by decide +kernel), rfl, rfl, by decide +kernel, tyX5_ok, nmX5⟩
theorem e_X5_init_37 : DC cX5_init 37 1 38 (.aload_n 0) := ⟨by decide +kernel, rfl⟩
theorem e_X5_init_38 : DC cX5_init 38 3 41 (.new 21) := ⟨by decide +kernel, rfl⟩
theorem e_X5_init_41 : DC cX5_init 41 1 42 (.dup) := ⟨by decide +kernel, rfl⟩
theorem e_X5_init_42 : DC cX5_init 42 3 45 (.invokespecial 23) := ⟨by decide +kernel, rfl⟩
theorem e_X5_init_45 : DC cX5_init 45 3 48 (.putfield 28) := ⟨by decide +kernel, rfl⟩
theorem fp_X5_28 : FP RX5 28 3 16 true (.object "LeaseLedger$Row") := ⟨RX5, TX5, 18, tyX5, rfl, by decide, uw_3, tb_in 156 (by decide +kernel) (by decide +kernel), rfl, rfl, by decide +kernel, tyX5_ok, nmX5⟩
theorem e_X5_init_48 : DC cX5_init 48 1 49 (.aload_n 0) := ⟨by decide +kernel, rfl⟩
theorem e_X5_init_49 : DC cX5_init 49 1 50 (.iconst 5) := ⟨by decide +kernel, rfl⟩
theorem e_X5_init_50 : DC cX5_init 50 2 52 (.newarray .long) := ⟨by decide +kernel, rfl⟩
theorem e_X5_init_52 : DC cX5_init 52 3 55 (.putfield 31) := ⟨by decide +kernel, rfl⟩
theorem fp_X5_31 : FP RX5 31 3 17 true (.array .long) := ⟨RX5, TX5, 18, tyX5, rfl, by decide, uw_3, tb_in 157 (by decide +kernel) (by decide +kernel), rfl, rfl, by decide +kernel, tyX5_ok, nmX5⟩
theorem e_X5_init_55 : DC cX5_init 55 1 56 (.return_) := ⟨by decide +kernel, rfl⟩
set_option maxRecDepth 20000 in
theorem k_Amount_init (l : Launch) (V : VX) (N : Nat) (σ : Mem) (a : Nat)  : Ct l V yX1_init cX1_init 1 none 1 0 0 N σ [.ref a] (fun r τ => r = none ∧ τ = σ) := by
  refine Ct.of (by decide) (Nat.le_of_ble_eq_true rfl) [(0, .ref a)] rfl (fun X hX F hQ => ?_)
  refine m_aload_n F rfl e_X1_init_0 ?_
  refine m_objInit F e_X1_init_1 ml_X1_1 im_obj co_obj (Nat.le_of_ble_eq_true rfl) (Nat.le_of_ble_eq_true rfl) ?_
  exact m_vret F hQ e_X1_init_4 (⟨rfl, rfl⟩)
set_option maxRecDepth 20000 in
theorem k_Option_init (l : Launch) (V : VX) (N : Nat) (σ : Mem) (a : Nat)  : Ct l V yX6_init cX6_init 1 none 1 0 0 N σ [.ref a] (fun r τ => r = none ∧ τ = σ) := by
  refine Ct.of (by decide) (Nat.le_of_ble_eq_true rfl) [(0, .ref a)] rfl (fun X hX F hQ => ?_)
  refine m_aload_n F rfl e_X6_init_0 ?_
  refine m_objInit F e_X6_init_1 ml_X6_1 im_obj co_obj (Nat.le_of_ble_eq_true rfl) (Nat.le_of_ble_eq_true rfl) ?_
  exact m_vret F hQ e_X6_init_4 (⟨rfl, rfl⟩)
set_option maxRecDepth 20000 in
theorem k_Row_init (l : Launch) (V : VX) (N : Nat) (σ : Mem) (a : Nat) (ha : a < N) (h0 : σ a = some (ob 6 [.null, .null, .null])) : Ct l V yX8_init cX8_init 1 none 2 3 146 N σ [.ref a] (fun r τ => r = none ∧ τ a = some (ob 6 [.ref N, .ref (N + 1), .ref (N + 2)]) ∧ τ N = some (aJ V 72 (fun _ => 0)) ∧ τ (N + 1) = some (aJ V 72 (fun _ => 0)) ∧ τ (N + 2) = some (ob 0 [.long 0, .long 0]) ∧ ∀ q : Nat, q ≠ a → q < N → τ q = σ q) := by
  refine Ct.of (by decide) (Nat.le_of_ble_eq_true rfl) [(0, .ref a)] rfl (fun X hX F hQ => ?_)
  refine m_aload_n F rfl e_X8_init_0 ?_
  refine m_objInit F e_X8_init_1 ml_X8_3 im_obj co_obj (Nat.le_of_ble_eq_true rfl) (Nat.le_of_ble_eq_true rfl) ?_
  refine m_aload_n F rfl e_X8_init_4 ?_
  refine m_bipush F (v := 72) (by decide) e_X8_init_5 ?_
  refine m_newJ F (len := 72) e_X8_init_7 arr_long (by decide) (by decide) (by decide) (k' := 1) (z' := 72) (N' := N + 1) rfl rfl rfl (Nat.le_of_ble_eq_true rfl) (Nat.le_of_ble_eq_true rfl) ?_
  refine m_putF F e_X8_init_9 fp_X8_9 rfl rfl (ru_ne (by omega) h0) rfl rfl (Nat.le_of_ble_eq_true rfl) (fs' := [.ref N, .null, .null]) rfl rfl ?_
  refine m_aload_n F rfl e_X8_init_12 ?_
  refine m_bipush F (v := 72) (by decide) e_X8_init_13 ?_
  refine m_newJ F (len := 72) e_X8_init_15 arr_long (by decide) (by decide) (by decide) (k' := 2) (z' := 144) (N' := N + 2) rfl rfl rfl (Nat.le_of_ble_eq_true rfl) (Nat.le_of_ble_eq_true rfl) ?_
  refine m_putF F e_X8_init_17 fp_X8_15 rfl rfl (ru_ne (by omega) ru_eq) rfl rfl (Nat.le_of_ble_eq_true rfl) (fs' := [.ref N, .ref (N + 1), .null]) rfl rfl ?_
  refine m_aload_n F rfl e_X8_init_20 ?_
  refine m_new F e_X8_init_21 fn_X8_18 (k' := 3) (z' := 146) (N' := N + 3) rfl rfl rfl (Nat.le_of_ble_eq_true rfl) (Nat.le_of_ble_eq_true rfl) ?_
  refine m_dup F rfl e_X8_init_24 ?_
  refine m_callIN F e_X8_init_25 (k_Amount_init (x_l X) V _ _ (N + 2)) cb_X1_init (by simp [nestW, yX8_init]) im_X1_init rfl rfl (rest := [.ref (N + 2), .ref a]) rfl (Nat.le_of_ble_eq_true rfl) ⟨Nat.le_of_ble_eq_true rfl, Nat.le_of_ble_eq_true rfl⟩ ⟨Nat.le_of_ble_eq_true rfl, Nat.le_of_ble_eq_true rfl⟩ (k' := 3) (z' := 146) (N' := N + 3) rfl rfl rfl (fun r τ hp => ?_)
  obtain ⟨rfl, rfl⟩ := hp
  refine m_putF F e_X8_init_28 fp_X8_21 rfl rfl (ru_ne (by omega) ru_eq) rfl rfl (Nat.le_of_ble_eq_true rfl) (fs' := [.ref N, .ref (N + 1), .ref (N + 2)]) rfl rfl ?_
  exact m_vret F hQ e_X8_init_31 (⟨rfl, ru_eq, (ru_ne (by omega) (ru_ne (by omega) (ru_ne (by omega) (ru_ne (by omega) (ru_ne (by omega) ru_eq))))), (ru_ne (by omega) (ru_ne (by omega) (ru_ne (by omega) ru_eq))), (ru_ne (by omega) ru_eq), fun q h1 h2 => (ru_ne (by omega) (ru_ne (by omega) (ru_ne (by omega) (ru_ne (by omega) (ru_ne (by omega) (ru_ne (by omega) rfl))))))⟩)
set_option maxRecDepth 20000 in
theorem k_Journal_init (l : Launch) (V : VX) (N : Nat) (σ : Mem) (a : Nat) (ha : a < N) (h0 : σ a = some (ob 2 [.null, .null, .int 0])) : Ct l V yX3_init cX3_init 1 none 1 2 366 N σ [.ref a] (fun r τ => r = none ∧ τ a = some (ob 2 [.ref N, .ref (N + 1), .int 0]) ∧ τ N = some (aJ V 360 (fun _ => 0)) ∧ τ (N + 1) = some (aJ V 6 (fun _ => 0)) ∧ ∀ q : Nat, q ≠ a → q < N → τ q = σ q) := by
  refine Ct.of (by decide) (Nat.le_of_ble_eq_true rfl) [(0, .ref a)] rfl (fun X hX F hQ => ?_)
  refine m_aload_n F rfl e_X3_init_0 ?_
  refine m_objInit F e_X3_init_1 ml_X3_5 im_obj co_obj (Nat.le_of_ble_eq_true rfl) (Nat.le_of_ble_eq_true rfl) ?_
  refine m_aload_n F rfl e_X3_init_4 ?_
  refine m_sipush F (v := 360) (by decide) e_X3_init_5 ?_
  refine m_newJ F (len := 360) e_X3_init_8 arr_long (by decide) (by decide) (by decide) (k' := 1) (z' := 360) (N' := N + 1) rfl rfl rfl (Nat.le_of_ble_eq_true rfl) (Nat.le_of_ble_eq_true rfl) ?_
  refine m_putF F e_X3_init_10 fp_X3_11 rfl rfl (ru_ne (by omega) h0) rfl rfl (Nat.le_of_ble_eq_true rfl) (fs' := [.ref N, .null, .int 0]) rfl rfl ?_
  refine m_aload_n F rfl e_X3_init_13 ?_
  refine m_bipush F (v := 6) (by decide) e_X3_init_14 ?_
  refine m_newJ F (len := 6) e_X3_init_16 arr_long (by decide) (by decide) (by decide) (k' := 2) (z' := 366) (N' := N + 2) rfl rfl rfl (Nat.le_of_ble_eq_true rfl) (Nat.le_of_ble_eq_true rfl) ?_
  refine m_putF F e_X3_init_18 fp_X3_15 rfl rfl (ru_ne (by omega) ru_eq) rfl rfl (Nat.le_of_ble_eq_true rfl) (fs' := [.ref N, .ref (N + 1), .int 0]) rfl rfl ?_
  exact m_vret F hQ e_X3_init_21 (⟨rfl, ru_eq, (ru_ne (by omega) (ru_ne (by omega) (ru_ne (by omega) ru_eq))), (ru_ne (by omega) ru_eq), fun q h1 h2 => (ru_ne (by omega) (ru_ne (by omega) (ru_ne (by omega) (ru_ne (by omega) rfl))))⟩)
set_option maxRecDepth 20000 in
theorem k_Lease_init (l : Launch) (V : VX) (N : Nat) (σ : Mem) (a : Nat) (ha : a < N) (h0 : σ a = some (ob 3 [.int 0, .int 0, .int 0, .int 0, .int 0, .int 0, .int 0, .int 0, .int 0, .int 0, .int 0, .int 0, .int 0, .null, .null, .null, .null, .null])) : Ct l V yX5_init cX5_init 1 none 3 11 307 N σ [.ref a] (fun r τ => r = none ∧ τ a = some (ob 3 [.int 0, .int 0, .int 0, .int 0, .int 0, .int 0, .int 0, .int 0, .int 0, .int 0, .int 0, .int 0, .int 0, .ref N, .ref (N + 1), .ref (N + 2), .ref (N + 6), .ref (N + 10)]) ∧ τ N = some (ob 0 [.long 0, .long 0]) ∧ τ (N + 1) = some (ob 0 [.long 0, .long 0]) ∧ τ (N + 2) = some (ob 6 [.ref (N + 3), .ref (N + 4), .ref (N + 5)]) ∧ τ (N + 3) = some (aJ V 72 (fun _ => 0)) ∧ τ (N + 4) = some (aJ V 72 (fun _ => 0)) ∧ τ (N + 5) = some (ob 0 [.long 0, .long 0]) ∧ τ (N + 6) = some (ob 6 [.ref (N + 7), .ref (N + 8), .ref (N + 9)]) ∧ τ (N + 7) = some (aJ V 72 (fun _ => 0)) ∧ τ (N + 8) = some (aJ V 72 (fun _ => 0)) ∧ τ (N + 9) = some (ob 0 [.long 0, .long 0]) ∧ τ (N + 10) = some (aJ V 5 (fun _ => 0)) ∧ ∀ q : Nat, q ≠ a → q < N → τ q = σ q) := by
  refine Ct.of (by decide) (Nat.le_of_ble_eq_true rfl) [(0, .ref a)] rfl (fun X hX F hQ => ?_)
  refine m_aload_n F rfl e_X5_init_0 ?_
  refine m_objInit F e_X5_init_1 ml_X5_3 im_obj co_obj (Nat.le_of_ble_eq_true rfl) (Nat.le_of_ble_eq_true rfl) ?_
  refine m_aload_n F rfl e_X5_init_4 ?_
  refine m_new F e_X5_init_5 fn_X5_9 (k' := 1) (z' := 2) (N' := N + 1) rfl rfl rfl (Nat.le_of_ble_eq_true rfl) (Nat.le_of_ble_eq_true rfl) ?_
  refine m_dup F rfl e_X5_init_8 ?_
  refine m_callIN F e_X5_init_9 (k_Amount_init (x_l X) V _ _ N) cb_X1_init (by simp [nestW, yX5_init]) im_X1_init rfl rfl (rest := [.ref N, .ref a]) rfl (Nat.le_of_ble_eq_true rfl) ⟨Nat.le_of_ble_eq_true rfl, Nat.le_of_ble_eq_true rfl⟩ ⟨Nat.le_of_ble_eq_true rfl, Nat.le_of_ble_eq_true rfl⟩ (k' := 1) (z' := 2) (N' := N + 1) rfl rfl rfl (fun r τ hp => ?_)
  obtain ⟨rfl, rfl⟩ := hp
  refine m_putF F e_X5_init_12 fp_X5_12 rfl rfl (ru_ne (by omega) h0) rfl rfl (Nat.le_of_ble_eq_true rfl) (fs' := [.int 0, .int 0, .int 0, .int 0, .int 0, .int 0, .int 0, .int 0, .int 0, .int 0, .int 0, .int 0, .int 0, .ref N, .null, .null, .null, .null]) rfl rfl ?_
  refine m_aload_n F rfl e_X5_init_15 ?_
  refine m_new F e_X5_init_16 fn_X5_9 (k' := 2) (z' := 4) (N' := N + 2) rfl rfl rfl (Nat.le_of_ble_eq_true rfl) (Nat.le_of_ble_eq_true rfl) ?_
  refine m_dup F rfl e_X5_init_19 ?_
  refine m_callIN F e_X5_init_20 (k_Amount_init (x_l X) V _ _ (N + 1)) cb_X1_init (by simp [nestW, yX5_init]) im_X1_init rfl rfl (rest := [.ref (N + 1), .ref a]) rfl (Nat.le_of_ble_eq_true rfl) ⟨Nat.le_of_ble_eq_true rfl, Nat.le_of_ble_eq_true rfl⟩ ⟨Nat.le_of_ble_eq_true rfl, Nat.le_of_ble_eq_true rfl⟩ (k' := 2) (z' := 4) (N' := N + 2) rfl rfl rfl (fun r τ hp => ?_)
  obtain ⟨rfl, rfl⟩ := hp
  refine m_putF F e_X5_init_23 fp_X5_18 rfl rfl (ru_ne (by omega) ru_eq) rfl rfl (Nat.le_of_ble_eq_true rfl) (fs' := [.int 0, .int 0, .int 0, .int 0, .int 0, .int 0, .int 0, .int 0, .int 0, .int 0, .int 0, .int 0, .int 0, .ref N, .ref (N + 1), .null, .null, .null]) rfl rfl ?_
  refine m_aload_n F rfl e_X5_init_26 ?_
  refine m_new F e_X5_init_27 fn_X5_21 (k' := 3) (z' := 7) (N' := N + 3) rfl rfl rfl (Nat.le_of_ble_eq_true rfl) (Nat.le_of_ble_eq_true rfl) ?_
  refine m_dup F rfl e_X5_init_30 ?_
  refine m_callIN F e_X5_init_31 (k_Row_init (x_l X) V (N + 3) _ (N + 2) (by omega) ru_eq) cb_X8_init (by simp [nestW, yX5_init]) im_X8_init rfl rfl (rest := [.ref (N + 2), .ref a]) rfl (Nat.le_of_ble_eq_true rfl) ⟨Nat.le_of_ble_eq_true rfl, Nat.le_of_ble_eq_true rfl⟩ ⟨Nat.le_of_ble_eq_true rfl, Nat.le_of_ble_eq_true rfl⟩ (k' := 6) (z' := 153) (N' := N + 6) rfl rfl rfl (fun r τ1 hp => ?_)
  obtain ⟨rfl, h2, h3, h4, h5, hf6⟩ := hp
  have g7 : τ1 a = some (ob 3 [.int 0, .int 0, .int 0, .int 0, .int 0, .int 0, .int 0, .int 0, .int 0, .int 0, .int 0, .int 0, .int 0, .ref N, .ref (N + 1), .null, .null, .null]) := (hf6 a (by omega) (by omega)).trans (ru_ne (by omega) ru_eq)
  have g8 : τ1 N = some (ob 0 [.long 0, .long 0]) := (hf6 N (by omega) (by omega)).trans (ru_ne (by omega) (ru_ne (by omega) (ru_ne (by omega) (ru_ne (by omega) ru_eq))))
  have g9 : τ1 (N + 1) = some (ob 0 [.long 0, .long 0]) := (hf6 (N + 1) (by omega) (by omega)).trans (ru_ne (by omega) (ru_ne (by omega) ru_eq))
  have fr10 : ∀ q : Nat, q ≠ a → q < N → τ1 q = σ q := fun q h1 h2 => (hf6 q (by omega) (by omega)).trans (ru_ne (by omega) (ru_ne (by omega) (ru_ne (by omega) (ru_ne (by omega) (ru_ne (by omega) rfl)))))
  refine m_putF F e_X5_init_34 fp_X5_24 rfl rfl g7 rfl rfl (Nat.le_of_ble_eq_true rfl) (fs' := [.int 0, .int 0, .int 0, .int 0, .int 0, .int 0, .int 0, .int 0, .int 0, .int 0, .int 0, .int 0, .int 0, .ref N, .ref (N + 1), .ref (N + 2), .null, .null]) rfl rfl ?_
  refine m_aload_n F rfl e_X5_init_37 ?_
  refine m_new F e_X5_init_38 fn_X5_21 (k' := 7) (z' := 156) (N' := N + 7) rfl rfl rfl (Nat.le_of_ble_eq_true rfl) (Nat.le_of_ble_eq_true rfl) ?_
  refine m_dup F rfl e_X5_init_41 ?_
  refine m_callIN F e_X5_init_42 (k_Row_init (x_l X) V (N + 7) _ (N + 6) (by omega) ru_eq) cb_X8_init (by simp [nestW, yX5_init]) im_X8_init rfl rfl (rest := [.ref (N + 6), .ref a]) rfl (Nat.le_of_ble_eq_true rfl) ⟨Nat.le_of_ble_eq_true rfl, Nat.le_of_ble_eq_true rfl⟩ ⟨Nat.le_of_ble_eq_true rfl, Nat.le_of_ble_eq_true rfl⟩ (k' := 10) (z' := 302) (N' := N + 10) rfl rfl rfl (fun r τ11 hp => ?_)
  obtain ⟨rfl, h12, h13, h14, h15, hf16⟩ := hp
  have g17 : τ11 a = some (ob 3 [.int 0, .int 0, .int 0, .int 0, .int 0, .int 0, .int 0, .int 0, .int 0, .int 0, .int 0, .int 0, .int 0, .ref N, .ref (N + 1), .ref (N + 2), .null, .null]) := (hf16 a (by omega) (by omega)).trans (ru_ne (by omega) ru_eq)
  have g18 : τ11 N = some (ob 0 [.long 0, .long 0]) := (hf16 N (by omega) (by omega)).trans (ru_ne (by omega) (ru_ne (by omega) g8))
  have g19 : τ11 (N + 1) = some (ob 0 [.long 0, .long 0]) := (hf16 (N + 1) (by omega) (by omega)).trans (ru_ne (by omega) (ru_ne (by omega) g9))
  have g20 : τ11 (N + 2) = some (ob 6 [.ref (N + 3), .ref (N + 4), .ref (N + 5)]) := (hf16 (N + 2) (by omega) (by omega)).trans (ru_ne (by omega) (ru_ne (by omega) h2))
  have g21 : τ11 (N + 3) = some (aJ V 72 (fun _ => 0)) := (hf16 (N + 3) (by omega) (by omega)).trans (ru_ne (by omega) (ru_ne (by omega) h3))
  have g22 : τ11 (N + 4) = some (aJ V 72 (fun _ => 0)) := (hf16 (N + 4) (by omega) (by omega)).trans (ru_ne (by omega) (ru_ne (by omega) h4))
  have g23 : τ11 (N + 5) = some (ob 0 [.long 0, .long 0]) := (hf16 (N + 5) (by omega) (by omega)).trans (ru_ne (by omega) (ru_ne (by omega) h5))
  have fr24 : ∀ q : Nat, q ≠ a → q < N → τ11 q = σ q := fun q h1 h2 => (hf16 q (by omega) (by omega)).trans (ru_ne (by omega) (ru_ne (by omega) (fr10 q h1 h2)))
  refine m_putF F e_X5_init_45 fp_X5_28 rfl rfl g17 rfl rfl (Nat.le_of_ble_eq_true rfl) (fs' := [.int 0, .int 0, .int 0, .int 0, .int 0, .int 0, .int 0, .int 0, .int 0, .int 0, .int 0, .int 0, .int 0, .ref N, .ref (N + 1), .ref (N + 2), .ref (N + 6), .null]) rfl rfl ?_
  refine m_aload_n F rfl e_X5_init_48 ?_
  refine m_iconst F (v := 5) (by decide) e_X5_init_49 ?_
  refine m_newJ F (len := 5) e_X5_init_50 arr_long (by decide) (by decide) (by decide) (k' := 11) (z' := 307) (N' := N + 11) rfl rfl rfl (Nat.le_of_ble_eq_true rfl) (Nat.le_of_ble_eq_true rfl) ?_
  refine m_putF F e_X5_init_52 fp_X5_31 rfl rfl (ru_ne (by omega) ru_eq) rfl rfl (Nat.le_of_ble_eq_true rfl) (fs' := [.int 0, .int 0, .int 0, .int 0, .int 0, .int 0, .int 0, .int 0, .int 0, .int 0, .int 0, .int 0, .int 0, .ref N, .ref (N + 1), .ref (N + 2), .ref (N + 6), .ref (N + 10)]) rfl rfl ?_
  exact m_vret F hQ e_X5_init_55 (⟨rfl, ru_eq, (ru_ne (by omega) (ru_ne (by omega) (ru_ne (by omega) g18))), (ru_ne (by omega) (ru_ne (by omega) (ru_ne (by omega) g19))), (ru_ne (by omega) (ru_ne (by omega) (ru_ne (by omega) g20))), (ru_ne (by omega) (ru_ne (by omega) (ru_ne (by omega) g21))), (ru_ne (by omega) (ru_ne (by omega) (ru_ne (by omega) g22))), (ru_ne (by omega) (ru_ne (by omega) (ru_ne (by omega) g23))), (ru_ne (by omega) (ru_ne (by omega) (ru_ne (by omega) h12))), (ru_ne (by omega) (ru_ne (by omega) (ru_ne (by omega) h13))), (ru_ne (by omega) (ru_ne (by omega) (ru_ne (by omega) h14))), (ru_ne (by omega) (ru_ne (by omega) (ru_ne (by omega) h15))), (ru_ne (by omega) ru_eq), fun q h1 h2 => (ru_ne (by omega) (ru_ne (by omega) (ru_ne (by omega) (fr24 q h1 h2))))⟩)
