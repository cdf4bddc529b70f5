theorem e_X9_init_0 : DC cX9_init 0 1 1 (.aload_n 0) := ⟨by decide +kernel, rfl⟩
theorem e_X9_init_1 : DC cX9_init 1 3 4 (.invokespecial 1) := ⟨by decide +kernel, rfl⟩
theorem ml_X9_1 : Cond.methodLink RX9 1 objectInit ∈ tb := tb_in 34 (by decide +kernel) (by decide +kernel)
theorem e_X9_init_4 : DC cX9_init 4 1 5 (.aload_n 0) := ⟨by decide +kernel, rfl⟩
theorem e_X9_init_5 : DC cX9_init 5 3 8 (.sipush 700) := ⟨by decide +kernel, rfl⟩
theorem e_X9_init_8 : DC cX9_init 8 2 10 (.newarray .byte) := ⟨by decide +kernel, rfl⟩
theorem arr_byte : Cond.arrayClass .byte ∈ tb := tb_in 65 (by decide +kernel) (by decide +kernel)
theorem e_X9_init_10 : DC cX9_init 10 3 13 (.putfield 9) := ⟨by decide +kernel, rfl⟩
theorem uw_7 : ∀ w ∈ u_ws RX9 TX9 13, w ∈ tb := tb_all [343, 345, 347, 349, 351, 353, 355, 357, 359, 361, 363, 365, 367] (by decide +kernel) (by decide +kernel)
theorem fp_X9_9 : FP RX9 9 7 0 true (.array .byte) := ⟨RX9, TX9, 13, tyX9, rfl, by decide, uw_7, tb_in 330 (by decide +kernel) (by decide +kernel), rfl, rfl, by decide +kernel, tyX9_ok, nmX9⟩
theorem e_X9_init_13 : DC cX9_init 13 1 14 (.aload_n 0) := ⟨by decide +kernel, rfl⟩
theorem e_X9_init_14 : DC cX9_init 14 3 17 (.new 13) := ⟨by decide +kernel, rfl⟩
theorem fn_X9_13 : FN RX9 13 1 13 [.null, .null, .null, .null, .null, .null, .null, .null, .int 0, .int 0, .int 0, .int 0, .int 0] := ⟨RX2, TX2, tyX2, rfl, uw_1, tb_in 37 (by decide +kernel) (by decide +kernel), tb_in 38 (by decide +kernel) (by decide +kernel), tb_in 2 (by decide +kernel) (by decide +kernel), tyX2_ok, by decide +kernel⟩
theorem e_X9_init_17 : DC cX9_init 17 1 18 (.dup) := ⟨by decide +kernel, rfl⟩
theorem e_X9_init_18 : DC cX9_init 18 3 21 (.invokespecial 15) := ⟨by decide +kernel, rfl⟩
theorem cb_X2_init : CB yX2_init cX2_init 2 none 0 := ⟨tb_in 41 (by decide +kernel) (by decide +kernel), tb_in 2 (by decide +kernel) (by decide +kernel), by decide +kernel⟩
theorem ml_X9_15 : Cond.methodLink RX9 15 yX2_init ∈ tb := tb_in 39 (by decide +kernel) (by decide +kernel)
theorem im_X2_init : Cond.instanceMethod yX2_init ∈ tb := tb_in 40 (by decide +kernel) (by decide +kernel)
theorem e_X9_init_21 : DC cX9_init 21 3 24 (.putfield 16) := ⟨by decide +kernel, rfl⟩
theorem fp_X9_16 : FP RX9 16 7 2 false (.object "LeaseLedger$Book") := ⟨RX9, TX9, 13, tyX9, rfl, by decide, uw_7, tb_in 332 (by decide +kernel) (by decide +kernel), rfl, rfl, by decide +kernel, tyX9_ok, nmX9⟩
theorem e_X9_init_24 : DC cX9_init 24 1 25 (.aload_n 0) := ⟨by decide +kernel, rfl⟩
theorem e_X9_init_25 : DC cX9_init 25 3 28 (.new 13) := ⟨by decide +kernel, rfl⟩
theorem e_X9_init_28 : DC cX9_init 28 1 29 (.dup) := ⟨by decide +kernel, rfl⟩
theorem e_X9_init_29 : DC cX9_init 29 3 32 (.invokespecial 15) := ⟨by decide +kernel, rfl⟩
theorem e_X9_init_32 : DC cX9_init 32 3 35 (.putfield 20) := ⟨by decide +kernel, rfl⟩
theorem fp_X9_20 : FP RX9 20 7 3 false (.object "LeaseLedger$Book") := ⟨RX9, TX9, 13, tyX9, rfl, by decide, uw_7, tb_in 333 (by decide +kernel) (by decide +kernel), rfl, rfl, by decide +kernel, tyX9_ok, nmX9⟩
theorem e_X9_init_35 : DC cX9_init 35 1 36 (.aload_n 0) := ⟨by decide +kernel, rfl⟩
theorem e_X9_init_36 : DC cX9_init 36 3 39 (.new 23) := ⟨by decide +kernel, rfl⟩
theorem fn_X9_23 : FN RX9 23 5 13 [.null, .int 0, .null, .null, .int 0, .int 0, .int 0, .int 0, .int 0, .int 0, .int 0, .int 0, .int 0] := ⟨RX7, TX7, tyX7, rfl, uw_5, tb_in 278 (by decide +kernel) (by decide +kernel), tb_in 279 (by decide +kernel) (by decide +kernel), tb_in 9 (by decide +kernel) (by decide +kernel), tyX7_ok, by decide +kernel⟩
theorem e_X9_init_39 : DC cX9_init 39 1 40 (.dup) := ⟨by decide +kernel, rfl⟩
theorem e_X9_init_40 : DC cX9_init 40 1 41 (.aload_n 0) := ⟨by decide +kernel, rfl⟩
theorem e_X9_init_41 : DC cX9_init 41 3 44 (.getfield 9) := ⟨by decide +kernel, rfl⟩
theorem fl_X9_9 : FL RX9 9 7 0 := ⟨RX9, TX9, 13, rfl, by decide, uw_7, tb_in 330 (by decide +kernel) (by decide +kernel), rfl⟩
theorem e_X9_init_44 : DC cX9_init 44 1 45 (.aload_n 0) := ⟨by decide +kernel, rfl⟩
theorem e_X9_init_45 : DC cX9_init 45 3 48 (.getfield 20) := ⟨by decide +kernel, rfl⟩
theorem fl_X9_20 : FL RX9 20 7 3 := ⟨RX9, TX9, 13, rfl, by decide, uw_7, tb_in 333 (by decide +kernel) (by decide +kernel), rfl⟩
theorem e_X9_init_48 : DC cX9_init 48 3 51 (.invokespecial 25) := ⟨by decide +kernel, rfl⟩
theorem cb_X7_init : CB yX7_init cX7_init 3 none 2 := ⟨tb_in 282 (by decide +kernel) (by decide +kernel), tb_in 9 (by decide +kernel) (by decide +kernel), by decide +kernel⟩
theorem ml_X9_25 : Cond.methodLink RX9 25 yX7_init ∈ tb := tb_in 280 (by decide +kernel) (by decide +kernel)
theorem im_X7_init : Cond.instanceMethod yX7_init ∈ tb := tb_in 281 (by decide +kernel) (by decide +kernel)
theorem e_X9_init_51 : DC cX9_init 51 3 54 (.putfield 28) := ⟨by decide +kernel, rfl⟩
theorem fp_X9_28 : FP RX9 28 7 4 true (.object "LeaseLedger$Reader") := ⟨RX9, TX9, 13, tyX9, rfl, by decide, uw_7, tb_in 334 (by decide +kernel) (by decide +kernel), rfl, rfl, by decide +kernel, tyX9_ok, nmX9⟩
theorem e_X9_init_54 : DC cX9_init 54 1 55 (.aload_n 0) := ⟨by decide +kernel, rfl⟩
theorem e_X9_init_55 : DC cX9_init 55 3 58 (.new 13) := ⟨by decide +kernel, rfl⟩
theorem e_X9_init_58 : DC cX9_init 58 1 59 (.dup) := ⟨by decide +kernel, rfl⟩
theorem e_X9_init_59 : DC cX9_init 59 3 62 (.invokespecial 15) := ⟨by decide +kernel, rfl⟩
theorem e_X9_init_62 : DC cX9_init 62 3 65 (.putfield 32) := ⟨by decide +kernel, rfl⟩
theorem fp_X9_32 : FP RX9 32 7 5 true (.object "LeaseLedger$Book") := ⟨RX9, TX9, 13, tyX9, rfl, by decide, uw_7, tb_in 335 (by decide +kernel) (by decide +kernel), rfl, rfl, by decide +kernel, tyX9_ok, nmX9⟩
theorem e_X9_init_65 : DC cX9_init 65 1 66 (.aload_n 0) := ⟨by decide +kernel, rfl⟩
theorem e_X9_init_66 : DC cX9_init 66 2 68 (.bipush 20) := ⟨by decide +kernel, rfl⟩
theorem e_X9_init_68 : DC cX9_init 68 3 71 (.anewarray 13) := ⟨by decide +kernel, rfl⟩
theorem cl_X9_13 : Cond.classLink RX9 13 RX2 ∈ tb := tb_in 37 (by decide +kernel) (by decide +kernel)
theorem e_X9_init_71 : DC cX9_init 71 3 74 (.putfield 35) := ⟨by decide +kernel, rfl⟩
theorem fp_X9_35 : FP RX9 35 7 7 true (.array (.object "LeaseLedger$Book")) := ⟨RX9, TX9, 13, tyX9, rfl, by decide, uw_7, tb_in 337 (by decide +kernel) (by decide +kernel), rfl, rfl, by decide +kernel, tyX9_ok, nmX9⟩
theorem e_X9_init_74 : DC cX9_init 74 1 75 (.aload_n 0) := ⟨by decide +kernel, rfl⟩
theorem e_X9_init_75 : DC cX9_init 75 3 78 (.new 39) := ⟨by decide +kernel, rfl⟩
theorem fn_X9_39 : FN RX9 39 0 2 [.long 0, .long 0] := ⟨RX1, TX1, tyX1, rfl, uw_0, tb_in 328 (by decide +kernel) (by decide +kernel), tb_in 69 (by decide +kernel) (by decide +kernel), tb_in 4 (by decide +kernel) (by decide +kernel), tyX1_ok, by decide +kernel⟩
theorem e_X9_init_78 : DC cX9_init 78 1 79 (.dup) := ⟨by decide +kernel, rfl⟩
theorem e_X9_init_79 : DC cX9_init 79 3 82 (.invokespecial 41) := ⟨by decide +kernel, rfl⟩
theorem e_X9_init_82 : DC cX9_init 82 3 85 (.putfield 42) := ⟨by decide +kernel, rfl⟩
theorem fp_X9_42 : FP RX9 42 7 10 true (.object "LeaseLedger$Amount") := ⟨RX9, TX9, 13, tyX9, rfl, by decide, uw_7, tb_in 340 (by decide +kernel) (by decide +kernel), rfl, rfl, by decide +kernel, tyX9_ok, nmX9⟩
theorem e_X9_init_85 : DC cX9_init 85 1 86 (.aload_n 0) := ⟨by decide +kernel, rfl⟩
theorem e_X9_init_86 : DC cX9_init 86 3 89 (.new 39) := ⟨by decide +kernel, rfl⟩
theorem e_X9_init_89 : DC cX9_init 89 1 90 (.dup) := ⟨by decide +kernel, rfl⟩
theorem e_X9_init_90 : DC cX9_init 90 3 93 (.invokespecial 41) := ⟨by decide +kernel, rfl⟩
theorem e_X9_init_93 : DC cX9_init 93 3 96 (.putfield 46) := ⟨by decide +kernel, rfl⟩
theorem fp_X9_46 : FP RX9 46 7 11 true (.object "LeaseLedger$Amount") := ⟨RX9, TX9, 13, tyX9, rfl, by decide, uw_7, tb_in 341 (by decide +kernel) (by decide +kernel), rfl, rfl, by decide +kernel, tyX9_ok, nmX9⟩
theorem e_X9_init_96 : DC cX9_init 96 1 97 (.aload_n 0) := ⟨by decide +kernel, rfl⟩
theorem e_X9_init_97 : DC cX9_init 97 3 100 (.new 39) := ⟨by decide +kernel, rfl⟩
theorem e_X9_init_100 : DC cX9_init 100 1 101 (.dup) := ⟨by decide +kernel, rfl⟩
theorem e_X9_init_101 : DC cX9_init 101 3 104 (.invokespecial 41) := ⟨by decide +kernel, rfl⟩
theorem e_X9_init_104 : DC cX9_init 104 3 107 (.putfield 49) := ⟨by decide +kernel, rfl⟩
theorem fp_X9_49 : FP RX9 49 7 12 true (.object "LeaseLedger$Amount") := ⟨RX9, TX9, 13, tyX9, rfl, by decide, uw_7, tb_in 342 (by decide +kernel) (by decide +kernel), rfl, rfl, by decide +kernel, tyX9_ok, nmX9⟩
theorem e_X9_init_107 : DC cX9_init 107 1 108 (.iconst 0) := ⟨by decide +kernel, rfl⟩
theorem e_X9_init_108 : DC cX9_init 108 1 109 (.istore_n 1) := ⟨by decide +kernel, rfl⟩
theorem e_X9_init_109 : DC cX9_init 109 1 110 (.iload_n 1) := ⟨by decide +kernel, rfl⟩
theorem e_X9_init_110 : DC cX9_init 110 2 112 (.bipush 20) := ⟨by decide +kernel, rfl⟩
theorem e_X9_init_112 : DJ cX9_init 112 134 115 (.if_icmp .ge) := DJ.mk 22 (by decide +kernel) (by decide) rfl
theorem e_X9_init_115 : DC cX9_init 115 1 116 (.aload_n 0) := ⟨by decide +kernel, rfl⟩
theorem e_X9_init_116 : DC cX9_init 116 3 119 (.getfield 35) := ⟨by decide +kernel, rfl⟩
theorem fl_X9_35 : FL RX9 35 7 7 := ⟨RX9, TX9, 13, rfl, by decide, uw_7, tb_in 337 (by decide +kernel) (by decide +kernel), rfl⟩
theorem e_X9_init_119 : DC cX9_init 119 1 120 (.iload_n 1) := ⟨by decide +kernel, rfl⟩
theorem e_X9_init_120 : DC cX9_init 120 3 123 (.new 13) := ⟨by decide +kernel, rfl⟩
theorem e_X9_init_123 : DC cX9_init 123 1 124 (.dup) := ⟨by decide +kernel, rfl⟩
theorem e_X9_init_124 : DC cX9_init 124 3 127 (.invokespecial 15) := ⟨by decide +kernel, rfl⟩
theorem e_X9_init_127 : DC cX9_init 127 1 128 (.aastore) := ⟨by decide +kernel, rfl⟩
theorem e_X9_init_128 : DC cX9_init 128 3 131 (.iinc 1 1) := ⟨by decide +kernel, rfl⟩
theorem e_X9_init_131 : DJ cX9_init 131 109 134 .goto := DJ.mk (-22) (by decide +kernel) (by decide) rfl
theorem e_X9_init_134 : DC cX9_init 134 1 135 (.return_) := ⟨by decide +kernel, rfl⟩
theorem reR {V : VX} {X : MX} {nL N k z pc ti : Nat} {σ : Mem} {lv : List (Nat × Value)} {st : List Value} {a n : Nat} {f g : Nat → Option Nat} (hg : ∀ j, j < n → f j = g j) (h : Wm V X nL N (va_up σ a (some (aR ti V n g))) k z pc lv st) : Wm V X nL N (va_up σ a (some (aR ti V n f))) k z pc lv st := by
  intro H locs ls h1 h2 h3
  refine h H locs ls ⟨h1.1, h1.2.1, h1.2.2.1, fun b e hb => ?_⟩ h2 h3
  by_cases hba : b = a
  · subst hba
    rw [va_up_self] at hb
    cases hb
    have h4 := h1.2.2.2 b _ (va_up_self _ _ _)
    refine ⟨h4.1, ?_⟩
    have h5 : H[b]? = some (vp_cell _ _) := h4.2
    show H[b]? = some (vp_cell _ _)
    rw [h5, vp_cell_q, vp_cell_q, arrV_cong (fun j hj => by rw [hg j hj])]
  · rw [va_up_ne _ _ hba] at hb
    exact h1.2.2.2 b e (by rw [va_up_ne _ _ hba]; exact hb)
def pfB (b : Nat) : Nat → Option Nat := fun j => if j < 20 then some (b + 197 + 63 * j) else none
theorem pf_eq (b : Nat) : ∀ j, j < 20 → (va_up (va_up (va_up (va_up (va_up (va_up (va_up (va_up (va_up (va_up (va_up (va_up (va_up (va_up (va_up (va_up (va_up (va_up (va_up (va_up (fun _ => none) 0 (some (b + 197))) 1 (some (b + 260))) 2 (some (b + 323))) 3 (some (b + 386))) 4 (some (b + 449))) 5 (some (b + 512))) 6 (some (b + 575))) 7 (some (b + 638))) 8 (some (b + 701))) 9 (some (b + 764))) 10 (some (b + 827))) 11 (some (b + 890))) 12 (some (b + 953))) 13 (some (b + 1016))) 14 (some (b + 1079))) 15 (some (b + 1142))) 16 (some (b + 1205))) 17 (some (b + 1268))) 18 (some (b + 1331))) 19 (some (b + 1394))) j = pfB b j := by
  intro j hj
  have hj2 : j = 0 ∨ j = 1 ∨ j = 2 ∨ j = 3 ∨ j = 4 ∨ j = 5 ∨ j = 6 ∨ j = 7 ∨ j = 8 ∨ j = 9 ∨ j = 10 ∨ j = 11 ∨ j = 12 ∨ j = 13 ∨ j = 14 ∨ j = 15 ∨ j = 16 ∨ j = 17 ∨ j = 18 ∨ j = 19 := by omega
  rcases hj2 with rfl | rfl | rfl | rfl | rfl | rfl | rfl | rfl | rfl | rfl | rfl | rfl | rfl | rfl | rfl | rfl | rfl | rfl | rfl | rfl <;> rfl
/-- a new ledger at b -/
def LLz (V : VX) (τ : Mem) (b : Nat) : Prop := τ b = some (ob 7 [.ref (b + 1), .int 0, .ref (b + 2), .ref (b + 65), .ref (b + 128), .ref (b + 130), .int 0, .ref (b + 193), .int 0, .int 0, .ref (b + 194), .ref (b + 195), .ref (b + 196)]) ∧ τ (b + 1) = some (aB V 700 (fun _ => 0)) ∧ τ (b + 128) = some (ob 5 [.ref (b + 1), .int 0, .ref (b + 65), .ref (b + 129), .int 0, .int 0, .int 0, .int 0, .int 0, .int 0, .int 0, .int 0, .int (-1)]) ∧ τ (b + 129) = some (aI V 4 (fun _ => 0)) ∧ τ (b + 193) = some (aR 6 V 20 (pfB b)) ∧ τ (b + 194) = some (ob 0 [.long 0, .long 0]) ∧ τ (b + 195) = some (ob 0 [.long 0, .long 0]) ∧ τ (b + 196) = some (ob 0 [.long 0, .long 0]) ∧ BZ V τ (b + 2) ∧ BZ V τ (b + 65) ∧ BZ V τ (b + 130) ∧ ∀ j, j < 20 → BZ V τ (b + 197 + 63 * j)
set_option maxRecDepth 20000 in
theorem k_Ledger_init (l : Launch) (V : VX) (σ : Mem) (b : Nat) (h0 : σ b = some (ob 7 [.null, .int 0, .null, .null, .null, .null, .int 0, .null, .int 0, .int 0, .null, .null, .null])) : Ct l V yX9_init cX9_init 2 none 5 1456 42603 (b + 1) σ [.ref b] (fun r τ => r = none ∧ LLz V τ b ∧ ∀ q : Nat, q < b → τ q = σ q) := by
  refine Ct.of (by decide) (Nat.le_of_ble_eq_true rfl) [(0, .ref b)] rfl (fun X hX F hQ => ?_)
  refine m_aload_n F rfl e_X9_init_0 ?_
  refine m_objInit F e_X9_init_1 ml_X9_1 im_obj co_obj (Nat.le_of_ble_eq_true rfl) (Nat.le_of_ble_eq_true rfl) ?_
  refine m_aload_n F rfl e_X9_init_4 ?_
  refine m_sipush F (v := 700) (by decide) e_X9_init_5 ?_
  refine m_newB F (len := 700) e_X9_init_8 arr_byte (by decide) (by decide) (by decide) (k' := 1) (z' := 700) (N' := b + 2) rfl rfl rfl (Nat.le_of_ble_eq_true rfl) (Nat.le_of_ble_eq_true rfl) ?_
  refine m_putF F e_X9_init_10 fp_X9_9 rfl rfl (ru_ne (by omega) h0) rfl rfl (Nat.le_of_ble_eq_true rfl) (fs' := [.ref (b + 1), .int 0, .null, .null, .null, .null, .int 0, .null, .int 0, .int 0, .null, .null, .null]) rfl rfl ?_
  refine m_aload_n F rfl e_X9_init_13 ?_
  refine m_new F e_X9_init_14 fn_X9_13 (k' := 2) (z' := 713) (N' := b + 3) rfl rfl rfl (Nat.le_of_ble_eq_true rfl) (Nat.le_of_ble_eq_true rfl) ?_
  refine m_dup F rfl e_X9_init_17 ?_
  refine m_callI F e_X9_init_18 (k_Book_init (x_l X) V _ (b + 2) ru_eq) cb_X2_init ml_X9_15 im_X2_init rfl rfl (rest := [.ref (b + 2), .ref b]) rfl (Nat.le_of_ble_eq_true rfl) ⟨Nat.le_of_ble_eq_true rfl, Nat.le_of_ble_eq_true rfl⟩ ⟨Nat.le_of_ble_eq_true rfl, Nat.le_of_ble_eq_true rfl⟩ (k' := 64) (z' := 2520) (N' := b + 65) rfl rfl rfl (fun r τ212 hp => ?_)
  obtain ⟨rfl, bz213, hf214⟩ := hp
  have g215 : τ212 b = some (ob 7 [.ref (b + 1), .int 0, .null, .null, .null, .null, .int 0, .null, .int 0, .int 0, .null, .null, .null]) := (hf214 b (by omega)).trans (ru_ne (by omega) ru_eq)
  have g216 : τ212 (b + 1) = some (aB V 700 (fun _ => 0)) := (hf214 (b + 1) (by omega)).trans (ru_ne (by omega) (ru_ne (by omega) ru_eq))
  have fr217 : ∀ q : Nat, q < b → τ212 q = σ q := fun q h1 => (hf214 q (by omega)).trans (ru_ne (by omega) (ru_ne (by omega) (ru_ne (by omega) rfl)))
  refine m_put F e_X9_init_21 fp_X9_16 g215 rfl rfl (Nat.le_of_ble_eq_true rfl) (fs' := [.ref (b + 1), .int 0, .ref (b + 2), .null, .null, .null, .int 0, .null, .int 0, .int 0, .null, .null, .null]) rfl rfl ?_
  refine m_aload_n F rfl e_X9_init_24 ?_
  refine m_new F e_X9_init_25 fn_X9_13 (k' := 65) (z' := 2533) (N' := b + 66) rfl rfl rfl (Nat.le_of_ble_eq_true rfl) (Nat.le_of_ble_eq_true rfl) ?_
  refine m_dup F rfl e_X9_init_28 ?_
  refine m_callI F e_X9_init_29 (k_Book_init (x_l X) V _ (b + 65) ru_eq) cb_X2_init ml_X9_15 im_X2_init rfl rfl (rest := [.ref (b + 65), .ref b]) rfl (Nat.le_of_ble_eq_true rfl) ⟨Nat.le_of_ble_eq_true rfl, Nat.le_of_ble_eq_true rfl⟩ ⟨Nat.le_of_ble_eq_true rfl, Nat.le_of_ble_eq_true rfl⟩ (k' := 127) (z' := 4340) (N' := b + 128) rfl rfl rfl (fun r τ218 hp => ?_)
  obtain ⟨rfl, bz219, hf220⟩ := hp
  have g221 : τ218 b = some (ob 7 [.ref (b + 1), .int 0, .ref (b + 2), .null, .null, .null, .int 0, .null, .int 0, .int 0, .null, .null, .null]) := (hf220 b (by omega)).trans (ru_ne (by omega) ru_eq)
  have g222 : τ218 (b + 1) = some (aB V 700 (fun _ => 0)) := (hf220 (b + 1) (by omega)).trans (ru_ne (by omega) (ru_ne (by omega) g216))
  have bz223 : BZ V τ218 (b + 2) := bz213.keep (fun x g1 g2 => (hf220 x (by omega)).trans (ru_ne (by omega) (ru_ne (by omega) rfl)))
  have fr224 : ∀ q : Nat, q < b → τ218 q = σ q := fun q h1 => (hf220 q (by omega)).trans (ru_ne (by omega) (ru_ne (by omega) (fr217 q h1)))
  refine m_put F e_X9_init_32 fp_X9_20 g221 rfl rfl (Nat.le_of_ble_eq_true rfl) (fs' := [.ref (b + 1), .int 0, .ref (b + 2), .ref (b + 65), .null, .null, .int 0, .null, .int 0, .int 0, .null, .null, .null]) rfl rfl ?_
  refine m_aload_n F rfl e_X9_init_35 ?_
  refine m_new F e_X9_init_36 fn_X9_23 (k' := 128) (z' := 4353) (N' := b + 129) rfl rfl rfl (Nat.le_of_ble_eq_true rfl) (Nat.le_of_ble_eq_true rfl) ?_
  refine m_dup F rfl e_X9_init_39 ?_
  refine m_aload_n F rfl e_X9_init_40 ?_
  refine m_get F e_X9_init_41 fl_X9_9 (ru_ne (by omega) ru_eq) rfl ?_
  refine m_aload_n F rfl e_X9_init_44 ?_
  refine m_get F e_X9_init_45 fl_X9_20 (ru_ne (by omega) ru_eq) rfl ?_
  refine m_callI F e_X9_init_48 (k_Reader_init (x_l X) V (b + 129) _ (b + 128) (b + 1) (b + 65) (by omega) ru_eq) cb_X7_init ml_X9_25 im_X7_init rfl rfl (rest := [.ref (b + 128), .ref b]) rfl (Nat.le_of_ble_eq_true rfl) ⟨Nat.le_of_ble_eq_true rfl, Nat.le_of_ble_eq_true rfl⟩ ⟨Nat.le_of_ble_eq_true rfl, Nat.le_of_ble_eq_true rfl⟩ (k' := 129) (z' := 4357) (N' := b + 130) rfl rfl rfl (fun r τ225 hp => ?_)
  obtain ⟨rfl, h226, h227, hf228⟩ := hp
  have g229 : τ225 b = some (ob 7 [.ref (b + 1), .int 0, .ref (b + 2), .ref (b + 65), .null, .null, .int 0, .null, .int 0, .int 0, .null, .null, .null]) := (hf228 b (by omega) (by omega)).trans (ru_ne (by omega) ru_eq)
  have g230 : τ225 (b + 1) = some (aB V 700 (fun _ => 0)) := (hf228 (b + 1) (by omega) (by omega)).trans (ru_ne (by omega) (ru_ne (by omega) g222))
  have g231 : τ225 (b + 65) = some (ob 1 [.ref (b + 65 + 1), .ref (b + 65 + 2), .ref (b + 65 + 3), .ref (b + 65 + 4), .ref (b + 65 + 5), .ref (b + 65 + 8), .ref (b + 65 + 9), .ref (b + 65 + 10), .int 0, .int 0, .int 0, .int 0, .int 0]) := (hf228 (b + 65) (by omega) (by omega)).trans (ru_ne (by omega) (ru_ne (by omega) bz219.1.1))
  have bz232 : BZ V τ225 (b + 2) := bz223.keep (fun x g1 g2 => (hf228 x (by omega) (by omega)).trans (ru_ne (by omega) (ru_ne (by omega) rfl)))
  have bz233 : BZ V τ225 (b + 65) := bz219.keep (fun x g1 g2 => (hf228 x (by omega) (by omega)).trans (ru_ne (by omega) (ru_ne (by omega) rfl)))
  have fr234 : ∀ q : Nat, q < b → τ225 q = σ q := fun q h1 => (hf228 q (by omega) (by omega)).trans (ru_ne (by omega) (ru_ne (by omega) (fr224 q h1)))
  refine m_putF F e_X9_init_51 fp_X9_28 rfl rfl g229 rfl rfl (Nat.le_of_ble_eq_true rfl) (fs' := [.ref (b + 1), .int 0, .ref (b + 2), .ref (b + 65), .ref (b + 128), .null, .int 0, .null, .int 0, .int 0, .null, .null, .null]) rfl rfl ?_
  refine m_aload_n F rfl e_X9_init_54 ?_
  refine m_new F e_X9_init_55 fn_X9_13 (k' := 130) (z' := 4370) (N' := b + 131) rfl rfl rfl (Nat.le_of_ble_eq_true rfl) (Nat.le_of_ble_eq_true rfl) ?_
  refine m_dup F rfl e_X9_init_58 ?_
  refine m_callI F e_X9_init_59 (k_Book_init (x_l X) V _ (b + 130) ru_eq) cb_X2_init ml_X9_15 im_X2_init rfl rfl (rest := [.ref (b + 130), .ref b]) rfl (Nat.le_of_ble_eq_true rfl) ⟨Nat.le_of_ble_eq_true rfl, Nat.le_of_ble_eq_true rfl⟩ ⟨Nat.le_of_ble_eq_true rfl, Nat.le_of_ble_eq_true rfl⟩ (k' := 192) (z' := 6177) (N' := b + 193) rfl rfl rfl (fun r τ235 hp => ?_)
  obtain ⟨rfl, bz236, hf237⟩ := hp
  have g238 : τ235 b = some (ob 7 [.ref (b + 1), .int 0, .ref (b + 2), .ref (b + 65), .ref (b + 128), .null, .int 0, .null, .int 0, .int 0, .null, .null, .null]) := (hf237 b (by omega)).trans (ru_ne (by omega) ru_eq)
  have g239 : τ235 (b + 1) = some (aB V 700 (fun _ => 0)) := (hf237 (b + 1) (by omega)).trans (ru_ne (by omega) (ru_ne (by omega) g230))
  have g240 : τ235 (b + 128) = some (ob 5 [.ref (b + 1), .int 0, .ref (b + 65), .ref (b + 129), .int 0, .int 0, .int 0, .int 0, .int 0, .int 0, .int 0, .int 0, .int (-1)]) := (hf237 (b + 128) (by omega)).trans (ru_ne (by omega) (ru_ne (by omega) h226))
  have g241 : τ235 (b + 129) = some (aI V 4 (fun _ => 0)) := (hf237 (b + 129) (by omega)).trans (ru_ne (by omega) (ru_ne (by omega) h227))
  have bz242 : BZ V τ235 (b + 2) := bz232.keep (fun x g1 g2 => (hf237 x (by omega)).trans (ru_ne (by omega) (ru_ne (by omega) rfl)))
  have bz243 : BZ V τ235 (b + 65) := bz233.keep (fun x g1 g2 => (hf237 x (by omega)).trans (ru_ne (by omega) (ru_ne (by omega) rfl)))
  have fr244 : ∀ q : Nat, q < b → τ235 q = σ q := fun q h1 => (hf237 q (by omega)).trans (ru_ne (by omega) (ru_ne (by omega) (fr234 q h1)))
  refine m_putF F e_X9_init_62 fp_X9_32 rfl rfl g238 rfl rfl (Nat.le_of_ble_eq_true rfl) (fs' := [.ref (b + 1), .int 0, .ref (b + 2), .ref (b + 65), .ref (b + 128), .ref (b + 130), .int 0, .null, .int 0, .int 0, .null, .null, .null]) rfl rfl ?_
  refine m_aload_n F rfl e_X9_init_65 ?_
  refine m_bipush F (v := 20) (by decide) e_X9_init_66 ?_
  refine m_anew F (ti := 6) (len := 20) e_X9_init_68 cl_X9_13 F.ku.2.2.2.2.1 rfl (by decide) (by decide) (by decide) (k' := 193) (z' := 6197) (N' := b + 194) rfl rfl rfl (Nat.le_of_ble_eq_true rfl) (Nat.le_of_ble_eq_true rfl) ?_
  refine m_putF F e_X9_init_71 fp_X9_35 rfl rfl (ru_ne (by omega) ru_eq) rfl rfl (Nat.le_of_ble_eq_true rfl) (fs' := [.ref (b + 1), .int 0, .ref (b + 2), .ref (b + 65), .ref (b + 128), .ref (b + 130), .int 0, .ref (b + 193), .int 0, .int 0, .null, .null, .null]) rfl rfl ?_
  refine m_aload_n F rfl e_X9_init_74 ?_
  refine m_new F e_X9_init_75 fn_X9_39 (k' := 194) (z' := 6199) (N' := b + 195) rfl rfl rfl (Nat.le_of_ble_eq_true rfl) (Nat.le_of_ble_eq_true rfl) ?_
  refine m_dup F rfl e_X9_init_78 ?_
  refine m_callIN F e_X9_init_79 (k_Amount_init (x_l X) V _ _ (b + 194)) cb_X1_init (by simp [nestW, yX9_init]) im_X1_init rfl rfl (rest := [.ref (b + 194), .ref b]) rfl (Nat.le_of_ble_eq_true rfl) ⟨Nat.le_of_ble_eq_true rfl, Nat.le_of_ble_eq_true rfl⟩ ⟨Nat.le_of_ble_eq_true rfl, Nat.le_of_ble_eq_true rfl⟩ (k' := 194) (z' := 6199) (N' := b + 195) rfl rfl rfl (fun r τ hp => ?_)
  obtain ⟨rfl, rfl⟩ := hp
  refine m_putF F e_X9_init_82 fp_X9_42 rfl rfl (ru_ne (by omega) ru_eq) rfl rfl (Nat.le_of_ble_eq_true rfl) (fs' := [.ref (b + 1), .int 0, .ref (b + 2), .ref (b + 65), .ref (b + 128), .ref (b + 130), .int 0, .ref (b + 193), .int 0, .int 0, .ref (b + 194), .null, .null]) rfl rfl ?_
  refine m_aload_n F rfl e_X9_init_85 ?_
  refine m_new F e_X9_init_86 fn_X9_39 (k' := 195) (z' := 6201) (N' := b + 196) rfl rfl rfl (Nat.le_of_ble_eq_true rfl) (Nat.le_of_ble_eq_true rfl) ?_
  refine m_dup F rfl e_X9_init_89 ?_
  refine m_callIN F e_X9_init_90 (k_Amount_init (x_l X) V _ _ (b + 195)) cb_X1_init (by simp [nestW, yX9_init]) im_X1_init rfl rfl (rest := [.ref (b + 195), .ref b]) rfl (Nat.le_of_ble_eq_true rfl) ⟨Nat.le_of_ble_eq_true rfl, Nat.le_of_ble_eq_true rfl⟩ ⟨Nat.le_of_ble_eq_true rfl, Nat.le_of_ble_eq_true rfl⟩ (k' := 195) (z' := 6201) (N' := b + 196) rfl rfl rfl (fun r τ hp => ?_)
  obtain ⟨rfl, rfl⟩ := hp
  refine m_putF F e_X9_init_93 fp_X9_46 rfl rfl (ru_ne (by omega) ru_eq) rfl rfl (Nat.le_of_ble_eq_true rfl) (fs' := [.ref (b + 1), .int 0, .ref (b + 2), .ref (b + 65), .ref (b + 128), .ref (b + 130), .int 0, .ref (b + 193), .int 0, .int 0, .ref (b + 194), .ref (b + 195), .null]) rfl rfl ?_
  refine m_aload_n F rfl e_X9_init_96 ?_
  refine m_new F e_X9_init_97 fn_X9_39 (k' := 196) (z' := 6203) (N' := b + 197) rfl rfl rfl (Nat.le_of_ble_eq_true rfl) (Nat.le_of_ble_eq_true rfl) ?_
  refine m_dup F rfl e_X9_init_100 ?_
  refine m_callIN F e_X9_init_101 (k_Amount_init (x_l X) V _ _ (b + 196)) cb_X1_init (by simp [nestW, yX9_init]) im_X1_init rfl rfl (rest := [.ref (b + 196), .ref b]) rfl (Nat.le_of_ble_eq_true rfl) ⟨Nat.le_of_ble_eq_true rfl, Nat.le_of_ble_eq_true rfl⟩ ⟨Nat.le_of_ble_eq_true rfl, Nat.le_of_ble_eq_true rfl⟩ (k' := 196) (z' := 6203) (N' := b + 197) rfl rfl rfl (fun r τ hp => ?_)
  obtain ⟨rfl, rfl⟩ := hp
  refine m_putF F e_X9_init_104 fp_X9_49 rfl rfl (ru_ne (by omega) ru_eq) rfl rfl (Nat.le_of_ble_eq_true rfl) (fs' := [.ref (b + 1), .int 0, .ref (b + 2), .ref (b + 65), .ref (b + 128), .ref (b + 130), .int 0, .ref (b + 193), .int 0, .int 0, .ref (b + 194), .ref (b + 195), .ref (b + 196)]) rfl rfl ?_
  refine m_iconst F (v := 0) (by decide) e_X9_init_107 ?_
  refine m_istore_n F (lv' := [(1, .int 0), (0, .ref b)]) e_X9_init_108 (by decide) rfl ?_
  refine m_iload_n F rfl e_X9_init_109 ?_
  refine m_bipush F (v := 20) (by decide) e_X9_init_110 ?_
  refine m_icmp_ge F e_X9_init_112 (fun q => absurd q (by decide)) (fun _ => ?_)
  refine m_aload_n F rfl e_X9_init_115 ?_
  refine m_get F e_X9_init_116 fl_X9_35 ru_eq rfl ?_
  refine m_iload_n F rfl e_X9_init_119 ?_
  refine m_new F e_X9_init_120 fn_X9_13 (k' := 197) (z' := 6216) (N' := b + 198) rfl rfl rfl (Nat.le_of_ble_eq_true rfl) (Nat.le_of_ble_eq_true rfl) ?_
  refine m_dup F rfl e_X9_init_123 ?_
  refine m_callI F e_X9_init_124 (k_Book_init (x_l X) V _ (b + 197) ru_eq) cb_X2_init ml_X9_15 im_X2_init rfl rfl (rest := [.ref (b + 197), .int 0, .ref (b + 193)]) rfl (Nat.le_of_ble_eq_true rfl) ⟨Nat.le_of_ble_eq_true rfl, Nat.le_of_ble_eq_true rfl⟩ ⟨Nat.le_of_ble_eq_true rfl, Nat.le_of_ble_eq_true rfl⟩ (k' := 259) (z' := 8023) (N' := b + 260) rfl rfl rfl (fun r τ245 hp => ?_)
  obtain ⟨rfl, bz246, hf247⟩ := hp
  have g248 : τ245 b = some (ob 7 [.ref (b + 1), .int 0, .ref (b + 2), .ref (b + 65), .ref (b + 128), .ref (b + 130), .int 0, .ref (b + 193), .int 0, .int 0, .ref (b + 194), .ref (b + 195), .ref (b + 196)]) := (hf247 b (by omega)).trans (ru_ne (by omega) ru_eq)
  have g249 : τ245 (b + 1) = some (aB V 700 (fun _ => 0)) := (hf247 (b + 1) (by omega)).trans (ru_ne (by omega) (ru_ne (by omega) (ru_ne (by omega) (ru_ne (by omega) (ru_ne (by omega) (ru_ne (by omega) (ru_ne (by omega) (ru_ne (by omega) (ru_ne (by omega) (ru_ne (by omega) g239))))))))))
  have g250 : τ245 (b + 128) = some (ob 5 [.ref (b + 1), .int 0, .ref (b + 65), .ref (b + 129), .int 0, .int 0, .int 0, .int 0, .int 0, .int 0, .int 0, .int 0, .int (-1)]) := (hf247 (b + 128) (by omega)).trans (ru_ne (by omega) (ru_ne (by omega) (ru_ne (by omega) (ru_ne (by omega) (ru_ne (by omega) (ru_ne (by omega) (ru_ne (by omega) (ru_ne (by omega) (ru_ne (by omega) (ru_ne (by omega) g240))))))))))
  have g251 : τ245 (b + 129) = some (aI V 4 (fun _ => 0)) := (hf247 (b + 129) (by omega)).trans (ru_ne (by omega) (ru_ne (by omega) (ru_ne (by omega) (ru_ne (by omega) (ru_ne (by omega) (ru_ne (by omega) (ru_ne (by omega) (ru_ne (by omega) (ru_ne (by omega) (ru_ne (by omega) g241))))))))))
  have g252 : τ245 (b + 193) = some (aR 6 V 20 (fun _ => none)) := (hf247 (b + 193) (by omega)).trans (ru_ne (by omega) (ru_ne (by omega) (ru_ne (by omega) (ru_ne (by omega) (ru_ne (by omega) (ru_ne (by omega) (ru_ne (by omega) (ru_ne (by omega) ru_eq))))))))
  have g253 : τ245 (b + 194) = some (ob 0 [.long 0, .long 0]) := (hf247 (b + 194) (by omega)).trans (ru_ne (by omega) (ru_ne (by omega) (ru_ne (by omega) (ru_ne (by omega) (ru_ne (by omega) (ru_ne (by omega) ru_eq))))))
  have g254 : τ245 (b + 195) = some (ob 0 [.long 0, .long 0]) := (hf247 (b + 195) (by omega)).trans (ru_ne (by omega) (ru_ne (by omega) (ru_ne (by omega) (ru_ne (by omega) ru_eq))))
  have g255 : τ245 (b + 196) = some (ob 0 [.long 0, .long 0]) := (hf247 (b + 196) (by omega)).trans (ru_ne (by omega) (ru_ne (by omega) ru_eq))
  have bz256 : BZ V τ245 (b + 2) := bz242.keep (fun x g1 g2 => (hf247 x (by omega)).trans (ru_ne (by omega) (ru_ne (by omega) (ru_ne (by omega) (ru_ne (by omega) (ru_ne (by omega) (ru_ne (by omega) (ru_ne (by omega) (ru_ne (by omega) (ru_ne (by omega) (ru_ne (by omega) rfl)))))))))))
  have bz257 : BZ V τ245 (b + 65) := bz243.keep (fun x g1 g2 => (hf247 x (by omega)).trans (ru_ne (by omega) (ru_ne (by omega) (ru_ne (by omega) (ru_ne (by omega) (ru_ne (by omega) (ru_ne (by omega) (ru_ne (by omega) (ru_ne (by omega) (ru_ne (by omega) (ru_ne (by omega) rfl)))))))))))
  have bz258 : BZ V τ245 (b + 130) := bz236.keep (fun x g1 g2 => (hf247 x (by omega)).trans (ru_ne (by omega) (ru_ne (by omega) (ru_ne (by omega) (ru_ne (by omega) (ru_ne (by omega) (ru_ne (by omega) (ru_ne (by omega) (ru_ne (by omega) (ru_ne (by omega) (ru_ne (by omega) rfl)))))))))))
  have fr259 : ∀ q : Nat, q < b → τ245 q = σ q := fun q h1 => (hf247 q (by omega)).trans (ru_ne (by omega) (ru_ne (by omega) (ru_ne (by omega) (ru_ne (by omega) (ru_ne (by omega) (ru_ne (by omega) (ru_ne (by omega) (ru_ne (by omega) (ru_ne (by omega) (ru_ne (by omega) (fr244 q h1)))))))))))
  have pa260 : ∀ j, j < 1 → BZ V τ245 (b + 197 + 63 * j) := fun j hj => (show 0 = j by omega) ▸ bz246
  refine m_aast F (j := 0) e_X9_init_127 g252 rfl bz246.1.1 rfl (by decide) (by unfold vp_in; decide) rfl rfl ?_
  refine m_iinc F (v := 1) (lv' := [(1, .int 1), (0, .ref b)]) e_X9_init_128 rfl (by decide) (by decide) rfl ?_
  refine m_goto F e_X9_init_131 ?_
  refine m_iload_n F rfl e_X9_init_109 ?_
  refine m_bipush F (v := 20) (by decide) e_X9_init_110 ?_
  refine m_icmp_ge F e_X9_init_112 (fun q => absurd q (by decide)) (fun _ => ?_)
  refine m_aload_n F rfl e_X9_init_115 ?_
  refine m_get F e_X9_init_116 fl_X9_35 (ru_ne (by omega) g248) rfl ?_
  refine m_iload_n F rfl e_X9_init_119 ?_
  refine m_new F e_X9_init_120 fn_X9_13 (k' := 260) (z' := 8036) (N' := b + 261) rfl rfl rfl (Nat.le_of_ble_eq_true rfl) (Nat.le_of_ble_eq_true rfl) ?_
  refine m_dup F rfl e_X9_init_123 ?_
  refine m_callI F e_X9_init_124 (k_Book_init (x_l X) V _ (b + 260) ru_eq) cb_X2_init ml_X9_15 im_X2_init rfl rfl (rest := [.ref (b + 260), .int 1, .ref (b + 193)]) rfl (Nat.le_of_ble_eq_true rfl) ⟨Nat.le_of_ble_eq_true rfl, Nat.le_of_ble_eq_true rfl⟩ ⟨Nat.le_of_ble_eq_true rfl, Nat.le_of_ble_eq_true rfl⟩ (k' := 322) (z' := 9843) (N' := b + 323) rfl rfl rfl (fun r τ261 hp => ?_)
  obtain ⟨rfl, bz262, hf263⟩ := hp
  have g264 : τ261 b = some (ob 7 [.ref (b + 1), .int 0, .ref (b + 2), .ref (b + 65), .ref (b + 128), .ref (b + 130), .int 0, .ref (b + 193), .int 0, .int 0, .ref (b + 194), .ref (b + 195), .ref (b + 196)]) := (hf263 b (by omega)).trans (ru_ne (by omega) (ru_ne (by omega) g248))
  have g265 : τ261 (b + 1) = some (aB V 700 (fun _ => 0)) := (hf263 (b + 1) (by omega)).trans (ru_ne (by omega) (ru_ne (by omega) g249))
  have g266 : τ261 (b + 128) = some (ob 5 [.ref (b + 1), .int 0, .ref (b + 65), .ref (b + 129), .int 0, .int 0, .int 0, .int 0, .int 0, .int 0, .int 0, .int 0, .int (-1)]) := (hf263 (b + 128) (by omega)).trans (ru_ne (by omega) (ru_ne (by omega) g250))
  have g267 : τ261 (b + 129) = some (aI V 4 (fun _ => 0)) := (hf263 (b + 129) (by omega)).trans (ru_ne (by omega) (ru_ne (by omega) g251))
  have g268 : τ261 (b + 193) = some (aR 6 V 20 (va_up (fun _ => none) 0 (some (b + 197)))) := (hf263 (b + 193) (by omega)).trans (ru_ne (by omega) ru_eq)
  have g269 : τ261 (b + 194) = some (ob 0 [.long 0, .long 0]) := (hf263 (b + 194) (by omega)).trans (ru_ne (by omega) (ru_ne (by omega) g253))
  have g270 : τ261 (b + 195) = some (ob 0 [.long 0, .long 0]) := (hf263 (b + 195) (by omega)).trans (ru_ne (by omega) (ru_ne (by omega) g254))
  have g271 : τ261 (b + 196) = some (ob 0 [.long 0, .long 0]) := (hf263 (b + 196) (by omega)).trans (ru_ne (by omega) (ru_ne (by omega) g255))
  have bz272 : BZ V τ261 (b + 2) := bz256.keep (fun x g1 g2 => (hf263 x (by omega)).trans (ru_ne (by omega) (ru_ne (by omega) rfl)))
  have bz273 : BZ V τ261 (b + 65) := bz257.keep (fun x g1 g2 => (hf263 x (by omega)).trans (ru_ne (by omega) (ru_ne (by omega) rfl)))
  have bz274 : BZ V τ261 (b + 130) := bz258.keep (fun x g1 g2 => (hf263 x (by omega)).trans (ru_ne (by omega) (ru_ne (by omega) rfl)))
  have pa275 : ∀ j, j < 1 → BZ V τ261 (b + 197 + 63 * j) := fun j hj => (pa260 j hj).keep (fun x g1 g2 => (hf263 x (by omega)).trans (ru_ne (by omega) (ru_ne (by omega) rfl)))
  have fr276 : ∀ q : Nat, q < b → τ261 q = σ q := fun q h1 => (hf263 q (by omega)).trans (ru_ne (by omega) (ru_ne (by omega) (fr259 q h1)))
  have pa277 : ∀ j, j < 2 → BZ V τ261 (b + 197 + 63 * j) := fun j hj => (Nat.lt_or_ge j 1).elim (fun h => pa275 j h) (fun h => (show 1 = j by omega) ▸ bz262)
  refine m_aast F (j := 1) e_X9_init_127 g268 rfl bz262.1.1 rfl (by decide) (by unfold vp_in; decide) rfl rfl ?_
  refine m_iinc F (v := 2) (lv' := [(1, .int 2), (0, .ref b)]) e_X9_init_128 rfl (by decide) (by decide) rfl ?_
  refine m_goto F e_X9_init_131 ?_
  refine m_iload_n F rfl e_X9_init_109 ?_
  refine m_bipush F (v := 20) (by decide) e_X9_init_110 ?_
  refine m_icmp_ge F e_X9_init_112 (fun q => absurd q (by decide)) (fun _ => ?_)
  refine m_aload_n F rfl e_X9_init_115 ?_
  refine m_get F e_X9_init_116 fl_X9_35 (ru_ne (by omega) g264) rfl ?_
  refine m_iload_n F rfl e_X9_init_119 ?_
  refine m_new F e_X9_init_120 fn_X9_13 (k' := 323) (z' := 9856) (N' := b + 324) rfl rfl rfl (Nat.le_of_ble_eq_true rfl) (Nat.le_of_ble_eq_true rfl) ?_
  refine m_dup F rfl e_X9_init_123 ?_
  refine m_callI F e_X9_init_124 (k_Book_init (x_l X) V _ (b + 323) ru_eq) cb_X2_init ml_X9_15 im_X2_init rfl rfl (rest := [.ref (b + 323), .int 2, .ref (b + 193)]) rfl (Nat.le_of_ble_eq_true rfl) ⟨Nat.le_of_ble_eq_true rfl, Nat.le_of_ble_eq_true rfl⟩ ⟨Nat.le_of_ble_eq_true rfl, Nat.le_of_ble_eq_true rfl⟩ (k' := 385) (z' := 11663) (N' := b + 386) rfl rfl rfl (fun r τ278 hp => ?_)
  obtain ⟨rfl, bz279, hf280⟩ := hp
  have g281 : τ278 b = some (ob 7 [.ref (b + 1), .int 0, .ref (b + 2), .ref (b + 65), .ref (b + 128), .ref (b + 130), .int 0, .ref (b + 193), .int 0, .int 0, .ref (b + 194), .ref (b + 195), .ref (b + 196)]) := (hf280 b (by omega)).trans (ru_ne (by omega) (ru_ne (by omega) g264))
  have g282 : τ278 (b + 1) = some (aB V 700 (fun _ => 0)) := (hf280 (b + 1) (by omega)).trans (ru_ne (by omega) (ru_ne (by omega) g265))
  have g283 : τ278 (b + 128) = some (ob 5 [.ref (b + 1), .int 0, .ref (b + 65), .ref (b + 129), .int 0, .int 0, .int 0, .int 0, .int 0, .int 0, .int 0, .int 0, .int (-1)]) := (hf280 (b + 128) (by omega)).trans (ru_ne (by omega) (ru_ne (by omega) g266))
  have g284 : τ278 (b + 129) = some (aI V 4 (fun _ => 0)) := (hf280 (b + 129) (by omega)).trans (ru_ne (by omega) (ru_ne (by omega) g267))
  have g285 : τ278 (b + 193) = some (aR 6 V 20 (va_up (va_up (fun _ => none) 0 (some (b + 197))) 1 (some (b + 260)))) := (hf280 (b + 193) (by omega)).trans (ru_ne (by omega) ru_eq)
  have g286 : τ278 (b + 194) = some (ob 0 [.long 0, .long 0]) := (hf280 (b + 194) (by omega)).trans (ru_ne (by omega) (ru_ne (by omega) g269))
  have g287 : τ278 (b + 195) = some (ob 0 [.long 0, .long 0]) := (hf280 (b + 195) (by omega)).trans (ru_ne (by omega) (ru_ne (by omega) g270))
  have g288 : τ278 (b + 196) = some (ob 0 [.long 0, .long 0]) := (hf280 (b + 196) (by omega)).trans (ru_ne (by omega) (ru_ne (by omega) g271))
  have bz289 : BZ V τ278 (b + 2) := bz272.keep (fun x g1 g2 => (hf280 x (by omega)).trans (ru_ne (by omega) (ru_ne (by omega) rfl)))
  have bz290 : BZ V τ278 (b + 65) := bz273.keep (fun x g1 g2 => (hf280 x (by omega)).trans (ru_ne (by omega) (ru_ne (by omega) rfl)))
  have bz291 : BZ V τ278 (b + 130) := bz274.keep (fun x g1 g2 => (hf280 x (by omega)).trans (ru_ne (by omega) (ru_ne (by omega) rfl)))
  have pa292 : ∀ j, j < 2 → BZ V τ278 (b + 197 + 63 * j) := fun j hj => (pa277 j hj).keep (fun x g1 g2 => (hf280 x (by omega)).trans (ru_ne (by omega) (ru_ne (by omega) rfl)))
  have fr293 : ∀ q : Nat, q < b → τ278 q = σ q := fun q h1 => (hf280 q (by omega)).trans (ru_ne (by omega) (ru_ne (by omega) (fr276 q h1)))
  have pa294 : ∀ j, j < 3 → BZ V τ278 (b + 197 + 63 * j) := fun j hj => (Nat.lt_or_ge j 2).elim (fun h => pa292 j h) (fun h => (show 2 = j by omega) ▸ bz279)
  refine m_aast F (j := 2) e_X9_init_127 g285 rfl bz279.1.1 rfl (by decide) (by unfold vp_in; decide) rfl rfl ?_
  refine m_iinc F (v := 3) (lv' := [(1, .int 3), (0, .ref b)]) e_X9_init_128 rfl (by decide) (by decide) rfl ?_
  refine m_goto F e_X9_init_131 ?_
  refine m_iload_n F rfl e_X9_init_109 ?_
  refine m_bipush F (v := 20) (by decide) e_X9_init_110 ?_
  refine m_icmp_ge F e_X9_init_112 (fun q => absurd q (by decide)) (fun _ => ?_)
  refine m_aload_n F rfl e_X9_init_115 ?_
  refine m_get F e_X9_init_116 fl_X9_35 (ru_ne (by omega) g281) rfl ?_
  refine m_iload_n F rfl e_X9_init_119 ?_
  refine m_new F e_X9_init_120 fn_X9_13 (k' := 386) (z' := 11676) (N' := b + 387) rfl rfl rfl (Nat.le_of_ble_eq_true rfl) (Nat.le_of_ble_eq_true rfl) ?_
  refine m_dup F rfl e_X9_init_123 ?_
  refine m_callI F e_X9_init_124 (k_Book_init (x_l X) V _ (b + 386) ru_eq) cb_X2_init ml_X9_15 im_X2_init rfl rfl (rest := [.ref (b + 386), .int 3, .ref (b + 193)]) rfl (Nat.le_of_ble_eq_true rfl) ⟨Nat.le_of_ble_eq_true rfl, Nat.le_of_ble_eq_true rfl⟩ ⟨Nat.le_of_ble_eq_true rfl, Nat.le_of_ble_eq_true rfl⟩ (k' := 448) (z' := 13483) (N' := b + 449) rfl rfl rfl (fun r τ295 hp => ?_)
  obtain ⟨rfl, bz296, hf297⟩ := hp
  have g298 : τ295 b = some (ob 7 [.ref (b + 1), .int 0, .ref (b + 2), .ref (b + 65), .ref (b + 128), .ref (b + 130), .int 0, .ref (b + 193), .int 0, .int 0, .ref (b + 194), .ref (b + 195), .ref (b + 196)]) := (hf297 b (by omega)).trans (ru_ne (by omega) (ru_ne (by omega) g281))
  have g299 : τ295 (b + 1) = some (aB V 700 (fun _ => 0)) := (hf297 (b + 1) (by omega)).trans (ru_ne (by omega) (ru_ne (by omega) g282))
  have g300 : τ295 (b + 128) = some (ob 5 [.ref (b + 1), .int 0, .ref (b + 65), .ref (b + 129), .int 0, .int 0, .int 0, .int 0, .int 0, .int 0, .int 0, .int 0, .int (-1)]) := (hf297 (b + 128) (by omega)).trans (ru_ne (by omega) (ru_ne (by omega) g283))
  have g301 : τ295 (b + 129) = some (aI V 4 (fun _ => 0)) := (hf297 (b + 129) (by omega)).trans (ru_ne (by omega) (ru_ne (by omega) g284))
  have g302 : τ295 (b + 193) = some (aR 6 V 20 (va_up (va_up (va_up (fun _ => none) 0 (some (b + 197))) 1 (some (b + 260))) 2 (some (b + 323)))) := (hf297 (b + 193) (by omega)).trans (ru_ne (by omega) ru_eq)
  have g303 : τ295 (b + 194) = some (ob 0 [.long 0, .long 0]) := (hf297 (b + 194) (by omega)).trans (ru_ne (by omega) (ru_ne (by omega) g286))
  have g304 : τ295 (b + 195) = some (ob 0 [.long 0, .long 0]) := (hf297 (b + 195) (by omega)).trans (ru_ne (by omega) (ru_ne (by omega) g287))
  have g305 : τ295 (b + 196) = some (ob 0 [.long 0, .long 0]) := (hf297 (b + 196) (by omega)).trans (ru_ne (by omega) (ru_ne (by omega) g288))
  have bz306 : BZ V τ295 (b + 2) := bz289.keep (fun x g1 g2 => (hf297 x (by omega)).trans (ru_ne (by omega) (ru_ne (by omega) rfl)))
  have bz307 : BZ V τ295 (b + 65) := bz290.keep (fun x g1 g2 => (hf297 x (by omega)).trans (ru_ne (by omega) (ru_ne (by omega) rfl)))
  have bz308 : BZ V τ295 (b + 130) := bz291.keep (fun x g1 g2 => (hf297 x (by omega)).trans (ru_ne (by omega) (ru_ne (by omega) rfl)))
  have pa309 : ∀ j, j < 3 → BZ V τ295 (b + 197 + 63 * j) := fun j hj => (pa294 j hj).keep (fun x g1 g2 => (hf297 x (by omega)).trans (ru_ne (by omega) (ru_ne (by omega) rfl)))
  have fr310 : ∀ q : Nat, q < b → τ295 q = σ q := fun q h1 => (hf297 q (by omega)).trans (ru_ne (by omega) (ru_ne (by omega) (fr293 q h1)))
  have pa311 : ∀ j, j < 4 → BZ V τ295 (b + 197 + 63 * j) := fun j hj => (Nat.lt_or_ge j 3).elim (fun h => pa309 j h) (fun h => (show 3 = j by omega) ▸ bz296)
  refine m_aast F (j := 3) e_X9_init_127 g302 rfl bz296.1.1 rfl (by decide) (by unfold vp_in; decide) rfl rfl ?_
  refine m_iinc F (v := 4) (lv' := [(1, .int 4), (0, .ref b)]) e_X9_init_128 rfl (by decide) (by decide) rfl ?_
  refine m_goto F e_X9_init_131 ?_
  refine m_iload_n F rfl e_X9_init_109 ?_
  refine m_bipush F (v := 20) (by decide) e_X9_init_110 ?_
  refine m_icmp_ge F e_X9_init_112 (fun q => absurd q (by decide)) (fun _ => ?_)
  refine m_aload_n F rfl e_X9_init_115 ?_
  refine m_get F e_X9_init_116 fl_X9_35 (ru_ne (by omega) g298) rfl ?_
  refine m_iload_n F rfl e_X9_init_119 ?_
  refine m_new F e_X9_init_120 fn_X9_13 (k' := 449) (z' := 13496) (N' := b + 450) rfl rfl rfl (Nat.le_of_ble_eq_true rfl) (Nat.le_of_ble_eq_true rfl) ?_
  refine m_dup F rfl e_X9_init_123 ?_
  refine m_callI F e_X9_init_124 (k_Book_init (x_l X) V _ (b + 449) ru_eq) cb_X2_init ml_X9_15 im_X2_init rfl rfl (rest := [.ref (b + 449), .int 4, .ref (b + 193)]) rfl (Nat.le_of_ble_eq_true rfl) ⟨Nat.le_of_ble_eq_true rfl, Nat.le_of_ble_eq_true rfl⟩ ⟨Nat.le_of_ble_eq_true rfl, Nat.le_of_ble_eq_true rfl⟩ (k' := 511) (z' := 15303) (N' := b + 512) rfl rfl rfl (fun r τ312 hp => ?_)
  obtain ⟨rfl, bz313, hf314⟩ := hp
  have g315 : τ312 b = some (ob 7 [.ref (b + 1), .int 0, .ref (b + 2), .ref (b + 65), .ref (b + 128), .ref (b + 130), .int 0, .ref (b + 193), .int 0, .int 0, .ref (b + 194), .ref (b + 195), .ref (b + 196)]) := (hf314 b (by omega)).trans (ru_ne (by omega) (ru_ne (by omega) g298))
  have g316 : τ312 (b + 1) = some (aB V 700 (fun _ => 0)) := (hf314 (b + 1) (by omega)).trans (ru_ne (by omega) (ru_ne (by omega) g299))
  have g317 : τ312 (b + 128) = some (ob 5 [.ref (b + 1), .int 0, .ref (b + 65), .ref (b + 129), .int 0, .int 0, .int 0, .int 0, .int 0, .int 0, .int 0, .int 0, .int (-1)]) := (hf314 (b + 128) (by omega)).trans (ru_ne (by omega) (ru_ne (by omega) g300))
  have g318 : τ312 (b + 129) = some (aI V 4 (fun _ => 0)) := (hf314 (b + 129) (by omega)).trans (ru_ne (by omega) (ru_ne (by omega) g301))
  have g319 : τ312 (b + 193) = some (aR 6 V 20 (va_up (va_up (va_up (va_up (fun _ => none) 0 (some (b + 197))) 1 (some (b + 260))) 2 (some (b + 323))) 3 (some (b + 386)))) := (hf314 (b + 193) (by omega)).trans (ru_ne (by omega) ru_eq)
  have g320 : τ312 (b + 194) = some (ob 0 [.long 0, .long 0]) := (hf314 (b + 194) (by omega)).trans (ru_ne (by omega) (ru_ne (by omega) g303))
  have g321 : τ312 (b + 195) = some (ob 0 [.long 0, .long 0]) := (hf314 (b + 195) (by omega)).trans (ru_ne (by omega) (ru_ne (by omega) g304))
  have g322 : τ312 (b + 196) = some (ob 0 [.long 0, .long 0]) := (hf314 (b + 196) (by omega)).trans (ru_ne (by omega) (ru_ne (by omega) g305))
  have bz323 : BZ V τ312 (b + 2) := bz306.keep (fun x g1 g2 => (hf314 x (by omega)).trans (ru_ne (by omega) (ru_ne (by omega) rfl)))
  have bz324 : BZ V τ312 (b + 65) := bz307.keep (fun x g1 g2 => (hf314 x (by omega)).trans (ru_ne (by omega) (ru_ne (by omega) rfl)))
  have bz325 : BZ V τ312 (b + 130) := bz308.keep (fun x g1 g2 => (hf314 x (by omega)).trans (ru_ne (by omega) (ru_ne (by omega) rfl)))
  have pa326 : ∀ j, j < 4 → BZ V τ312 (b + 197 + 63 * j) := fun j hj => (pa311 j hj).keep (fun x g1 g2 => (hf314 x (by omega)).trans (ru_ne (by omega) (ru_ne (by omega) rfl)))
  have fr327 : ∀ q : Nat, q < b → τ312 q = σ q := fun q h1 => (hf314 q (by omega)).trans (ru_ne (by omega) (ru_ne (by omega) (fr310 q h1)))
  have pa328 : ∀ j, j < 5 → BZ V τ312 (b + 197 + 63 * j) := fun j hj => (Nat.lt_or_ge j 4).elim (fun h => pa326 j h) (fun h => (show 4 = j by omega) ▸ bz313)
  refine m_aast F (j := 4) e_X9_init_127 g319 rfl bz313.1.1 rfl (by decide) (by unfold vp_in; decide) rfl rfl ?_
  refine m_iinc F (v := 5) (lv' := [(1, .int 5), (0, .ref b)]) e_X9_init_128 rfl (by decide) (by decide) rfl ?_
  refine m_goto F e_X9_init_131 ?_
  refine m_iload_n F rfl e_X9_init_109 ?_
  refine m_bipush F (v := 20) (by decide) e_X9_init_110 ?_
  refine m_icmp_ge F e_X9_init_112 (fun q => absurd q (by decide)) (fun _ => ?_)
  refine m_aload_n F rfl e_X9_init_115 ?_
  refine m_get F e_X9_init_116 fl_X9_35 (ru_ne (by omega) g315) rfl ?_
  refine m_iload_n F rfl e_X9_init_119 ?_
  refine m_new F e_X9_init_120 fn_X9_13 (k' := 512) (z' := 15316) (N' := b + 513) rfl rfl rfl (Nat.le_of_ble_eq_true rfl) (Nat.le_of_ble_eq_true rfl) ?_
  refine m_dup F rfl e_X9_init_123 ?_
  refine m_callI F e_X9_init_124 (k_Book_init (x_l X) V _ (b + 512) ru_eq) cb_X2_init ml_X9_15 im_X2_init rfl rfl (rest := [.ref (b + 512), .int 5, .ref (b + 193)]) rfl (Nat.le_of_ble_eq_true rfl) ⟨Nat.le_of_ble_eq_true rfl, Nat.le_of_ble_eq_true rfl⟩ ⟨Nat.le_of_ble_eq_true rfl, Nat.le_of_ble_eq_true rfl⟩ (k' := 574) (z' := 17123) (N' := b + 575) rfl rfl rfl (fun r τ329 hp => ?_)
  obtain ⟨rfl, bz330, hf331⟩ := hp
  have g332 : τ329 b = some (ob 7 [.ref (b + 1), .int 0, .ref (b + 2), .ref (b + 65), .ref (b + 128), .ref (b + 130), .int 0, .ref (b + 193), .int 0, .int 0, .ref (b + 194), .ref (b + 195), .ref (b + 196)]) := (hf331 b (by omega)).trans (ru_ne (by omega) (ru_ne (by omega) g315))
  have g333 : τ329 (b + 1) = some (aB V 700 (fun _ => 0)) := (hf331 (b + 1) (by omega)).trans (ru_ne (by omega) (ru_ne (by omega) g316))
  have g334 : τ329 (b + 128) = some (ob 5 [.ref (b + 1), .int 0, .ref (b + 65), .ref (b + 129), .int 0, .int 0, .int 0, .int 0, .int 0, .int 0, .int 0, .int 0, .int (-1)]) := (hf331 (b + 128) (by omega)).trans (ru_ne (by omega) (ru_ne (by omega) g317))
  have g335 : τ329 (b + 129) = some (aI V 4 (fun _ => 0)) := (hf331 (b + 129) (by omega)).trans (ru_ne (by omega) (ru_ne (by omega) g318))
  have g336 : τ329 (b + 193) = some (aR 6 V 20 (va_up (va_up (va_up (va_up (va_up (fun _ => none) 0 (some (b + 197))) 1 (some (b + 260))) 2 (some (b + 323))) 3 (some (b + 386))) 4 (some (b + 449)))) := (hf331 (b + 193) (by omega)).trans (ru_ne (by omega) ru_eq)
  have g337 : τ329 (b + 194) = some (ob 0 [.long 0, .long 0]) := (hf331 (b + 194) (by omega)).trans (ru_ne (by omega) (ru_ne (by omega) g320))
  have g338 : τ329 (b + 195) = some (ob 0 [.long 0, .long 0]) := (hf331 (b + 195) (by omega)).trans (ru_ne (by omega) (ru_ne (by omega) g321))
  have g339 : τ329 (b + 196) = some (ob 0 [.long 0, .long 0]) := (hf331 (b + 196) (by omega)).trans (ru_ne (by omega) (ru_ne (by omega) g322))
  have bz340 : BZ V τ329 (b + 2) := bz323.keep (fun x g1 g2 => (hf331 x (by omega)).trans (ru_ne (by omega) (ru_ne (by omega) rfl)))
  have bz341 : BZ V τ329 (b + 65) := bz324.keep (fun x g1 g2 => (hf331 x (by omega)).trans (ru_ne (by omega) (ru_ne (by omega) rfl)))
  have bz342 : BZ V τ329 (b + 130) := bz325.keep (fun x g1 g2 => (hf331 x (by omega)).trans (ru_ne (by omega) (ru_ne (by omega) rfl)))
  have pa343 : ∀ j, j < 5 → BZ V τ329 (b + 197 + 63 * j) := fun j hj => (pa328 j hj).keep (fun x g1 g2 => (hf331 x (by omega)).trans (ru_ne (by omega) (ru_ne (by omega) rfl)))
  have fr344 : ∀ q : Nat, q < b → τ329 q = σ q := fun q h1 => (hf331 q (by omega)).trans (ru_ne (by omega) (ru_ne (by omega) (fr327 q h1)))
  have pa345 : ∀ j, j < 6 → BZ V τ329 (b + 197 + 63 * j) := fun j hj => (Nat.lt_or_ge j 5).elim (fun h => pa343 j h) (fun h => (show 5 = j by omega) ▸ bz330)
  refine m_aast F (j := 5) e_X9_init_127 g336 rfl bz330.1.1 rfl (by decide) (by unfold vp_in; decide) rfl rfl ?_
  refine m_iinc F (v := 6) (lv' := [(1, .int 6), (0, .ref b)]) e_X9_init_128 rfl (by decide) (by decide) rfl ?_
  refine m_goto F e_X9_init_131 ?_
  refine m_iload_n F rfl e_X9_init_109 ?_
  refine m_bipush F (v := 20) (by decide) e_X9_init_110 ?_
  refine m_icmp_ge F e_X9_init_112 (fun q => absurd q (by decide)) (fun _ => ?_)
  refine m_aload_n F rfl e_X9_init_115 ?_
  refine m_get F e_X9_init_116 fl_X9_35 (ru_ne (by omega) g332) rfl ?_
  refine m_iload_n F rfl e_X9_init_119 ?_
  refine m_new F e_X9_init_120 fn_X9_13 (k' := 575) (z' := 17136) (N' := b + 576) rfl rfl rfl (Nat.le_of_ble_eq_true rfl) (Nat.le_of_ble_eq_true rfl) ?_
  refine m_dup F rfl e_X9_init_123 ?_
  refine m_callI F e_X9_init_124 (k_Book_init (x_l X) V _ (b + 575) ru_eq) cb_X2_init ml_X9_15 im_X2_init rfl rfl (rest := [.ref (b + 575), .int 6, .ref (b + 193)]) rfl (Nat.le_of_ble_eq_true rfl) ⟨Nat.le_of_ble_eq_true rfl, Nat.le_of_ble_eq_true rfl⟩ ⟨Nat.le_of_ble_eq_true rfl, Nat.le_of_ble_eq_true rfl⟩ (k' := 637) (z' := 18943) (N' := b + 638) rfl rfl rfl (fun r τ346 hp => ?_)
  obtain ⟨rfl, bz347, hf348⟩ := hp
  have g349 : τ346 b = some (ob 7 [.ref (b + 1), .int 0, .ref (b + 2), .ref (b + 65), .ref (b + 128), .ref (b + 130), .int 0, .ref (b + 193), .int 0, .int 0, .ref (b + 194), .ref (b + 195), .ref (b + 196)]) := (hf348 b (by omega)).trans (ru_ne (by omega) (ru_ne (by omega) g332))
  have g350 : τ346 (b + 1) = some (aB V 700 (fun _ => 0)) := (hf348 (b + 1) (by omega)).trans (ru_ne (by omega) (ru_ne (by omega) g333))
  have g351 : τ346 (b + 128) = some (ob 5 [.ref (b + 1), .int 0, .ref (b + 65), .ref (b + 129), .int 0, .int 0, .int 0, .int 0, .int 0, .int 0, .int 0, .int 0, .int (-1)]) := (hf348 (b + 128) (by omega)).trans (ru_ne (by omega) (ru_ne (by omega) g334))
  have g352 : τ346 (b + 129) = some (aI V 4 (fun _ => 0)) := (hf348 (b + 129) (by omega)).trans (ru_ne (by omega) (ru_ne (by omega) g335))
  have g353 : τ346 (b + 193) = some (aR 6 V 20 (va_up (va_up (va_up (va_up (va_up (va_up (fun _ => none) 0 (some (b + 197))) 1 (some (b + 260))) 2 (some (b + 323))) 3 (some (b + 386))) 4 (some (b + 449))) 5 (some (b + 512)))) := (hf348 (b + 193) (by omega)).trans (ru_ne (by omega) ru_eq)
  have g354 : τ346 (b + 194) = some (ob 0 [.long 0, .long 0]) := (hf348 (b + 194) (by omega)).trans (ru_ne (by omega) (ru_ne (by omega) g337))
  have g355 : τ346 (b + 195) = some (ob 0 [.long 0, .long 0]) := (hf348 (b + 195) (by omega)).trans (ru_ne (by omega) (ru_ne (by omega) g338))
  have g356 : τ346 (b + 196) = some (ob 0 [.long 0, .long 0]) := (hf348 (b + 196) (by omega)).trans (ru_ne (by omega) (ru_ne (by omega) g339))
  have bz357 : BZ V τ346 (b + 2) := bz340.keep (fun x g1 g2 => (hf348 x (by omega)).trans (ru_ne (by omega) (ru_ne (by omega) rfl)))
  have bz358 : BZ V τ346 (b + 65) := bz341.keep (fun x g1 g2 => (hf348 x (by omega)).trans (ru_ne (by omega) (ru_ne (by omega) rfl)))
  have bz359 : BZ V τ346 (b + 130) := bz342.keep (fun x g1 g2 => (hf348 x (by omega)).trans (ru_ne (by omega) (ru_ne (by omega) rfl)))
  have pa360 : ∀ j, j < 6 → BZ V τ346 (b + 197 + 63 * j) := fun j hj => (pa345 j hj).keep (fun x g1 g2 => (hf348 x (by omega)).trans (ru_ne (by omega) (ru_ne (by omega) rfl)))
  have fr361 : ∀ q : Nat, q < b → τ346 q = σ q := fun q h1 => (hf348 q (by omega)).trans (ru_ne (by omega) (ru_ne (by omega) (fr344 q h1)))
  have pa362 : ∀ j, j < 7 → BZ V τ346 (b + 197 + 63 * j) := fun j hj => (Nat.lt_or_ge j 6).elim (fun h => pa360 j h) (fun h => (show 6 = j by omega) ▸ bz347)
  refine m_aast F (j := 6) e_X9_init_127 g353 rfl bz347.1.1 rfl (by decide) (by unfold vp_in; decide) rfl rfl ?_
  refine m_iinc F (v := 7) (lv' := [(1, .int 7), (0, .ref b)]) e_X9_init_128 rfl (by decide) (by decide) rfl ?_
  refine m_goto F e_X9_init_131 ?_
  refine m_iload_n F rfl e_X9_init_109 ?_
  refine m_bipush F (v := 20) (by decide) e_X9_init_110 ?_
  refine m_icmp_ge F e_X9_init_112 (fun q => absurd q (by decide)) (fun _ => ?_)
  refine m_aload_n F rfl e_X9_init_115 ?_
  refine m_get F e_X9_init_116 fl_X9_35 (ru_ne (by omega) g349) rfl ?_
  refine m_iload_n F rfl e_X9_init_119 ?_
  refine m_new F e_X9_init_120 fn_X9_13 (k' := 638) (z' := 18956) (N' := b + 639) rfl rfl rfl (Nat.le_of_ble_eq_true rfl) (Nat.le_of_ble_eq_true rfl) ?_
  refine m_dup F rfl e_X9_init_123 ?_
  refine m_callI F e_X9_init_124 (k_Book_init (x_l X) V _ (b + 638) ru_eq) cb_X2_init ml_X9_15 im_X2_init rfl rfl (rest := [.ref (b + 638), .int 7, .ref (b + 193)]) rfl (Nat.le_of_ble_eq_true rfl) ⟨Nat.le_of_ble_eq_true rfl, Nat.le_of_ble_eq_true rfl⟩ ⟨Nat.le_of_ble_eq_true rfl, Nat.le_of_ble_eq_true rfl⟩ (k' := 700) (z' := 20763) (N' := b + 701) rfl rfl rfl (fun r τ363 hp => ?_)
  obtain ⟨rfl, bz364, hf365⟩ := hp
  have g366 : τ363 b = some (ob 7 [.ref (b + 1), .int 0, .ref (b + 2), .ref (b + 65), .ref (b + 128), .ref (b + 130), .int 0, .ref (b + 193), .int 0, .int 0, .ref (b + 194), .ref (b + 195), .ref (b + 196)]) := (hf365 b (by omega)).trans (ru_ne (by omega) (ru_ne (by omega) g349))
  have g367 : τ363 (b + 1) = some (aB V 700 (fun _ => 0)) := (hf365 (b + 1) (by omega)).trans (ru_ne (by omega) (ru_ne (by omega) g350))
  have g368 : τ363 (b + 128) = some (ob 5 [.ref (b + 1), .int 0, .ref (b + 65), .ref (b + 129), .int 0, .int 0, .int 0, .int 0, .int 0, .int 0, .int 0, .int 0, .int (-1)]) := (hf365 (b + 128) (by omega)).trans (ru_ne (by omega) (ru_ne (by omega) g351))
  have g369 : τ363 (b + 129) = some (aI V 4 (fun _ => 0)) := (hf365 (b + 129) (by omega)).trans (ru_ne (by omega) (ru_ne (by omega) g352))
  have g370 : τ363 (b + 193) = some (aR 6 V 20 (va_up (va_up (va_up (va_up (va_up (va_up (va_up (fun _ => none) 0 (some (b + 197))) 1 (some (b + 260))) 2 (some (b + 323))) 3 (some (b + 386))) 4 (some (b + 449))) 5 (some (b + 512))) 6 (some (b + 575)))) := (hf365 (b + 193) (by omega)).trans (ru_ne (by omega) ru_eq)
  have g371 : τ363 (b + 194) = some (ob 0 [.long 0, .long 0]) := (hf365 (b + 194) (by omega)).trans (ru_ne (by omega) (ru_ne (by omega) g354))
  have g372 : τ363 (b + 195) = some (ob 0 [.long 0, .long 0]) := (hf365 (b + 195) (by omega)).trans (ru_ne (by omega) (ru_ne (by omega) g355))
  have g373 : τ363 (b + 196) = some (ob 0 [.long 0, .long 0]) := (hf365 (b + 196) (by omega)).trans (ru_ne (by omega) (ru_ne (by omega) g356))
  have bz374 : BZ V τ363 (b + 2) := bz357.keep (fun x g1 g2 => (hf365 x (by omega)).trans (ru_ne (by omega) (ru_ne (by omega) rfl)))
  have bz375 : BZ V τ363 (b + 65) := bz358.keep (fun x g1 g2 => (hf365 x (by omega)).trans (ru_ne (by omega) (ru_ne (by omega) rfl)))
  have bz376 : BZ V τ363 (b + 130) := bz359.keep (fun x g1 g2 => (hf365 x (by omega)).trans (ru_ne (by omega) (ru_ne (by omega) rfl)))
  have pa377 : ∀ j, j < 7 → BZ V τ363 (b + 197 + 63 * j) := fun j hj => (pa362 j hj).keep (fun x g1 g2 => (hf365 x (by omega)).trans (ru_ne (by omega) (ru_ne (by omega) rfl)))
  have fr378 : ∀ q : Nat, q < b → τ363 q = σ q := fun q h1 => (hf365 q (by omega)).trans (ru_ne (by omega) (ru_ne (by omega) (fr361 q h1)))
  have pa379 : ∀ j, j < 8 → BZ V τ363 (b + 197 + 63 * j) := fun j hj => (Nat.lt_or_ge j 7).elim (fun h => pa377 j h) (fun h => (show 7 = j by omega) ▸ bz364)
  refine m_aast F (j := 7) e_X9_init_127 g370 rfl bz364.1.1 rfl (by decide) (by unfold vp_in; decide) rfl rfl ?_
  refine m_iinc F (v := 8) (lv' := [(1, .int 8), (0, .ref b)]) e_X9_init_128 rfl (by decide) (by decide) rfl ?_
  refine m_goto F e_X9_init_131 ?_
  refine m_iload_n F rfl e_X9_init_109 ?_
  refine m_bipush F (v := 20) (by decide) e_X9_init_110 ?_
  refine m_icmp_ge F e_X9_init_112 (fun q => absurd q (by decide)) (fun _ => ?_)
  refine m_aload_n F rfl e_X9_init_115 ?_
  refine m_get F e_X9_init_116 fl_X9_35 (ru_ne (by omega) g366) rfl ?_
  refine m_iload_n F rfl e_X9_init_119 ?_
  refine m_new F e_X9_init_120 fn_X9_13 (k' := 701) (z' := 20776) (N' := b + 702) rfl rfl rfl (Nat.le_of_ble_eq_true rfl) (Nat.le_of_ble_eq_true rfl) ?_
  refine m_dup F rfl e_X9_init_123 ?_
  refine m_callI F e_X9_init_124 (k_Book_init (x_l X) V _ (b + 701) ru_eq) cb_X2_init ml_X9_15 im_X2_init rfl rfl (rest := [.ref (b + 701), .int 8, .ref (b + 193)]) rfl (Nat.le_of_ble_eq_true rfl) ⟨Nat.le_of_ble_eq_true rfl, Nat.le_of_ble_eq_true rfl⟩ ⟨Nat.le_of_ble_eq_true rfl, Nat.le_of_ble_eq_true rfl⟩ (k' := 763) (z' := 22583) (N' := b + 764) rfl rfl rfl (fun r τ380 hp => ?_)
  obtain ⟨rfl, bz381, hf382⟩ := hp
  have g383 : τ380 b = some (ob 7 [.ref (b + 1), .int 0, .ref (b + 2), .ref (b + 65), .ref (b + 128), .ref (b + 130), .int 0, .ref (b + 193), .int 0, .int 0, .ref (b + 194), .ref (b + 195), .ref (b + 196)]) := (hf382 b (by omega)).trans (ru_ne (by omega) (ru_ne (by omega) g366))
  have g384 : τ380 (b + 1) = some (aB V 700 (fun _ => 0)) := (hf382 (b + 1) (by omega)).trans (ru_ne (by omega) (ru_ne (by omega) g367))
  have g385 : τ380 (b + 128) = some (ob 5 [.ref (b + 1), .int 0, .ref (b + 65), .ref (b + 129), .int 0, .int 0, .int 0, .int 0, .int 0, .int 0, .int 0, .int 0, .int (-1)]) := (hf382 (b + 128) (by omega)).trans (ru_ne (by omega) (ru_ne (by omega) g368))
  have g386 : τ380 (b + 129) = some (aI V 4 (fun _ => 0)) := (hf382 (b + 129) (by omega)).trans (ru_ne (by omega) (ru_ne (by omega) g369))
  have g387 : τ380 (b + 193) = some (aR 6 V 20 (va_up (va_up (va_up (va_up (va_up (va_up (va_up (va_up (fun _ => none) 0 (some (b + 197))) 1 (some (b + 260))) 2 (some (b + 323))) 3 (some (b + 386))) 4 (some (b + 449))) 5 (some (b + 512))) 6 (some (b + 575))) 7 (some (b + 638)))) := (hf382 (b + 193) (by omega)).trans (ru_ne (by omega) ru_eq)
  have g388 : τ380 (b + 194) = some (ob 0 [.long 0, .long 0]) := (hf382 (b + 194) (by omega)).trans (ru_ne (by omega) (ru_ne (by omega) g371))
  have g389 : τ380 (b + 195) = some (ob 0 [.long 0, .long 0]) := (hf382 (b + 195) (by omega)).trans (ru_ne (by omega) (ru_ne (by omega) g372))
  have g390 : τ380 (b + 196) = some (ob 0 [.long 0, .long 0]) := (hf382 (b + 196) (by omega)).trans (ru_ne (by omega) (ru_ne (by omega) g373))
  have bz391 : BZ V τ380 (b + 2) := bz374.keep (fun x g1 g2 => (hf382 x (by omega)).trans (ru_ne (by omega) (ru_ne (by omega) rfl)))
  have bz392 : BZ V τ380 (b + 65) := bz375.keep (fun x g1 g2 => (hf382 x (by omega)).trans (ru_ne (by omega) (ru_ne (by omega) rfl)))
  have bz393 : BZ V τ380 (b + 130) := bz376.keep (fun x g1 g2 => (hf382 x (by omega)).trans (ru_ne (by omega) (ru_ne (by omega) rfl)))
  have pa394 : ∀ j, j < 8 → BZ V τ380 (b + 197 + 63 * j) := fun j hj => (pa379 j hj).keep (fun x g1 g2 => (hf382 x (by omega)).trans (ru_ne (by omega) (ru_ne (by omega) rfl)))
  have fr395 : ∀ q : Nat, q < b → τ380 q = σ q := fun q h1 => (hf382 q (by omega)).trans (ru_ne (by omega) (ru_ne (by omega) (fr378 q h1)))
  have pa396 : ∀ j, j < 9 → BZ V τ380 (b + 197 + 63 * j) := fun j hj => (Nat.lt_or_ge j 8).elim (fun h => pa394 j h) (fun h => (show 8 = j by omega) ▸ bz381)
  refine m_aast F (j := 8) e_X9_init_127 g387 rfl bz381.1.1 rfl (by decide) (by unfold vp_in; decide) rfl rfl ?_
  refine m_iinc F (v := 9) (lv' := [(1, .int 9), (0, .ref b)]) e_X9_init_128 rfl (by decide) (by decide) rfl ?_
  refine m_goto F e_X9_init_131 ?_
  refine m_iload_n F rfl e_X9_init_109 ?_
  refine m_bipush F (v := 20) (by decide) e_X9_init_110 ?_
  refine m_icmp_ge F e_X9_init_112 (fun q => absurd q (by decide)) (fun _ => ?_)
  refine m_aload_n F rfl e_X9_init_115 ?_
  refine m_get F e_X9_init_116 fl_X9_35 (ru_ne (by omega) g383) rfl ?_
  refine m_iload_n F rfl e_X9_init_119 ?_
  refine m_new F e_X9_init_120 fn_X9_13 (k' := 764) (z' := 22596) (N' := b + 765) rfl rfl rfl (Nat.le_of_ble_eq_true rfl) (Nat.le_of_ble_eq_true rfl) ?_
  refine m_dup F rfl e_X9_init_123 ?_
  refine m_callI F e_X9_init_124 (k_Book_init (x_l X) V _ (b + 764) ru_eq) cb_X2_init ml_X9_15 im_X2_init rfl rfl (rest := [.ref (b + 764), .int 9, .ref (b + 193)]) rfl (Nat.le_of_ble_eq_true rfl) ⟨Nat.le_of_ble_eq_true rfl, Nat.le_of_ble_eq_true rfl⟩ ⟨Nat.le_of_ble_eq_true rfl, Nat.le_of_ble_eq_true rfl⟩ (k' := 826) (z' := 24403) (N' := b + 827) rfl rfl rfl (fun r τ397 hp => ?_)
  obtain ⟨rfl, bz398, hf399⟩ := hp
  have g400 : τ397 b = some (ob 7 [.ref (b + 1), .int 0, .ref (b + 2), .ref (b + 65), .ref (b + 128), .ref (b + 130), .int 0, .ref (b + 193), .int 0, .int 0, .ref (b + 194), .ref (b + 195), .ref (b + 196)]) := (hf399 b (by omega)).trans (ru_ne (by omega) (ru_ne (by omega) g383))
  have g401 : τ397 (b + 1) = some (aB V 700 (fun _ => 0)) := (hf399 (b + 1) (by omega)).trans (ru_ne (by omega) (ru_ne (by omega) g384))
  have g402 : τ397 (b + 128) = some (ob 5 [.ref (b + 1), .int 0, .ref (b + 65), .ref (b + 129), .int 0, .int 0, .int 0, .int 0, .int 0, .int 0, .int 0, .int 0, .int (-1)]) := (hf399 (b + 128) (by omega)).trans (ru_ne (by omega) (ru_ne (by omega) g385))
  have g403 : τ397 (b + 129) = some (aI V 4 (fun _ => 0)) := (hf399 (b + 129) (by omega)).trans (ru_ne (by omega) (ru_ne (by omega) g386))
  have g404 : τ397 (b + 193) = some (aR 6 V 20 (va_up (va_up (va_up (va_up (va_up (va_up (va_up (va_up (va_up (fun _ => none) 0 (some (b + 197))) 1 (some (b + 260))) 2 (some (b + 323))) 3 (some (b + 386))) 4 (some (b + 449))) 5 (some (b + 512))) 6 (some (b + 575))) 7 (some (b + 638))) 8 (some (b + 701)))) := (hf399 (b + 193) (by omega)).trans (ru_ne (by omega) ru_eq)
  have g405 : τ397 (b + 194) = some (ob 0 [.long 0, .long 0]) := (hf399 (b + 194) (by omega)).trans (ru_ne (by omega) (ru_ne (by omega) g388))
  have g406 : τ397 (b + 195) = some (ob 0 [.long 0, .long 0]) := (hf399 (b + 195) (by omega)).trans (ru_ne (by omega) (ru_ne (by omega) g389))
  have g407 : τ397 (b + 196) = some (ob 0 [.long 0, .long 0]) := (hf399 (b + 196) (by omega)).trans (ru_ne (by omega) (ru_ne (by omega) g390))
  have bz408 : BZ V τ397 (b + 2) := bz391.keep (fun x g1 g2 => (hf399 x (by omega)).trans (ru_ne (by omega) (ru_ne (by omega) rfl)))
  have bz409 : BZ V τ397 (b + 65) := bz392.keep (fun x g1 g2 => (hf399 x (by omega)).trans (ru_ne (by omega) (ru_ne (by omega) rfl)))
  have bz410 : BZ V τ397 (b + 130) := bz393.keep (fun x g1 g2 => (hf399 x (by omega)).trans (ru_ne (by omega) (ru_ne (by omega) rfl)))
  have pa411 : ∀ j, j < 9 → BZ V τ397 (b + 197 + 63 * j) := fun j hj => (pa396 j hj).keep (fun x g1 g2 => (hf399 x (by omega)).trans (ru_ne (by omega) (ru_ne (by omega) rfl)))
  have fr412 : ∀ q : Nat, q < b → τ397 q = σ q := fun q h1 => (hf399 q (by omega)).trans (ru_ne (by omega) (ru_ne (by omega) (fr395 q h1)))
  have pa413 : ∀ j, j < 10 → BZ V τ397 (b + 197 + 63 * j) := fun j hj => (Nat.lt_or_ge j 9).elim (fun h => pa411 j h) (fun h => (show 9 = j by omega) ▸ bz398)
  refine m_aast F (j := 9) e_X9_init_127 g404 rfl bz398.1.1 rfl (by decide) (by unfold vp_in; decide) rfl rfl ?_
  refine m_iinc F (v := 10) (lv' := [(1, .int 10), (0, .ref b)]) e_X9_init_128 rfl (by decide) (by decide) rfl ?_
  refine m_goto F e_X9_init_131 ?_
  refine m_iload_n F rfl e_X9_init_109 ?_
  refine m_bipush F (v := 20) (by decide) e_X9_init_110 ?_
  refine m_icmp_ge F e_X9_init_112 (fun q => absurd q (by decide)) (fun _ => ?_)
  refine m_aload_n F rfl e_X9_init_115 ?_
  refine m_get F e_X9_init_116 fl_X9_35 (ru_ne (by omega) g400) rfl ?_
  refine m_iload_n F rfl e_X9_init_119 ?_
  refine m_new F e_X9_init_120 fn_X9_13 (k' := 827) (z' := 24416) (N' := b + 828) rfl rfl rfl (Nat.le_of_ble_eq_true rfl) (Nat.le_of_ble_eq_true rfl) ?_
  refine m_dup F rfl e_X9_init_123 ?_
  refine m_callI F e_X9_init_124 (k_Book_init (x_l X) V _ (b + 827) ru_eq) cb_X2_init ml_X9_15 im_X2_init rfl rfl (rest := [.ref (b + 827), .int 10, .ref (b + 193)]) rfl (Nat.le_of_ble_eq_true rfl) ⟨Nat.le_of_ble_eq_true rfl, Nat.le_of_ble_eq_true rfl⟩ ⟨Nat.le_of_ble_eq_true rfl, Nat.le_of_ble_eq_true rfl⟩ (k' := 889) (z' := 26223) (N' := b + 890) rfl rfl rfl (fun r τ414 hp => ?_)
  obtain ⟨rfl, bz415, hf416⟩ := hp
  have g417 : τ414 b = some (ob 7 [.ref (b + 1), .int 0, .ref (b + 2), .ref (b + 65), .ref (b + 128), .ref (b + 130), .int 0, .ref (b + 193), .int 0, .int 0, .ref (b + 194), .ref (b + 195), .ref (b + 196)]) := (hf416 b (by omega)).trans (ru_ne (by omega) (ru_ne (by omega) g400))
  have g418 : τ414 (b + 1) = some (aB V 700 (fun _ => 0)) := (hf416 (b + 1) (by omega)).trans (ru_ne (by omega) (ru_ne (by omega) g401))
  have g419 : τ414 (b + 128) = some (ob 5 [.ref (b + 1), .int 0, .ref (b + 65), .ref (b + 129), .int 0, .int 0, .int 0, .int 0, .int 0, .int 0, .int 0, .int 0, .int (-1)]) := (hf416 (b + 128) (by omega)).trans (ru_ne (by omega) (ru_ne (by omega) g402))
  have g420 : τ414 (b + 129) = some (aI V 4 (fun _ => 0)) := (hf416 (b + 129) (by omega)).trans (ru_ne (by omega) (ru_ne (by omega) g403))
  have g421 : τ414 (b + 193) = some (aR 6 V 20 (va_up (va_up (va_up (va_up (va_up (va_up (va_up (va_up (va_up (va_up (fun _ => none) 0 (some (b + 197))) 1 (some (b + 260))) 2 (some (b + 323))) 3 (some (b + 386))) 4 (some (b + 449))) 5 (some (b + 512))) 6 (some (b + 575))) 7 (some (b + 638))) 8 (some (b + 701))) 9 (some (b + 764)))) := (hf416 (b + 193) (by omega)).trans (ru_ne (by omega) ru_eq)
  have g422 : τ414 (b + 194) = some (ob 0 [.long 0, .long 0]) := (hf416 (b + 194) (by omega)).trans (ru_ne (by omega) (ru_ne (by omega) g405))
  have g423 : τ414 (b + 195) = some (ob 0 [.long 0, .long 0]) := (hf416 (b + 195) (by omega)).trans (ru_ne (by omega) (ru_ne (by omega) g406))
  have g424 : τ414 (b + 196) = some (ob 0 [.long 0, .long 0]) := (hf416 (b + 196) (by omega)).trans (ru_ne (by omega) (ru_ne (by omega) g407))
  have bz425 : BZ V τ414 (b + 2) := bz408.keep (fun x g1 g2 => (hf416 x (by omega)).trans (ru_ne (by omega) (ru_ne (by omega) rfl)))
  have bz426 : BZ V τ414 (b + 65) := bz409.keep (fun x g1 g2 => (hf416 x (by omega)).trans (ru_ne (by omega) (ru_ne (by omega) rfl)))
  have bz427 : BZ V τ414 (b + 130) := bz410.keep (fun x g1 g2 => (hf416 x (by omega)).trans (ru_ne (by omega) (ru_ne (by omega) rfl)))
  have pa428 : ∀ j, j < 10 → BZ V τ414 (b + 197 + 63 * j) := fun j hj => (pa413 j hj).keep (fun x g1 g2 => (hf416 x (by omega)).trans (ru_ne (by omega) (ru_ne (by omega) rfl)))
  have fr429 : ∀ q : Nat, q < b → τ414 q = σ q := fun q h1 => (hf416 q (by omega)).trans (ru_ne (by omega) (ru_ne (by omega) (fr412 q h1)))
  have pa430 : ∀ j, j < 11 → BZ V τ414 (b + 197 + 63 * j) := fun j hj => (Nat.lt_or_ge j 10).elim (fun h => pa428 j h) (fun h => (show 10 = j by omega) ▸ bz415)
  refine m_aast F (j := 10) e_X9_init_127 g421 rfl bz415.1.1 rfl (by decide) (by unfold vp_in; decide) rfl rfl ?_
  refine m_iinc F (v := 11) (lv' := [(1, .int 11), (0, .ref b)]) e_X9_init_128 rfl (by decide) (by decide) rfl ?_
  refine m_goto F e_X9_init_131 ?_
  refine m_iload_n F rfl e_X9_init_109 ?_
  refine m_bipush F (v := 20) (by decide) e_X9_init_110 ?_
  refine m_icmp_ge F e_X9_init_112 (fun q => absurd q (by decide)) (fun _ => ?_)
  refine m_aload_n F rfl e_X9_init_115 ?_
  refine m_get F e_X9_init_116 fl_X9_35 (ru_ne (by omega) g417) rfl ?_
  refine m_iload_n F rfl e_X9_init_119 ?_
  refine m_new F e_X9_init_120 fn_X9_13 (k' := 890) (z' := 26236) (N' := b + 891) rfl rfl rfl (Nat.le_of_ble_eq_true rfl) (Nat.le_of_ble_eq_true rfl) ?_
  refine m_dup F rfl e_X9_init_123 ?_
  refine m_callI F e_X9_init_124 (k_Book_init (x_l X) V _ (b + 890) ru_eq) cb_X2_init ml_X9_15 im_X2_init rfl rfl (rest := [.ref (b + 890), .int 11, .ref (b + 193)]) rfl (Nat.le_of_ble_eq_true rfl) ⟨Nat.le_of_ble_eq_true rfl, Nat.le_of_ble_eq_true rfl⟩ ⟨Nat.le_of_ble_eq_true rfl, Nat.le_of_ble_eq_true rfl⟩ (k' := 952) (z' := 28043) (N' := b + 953) rfl rfl rfl (fun r τ431 hp => ?_)
  obtain ⟨rfl, bz432, hf433⟩ := hp
  have g434 : τ431 b = some (ob 7 [.ref (b + 1), .int 0, .ref (b + 2), .ref (b + 65), .ref (b + 128), .ref (b + 130), .int 0, .ref (b + 193), .int 0, .int 0, .ref (b + 194), .ref (b + 195), .ref (b + 196)]) := (hf433 b (by omega)).trans (ru_ne (by omega) (ru_ne (by omega) g417))
  have g435 : τ431 (b + 1) = some (aB V 700 (fun _ => 0)) := (hf433 (b + 1) (by omega)).trans (ru_ne (by omega) (ru_ne (by omega) g418))
  have g436 : τ431 (b + 128) = some (ob 5 [.ref (b + 1), .int 0, .ref (b + 65), .ref (b + 129), .int 0, .int 0, .int 0, .int 0, .int 0, .int 0, .int 0, .int 0, .int (-1)]) := (hf433 (b + 128) (by omega)).trans (ru_ne (by omega) (ru_ne (by omega) g419))
  have g437 : τ431 (b + 129) = some (aI V 4 (fun _ => 0)) := (hf433 (b + 129) (by omega)).trans (ru_ne (by omega) (ru_ne (by omega) g420))
  have g438 : τ431 (b + 193) = some (aR 6 V 20 (va_up (va_up (va_up (va_up (va_up (va_up (va_up (va_up (va_up (va_up (va_up (fun _ => none) 0 (some (b + 197))) 1 (some (b + 260))) 2 (some (b + 323))) 3 (some (b + 386))) 4 (some (b + 449))) 5 (some (b + 512))) 6 (some (b + 575))) 7 (some (b + 638))) 8 (some (b + 701))) 9 (some (b + 764))) 10 (some (b + 827)))) := (hf433 (b + 193) (by omega)).trans (ru_ne (by omega) ru_eq)
  have g439 : τ431 (b + 194) = some (ob 0 [.long 0, .long 0]) := (hf433 (b + 194) (by omega)).trans (ru_ne (by omega) (ru_ne (by omega) g422))
  have g440 : τ431 (b + 195) = some (ob 0 [.long 0, .long 0]) := (hf433 (b + 195) (by omega)).trans (ru_ne (by omega) (ru_ne (by omega) g423))
  have g441 : τ431 (b + 196) = some (ob 0 [.long 0, .long 0]) := (hf433 (b + 196) (by omega)).trans (ru_ne (by omega) (ru_ne (by omega) g424))
  have bz442 : BZ V τ431 (b + 2) := bz425.keep (fun x g1 g2 => (hf433 x (by omega)).trans (ru_ne (by omega) (ru_ne (by omega) rfl)))
  have bz443 : BZ V τ431 (b + 65) := bz426.keep (fun x g1 g2 => (hf433 x (by omega)).trans (ru_ne (by omega) (ru_ne (by omega) rfl)))
  have bz444 : BZ V τ431 (b + 130) := bz427.keep (fun x g1 g2 => (hf433 x (by omega)).trans (ru_ne (by omega) (ru_ne (by omega) rfl)))
  have pa445 : ∀ j, j < 11 → BZ V τ431 (b + 197 + 63 * j) := fun j hj => (pa430 j hj).keep (fun x g1 g2 => (hf433 x (by omega)).trans (ru_ne (by omega) (ru_ne (by omega) rfl)))
  have fr446 : ∀ q : Nat, q < b → τ431 q = σ q := fun q h1 => (hf433 q (by omega)).trans (ru_ne (by omega) (ru_ne (by omega) (fr429 q h1)))
  have pa447 : ∀ j, j < 12 → BZ V τ431 (b + 197 + 63 * j) := fun j hj => (Nat.lt_or_ge j 11).elim (fun h => pa445 j h) (fun h => (show 11 = j by omega) ▸ bz432)
  refine m_aast F (j := 11) e_X9_init_127 g438 rfl bz432.1.1 rfl (by decide) (by unfold vp_in; decide) rfl rfl ?_
  refine m_iinc F (v := 12) (lv' := [(1, .int 12), (0, .ref b)]) e_X9_init_128 rfl (by decide) (by decide) rfl ?_
  refine m_goto F e_X9_init_131 ?_
  refine m_iload_n F rfl e_X9_init_109 ?_
  refine m_bipush F (v := 20) (by decide) e_X9_init_110 ?_
  refine m_icmp_ge F e_X9_init_112 (fun q => absurd q (by decide)) (fun _ => ?_)
  refine m_aload_n F rfl e_X9_init_115 ?_
  refine m_get F e_X9_init_116 fl_X9_35 (ru_ne (by omega) g434) rfl ?_
  refine m_iload_n F rfl e_X9_init_119 ?_
  refine m_new F e_X9_init_120 fn_X9_13 (k' := 953) (z' := 28056) (N' := b + 954) rfl rfl rfl (Nat.le_of_ble_eq_true rfl) (Nat.le_of_ble_eq_true rfl) ?_
  refine m_dup F rfl e_X9_init_123 ?_
  refine m_callI F e_X9_init_124 (k_Book_init (x_l X) V _ (b + 953) ru_eq) cb_X2_init ml_X9_15 im_X2_init rfl rfl (rest := [.ref (b + 953), .int 12, .ref (b + 193)]) rfl (Nat.le_of_ble_eq_true rfl) ⟨Nat.le_of_ble_eq_true rfl, Nat.le_of_ble_eq_true rfl⟩ ⟨Nat.le_of_ble_eq_true rfl, Nat.le_of_ble_eq_true rfl⟩ (k' := 1015) (z' := 29863) (N' := b + 1016) rfl rfl rfl (fun r τ448 hp => ?_)
  obtain ⟨rfl, bz449, hf450⟩ := hp
  have g451 : τ448 b = some (ob 7 [.ref (b + 1), .int 0, .ref (b + 2), .ref (b + 65), .ref (b + 128), .ref (b + 130), .int 0, .ref (b + 193), .int 0, .int 0, .ref (b + 194), .ref (b + 195), .ref (b + 196)]) := (hf450 b (by omega)).trans (ru_ne (by omega) (ru_ne (by omega) g434))
  have g452 : τ448 (b + 1) = some (aB V 700 (fun _ => 0)) := (hf450 (b + 1) (by omega)).trans (ru_ne (by omega) (ru_ne (by omega) g435))
  have g453 : τ448 (b + 128) = some (ob 5 [.ref (b + 1), .int 0, .ref (b + 65), .ref (b + 129), .int 0, .int 0, .int 0, .int 0, .int 0, .int 0, .int 0, .int 0, .int (-1)]) := (hf450 (b + 128) (by omega)).trans (ru_ne (by omega) (ru_ne (by omega) g436))
  have g454 : τ448 (b + 129) = some (aI V 4 (fun _ => 0)) := (hf450 (b + 129) (by omega)).trans (ru_ne (by omega) (ru_ne (by omega) g437))
  have g455 : τ448 (b + 193) = some (aR 6 V 20 (va_up (va_up (va_up (va_up (va_up (va_up (va_up (va_up (va_up (va_up (va_up (va_up (fun _ => none) 0 (some (b + 197))) 1 (some (b + 260))) 2 (some (b + 323))) 3 (some (b + 386))) 4 (some (b + 449))) 5 (some (b + 512))) 6 (some (b + 575))) 7 (some (b + 638))) 8 (some (b + 701))) 9 (some (b + 764))) 10 (some (b + 827))) 11 (some (b + 890)))) := (hf450 (b + 193) (by omega)).trans (ru_ne (by omega) ru_eq)
  have g456 : τ448 (b + 194) = some (ob 0 [.long 0, .long 0]) := (hf450 (b + 194) (by omega)).trans (ru_ne (by omega) (ru_ne (by omega) g439))
  have g457 : τ448 (b + 195) = some (ob 0 [.long 0, .long 0]) := (hf450 (b + 195) (by omega)).trans (ru_ne (by omega) (ru_ne (by omega) g440))
  have g458 : τ448 (b + 196) = some (ob 0 [.long 0, .long 0]) := (hf450 (b + 196) (by omega)).trans (ru_ne (by omega) (ru_ne (by omega) g441))
  have bz459 : BZ V τ448 (b + 2) := bz442.keep (fun x g1 g2 => (hf450 x (by omega)).trans (ru_ne (by omega) (ru_ne (by omega) rfl)))
  have bz460 : BZ V τ448 (b + 65) := bz443.keep (fun x g1 g2 => (hf450 x (by omega)).trans (ru_ne (by omega) (ru_ne (by omega) rfl)))
  have bz461 : BZ V τ448 (b + 130) := bz444.keep (fun x g1 g2 => (hf450 x (by omega)).trans (ru_ne (by omega) (ru_ne (by omega) rfl)))
  have pa462 : ∀ j, j < 12 → BZ V τ448 (b + 197 + 63 * j) := fun j hj => (pa447 j hj).keep (fun x g1 g2 => (hf450 x (by omega)).trans (ru_ne (by omega) (ru_ne (by omega) rfl)))
  have fr463 : ∀ q : Nat, q < b → τ448 q = σ q := fun q h1 => (hf450 q (by omega)).trans (ru_ne (by omega) (ru_ne (by omega) (fr446 q h1)))
  have pa464 : ∀ j, j < 13 → BZ V τ448 (b + 197 + 63 * j) := fun j hj => (Nat.lt_or_ge j 12).elim (fun h => pa462 j h) (fun h => (show 12 = j by omega) ▸ bz449)
  refine m_aast F (j := 12) e_X9_init_127 g455 rfl bz449.1.1 rfl (by decide) (by unfold vp_in; decide) rfl rfl ?_
  refine m_iinc F (v := 13) (lv' := [(1, .int 13), (0, .ref b)]) e_X9_init_128 rfl (by decide) (by decide) rfl ?_
  refine m_goto F e_X9_init_131 ?_
  refine m_iload_n F rfl e_X9_init_109 ?_
  refine m_bipush F (v := 20) (by decide) e_X9_init_110 ?_
  refine m_icmp_ge F e_X9_init_112 (fun q => absurd q (by decide)) (fun _ => ?_)
  refine m_aload_n F rfl e_X9_init_115 ?_
  refine m_get F e_X9_init_116 fl_X9_35 (ru_ne (by omega) g451) rfl ?_
  refine m_iload_n F rfl e_X9_init_119 ?_
  refine m_new F e_X9_init_120 fn_X9_13 (k' := 1016) (z' := 29876) (N' := b + 1017) rfl rfl rfl (Nat.le_of_ble_eq_true rfl) (Nat.le_of_ble_eq_true rfl) ?_
  refine m_dup F rfl e_X9_init_123 ?_
  refine m_callI F e_X9_init_124 (k_Book_init (x_l X) V _ (b + 1016) ru_eq) cb_X2_init ml_X9_15 im_X2_init rfl rfl (rest := [.ref (b + 1016), .int 13, .ref (b + 193)]) rfl (Nat.le_of_ble_eq_true rfl) ⟨Nat.le_of_ble_eq_true rfl, Nat.le_of_ble_eq_true rfl⟩ ⟨Nat.le_of_ble_eq_true rfl, Nat.le_of_ble_eq_true rfl⟩ (k' := 1078) (z' := 31683) (N' := b + 1079) rfl rfl rfl (fun r τ465 hp => ?_)
  obtain ⟨rfl, bz466, hf467⟩ := hp
  have g468 : τ465 b = some (ob 7 [.ref (b + 1), .int 0, .ref (b + 2), .ref (b + 65), .ref (b + 128), .ref (b + 130), .int 0, .ref (b + 193), .int 0, .int 0, .ref (b + 194), .ref (b + 195), .ref (b + 196)]) := (hf467 b (by omega)).trans (ru_ne (by omega) (ru_ne (by omega) g451))
  have g469 : τ465 (b + 1) = some (aB V 700 (fun _ => 0)) := (hf467 (b + 1) (by omega)).trans (ru_ne (by omega) (ru_ne (by omega) g452))
  have g470 : τ465 (b + 128) = some (ob 5 [.ref (b + 1), .int 0, .ref (b + 65), .ref (b + 129), .int 0, .int 0, .int 0, .int 0, .int 0, .int 0, .int 0, .int 0, .int (-1)]) := (hf467 (b + 128) (by omega)).trans (ru_ne (by omega) (ru_ne (by omega) g453))
  have g471 : τ465 (b + 129) = some (aI V 4 (fun _ => 0)) := (hf467 (b + 129) (by omega)).trans (ru_ne (by omega) (ru_ne (by omega) g454))
  have g472 : τ465 (b + 193) = some (aR 6 V 20 (va_up (va_up (va_up (va_up (va_up (va_up (va_up (va_up (va_up (va_up (va_up (va_up (va_up (fun _ => none) 0 (some (b + 197))) 1 (some (b + 260))) 2 (some (b + 323))) 3 (some (b + 386))) 4 (some (b + 449))) 5 (some (b + 512))) 6 (some (b + 575))) 7 (some (b + 638))) 8 (some (b + 701))) 9 (some (b + 764))) 10 (some (b + 827))) 11 (some (b + 890))) 12 (some (b + 953)))) := (hf467 (b + 193) (by omega)).trans (ru_ne (by omega) ru_eq)
  have g473 : τ465 (b + 194) = some (ob 0 [.long 0, .long 0]) := (hf467 (b + 194) (by omega)).trans (ru_ne (by omega) (ru_ne (by omega) g456))
  have g474 : τ465 (b + 195) = some (ob 0 [.long 0, .long 0]) := (hf467 (b + 195) (by omega)).trans (ru_ne (by omega) (ru_ne (by omega) g457))
  have g475 : τ465 (b + 196) = some (ob 0 [.long 0, .long 0]) := (hf467 (b + 196) (by omega)).trans (ru_ne (by omega) (ru_ne (by omega) g458))
  have bz476 : BZ V τ465 (b + 2) := bz459.keep (fun x g1 g2 => (hf467 x (by omega)).trans (ru_ne (by omega) (ru_ne (by omega) rfl)))
  have bz477 : BZ V τ465 (b + 65) := bz460.keep (fun x g1 g2 => (hf467 x (by omega)).trans (ru_ne (by omega) (ru_ne (by omega) rfl)))
  have bz478 : BZ V τ465 (b + 130) := bz461.keep (fun x g1 g2 => (hf467 x (by omega)).trans (ru_ne (by omega) (ru_ne (by omega) rfl)))
  have pa479 : ∀ j, j < 13 → BZ V τ465 (b + 197 + 63 * j) := fun j hj => (pa464 j hj).keep (fun x g1 g2 => (hf467 x (by omega)).trans (ru_ne (by omega) (ru_ne (by omega) rfl)))
  have fr480 : ∀ q : Nat, q < b → τ465 q = σ q := fun q h1 => (hf467 q (by omega)).trans (ru_ne (by omega) (ru_ne (by omega) (fr463 q h1)))
  have pa481 : ∀ j, j < 14 → BZ V τ465 (b + 197 + 63 * j) := fun j hj => (Nat.lt_or_ge j 13).elim (fun h => pa479 j h) (fun h => (show 13 = j by omega) ▸ bz466)
  refine m_aast F (j := 13) e_X9_init_127 g472 rfl bz466.1.1 rfl (by decide) (by unfold vp_in; decide) rfl rfl ?_
  refine m_iinc F (v := 14) (lv' := [(1, .int 14), (0, .ref b)]) e_X9_init_128 rfl (by decide) (by decide) rfl ?_
  refine m_goto F e_X9_init_131 ?_
  refine m_iload_n F rfl e_X9_init_109 ?_
  refine m_bipush F (v := 20) (by decide) e_X9_init_110 ?_
  refine m_icmp_ge F e_X9_init_112 (fun q => absurd q (by decide)) (fun _ => ?_)
  refine m_aload_n F rfl e_X9_init_115 ?_
  refine m_get F e_X9_init_116 fl_X9_35 (ru_ne (by omega) g468) rfl ?_
  refine m_iload_n F rfl e_X9_init_119 ?_
  refine m_new F e_X9_init_120 fn_X9_13 (k' := 1079) (z' := 31696) (N' := b + 1080) rfl rfl rfl (Nat.le_of_ble_eq_true rfl) (Nat.le_of_ble_eq_true rfl) ?_
  refine m_dup F rfl e_X9_init_123 ?_
  refine m_callI F e_X9_init_124 (k_Book_init (x_l X) V _ (b + 1079) ru_eq) cb_X2_init ml_X9_15 im_X2_init rfl rfl (rest := [.ref (b + 1079), .int 14, .ref (b + 193)]) rfl (Nat.le_of_ble_eq_true rfl) ⟨Nat.le_of_ble_eq_true rfl, Nat.le_of_ble_eq_true rfl⟩ ⟨Nat.le_of_ble_eq_true rfl, Nat.le_of_ble_eq_true rfl⟩ (k' := 1141) (z' := 33503) (N' := b + 1142) rfl rfl rfl (fun r τ482 hp => ?_)
  obtain ⟨rfl, bz483, hf484⟩ := hp
  have g485 : τ482 b = some (ob 7 [.ref (b + 1), .int 0, .ref (b + 2), .ref (b + 65), .ref (b + 128), .ref (b + 130), .int 0, .ref (b + 193), .int 0, .int 0, .ref (b + 194), .ref (b + 195), .ref (b + 196)]) := (hf484 b (by omega)).trans (ru_ne (by omega) (ru_ne (by omega) g468))
  have g486 : τ482 (b + 1) = some (aB V 700 (fun _ => 0)) := (hf484 (b + 1) (by omega)).trans (ru_ne (by omega) (ru_ne (by omega) g469))
  have g487 : τ482 (b + 128) = some (ob 5 [.ref (b + 1), .int 0, .ref (b + 65), .ref (b + 129), .int 0, .int 0, .int 0, .int 0, .int 0, .int 0, .int 0, .int 0, .int (-1)]) := (hf484 (b + 128) (by omega)).trans (ru_ne (by omega) (ru_ne (by omega) g470))
  have g488 : τ482 (b + 129) = some (aI V 4 (fun _ => 0)) := (hf484 (b + 129) (by omega)).trans (ru_ne (by omega) (ru_ne (by omega) g471))
  have g489 : τ482 (b + 193) = some (aR 6 V 20 (va_up (va_up (va_up (va_up (va_up (va_up (va_up (va_up (va_up (va_up (va_up (va_up (va_up (va_up (fun _ => none) 0 (some (b + 197))) 1 (some (b + 260))) 2 (some (b + 323))) 3 (some (b + 386))) 4 (some (b + 449))) 5 (some (b + 512))) 6 (some (b + 575))) 7 (some (b + 638))) 8 (some (b + 701))) 9 (some (b + 764))) 10 (some (b + 827))) 11 (some (b + 890))) 12 (some (b + 953))) 13 (some (b + 1016)))) := (hf484 (b + 193) (by omega)).trans (ru_ne (by omega) ru_eq)
  have g490 : τ482 (b + 194) = some (ob 0 [.long 0, .long 0]) := (hf484 (b + 194) (by omega)).trans (ru_ne (by omega) (ru_ne (by omega) g473))
  have g491 : τ482 (b + 195) = some (ob 0 [.long 0, .long 0]) := (hf484 (b + 195) (by omega)).trans (ru_ne (by omega) (ru_ne (by omega) g474))
  have g492 : τ482 (b + 196) = some (ob 0 [.long 0, .long 0]) := (hf484 (b + 196) (by omega)).trans (ru_ne (by omega) (ru_ne (by omega) g475))
  have bz493 : BZ V τ482 (b + 2) := bz476.keep (fun x g1 g2 => (hf484 x (by omega)).trans (ru_ne (by omega) (ru_ne (by omega) rfl)))
  have bz494 : BZ V τ482 (b + 65) := bz477.keep (fun x g1 g2 => (hf484 x (by omega)).trans (ru_ne (by omega) (ru_ne (by omega) rfl)))
  have bz495 : BZ V τ482 (b + 130) := bz478.keep (fun x g1 g2 => (hf484 x (by omega)).trans (ru_ne (by omega) (ru_ne (by omega) rfl)))
  have pa496 : ∀ j, j < 14 → BZ V τ482 (b + 197 + 63 * j) := fun j hj => (pa481 j hj).keep (fun x g1 g2 => (hf484 x (by omega)).trans (ru_ne (by omega) (ru_ne (by omega) rfl)))
  have fr497 : ∀ q : Nat, q < b → τ482 q = σ q := fun q h1 => (hf484 q (by omega)).trans (ru_ne (by omega) (ru_ne (by omega) (fr480 q h1)))
  have pa498 : ∀ j, j < 15 → BZ V τ482 (b + 197 + 63 * j) := fun j hj => (Nat.lt_or_ge j 14).elim (fun h => pa496 j h) (fun h => (show 14 = j by omega) ▸ bz483)
  refine m_aast F (j := 14) e_X9_init_127 g489 rfl bz483.1.1 rfl (by decide) (by unfold vp_in; decide) rfl rfl ?_
  refine m_iinc F (v := 15) (lv' := [(1, .int 15), (0, .ref b)]) e_X9_init_128 rfl (by decide) (by decide) rfl ?_
  refine m_goto F e_X9_init_131 ?_
  refine m_iload_n F rfl e_X9_init_109 ?_
  refine m_bipush F (v := 20) (by decide) e_X9_init_110 ?_
  refine m_icmp_ge F e_X9_init_112 (fun q => absurd q (by decide)) (fun _ => ?_)
  refine m_aload_n F rfl e_X9_init_115 ?_
  refine m_get F e_X9_init_116 fl_X9_35 (ru_ne (by omega) g485) rfl ?_
  refine m_iload_n F rfl e_X9_init_119 ?_
  refine m_new F e_X9_init_120 fn_X9_13 (k' := 1142) (z' := 33516) (N' := b + 1143) rfl rfl rfl (Nat.le_of_ble_eq_true rfl) (Nat.le_of_ble_eq_true rfl) ?_
  refine m_dup F rfl e_X9_init_123 ?_
  refine m_callI F e_X9_init_124 (k_Book_init (x_l X) V _ (b + 1142) ru_eq) cb_X2_init ml_X9_15 im_X2_init rfl rfl (rest := [.ref (b + 1142), .int 15, .ref (b + 193)]) rfl (Nat.le_of_ble_eq_true rfl) ⟨Nat.le_of_ble_eq_true rfl, Nat.le_of_ble_eq_true rfl⟩ ⟨Nat.le_of_ble_eq_true rfl, Nat.le_of_ble_eq_true rfl⟩ (k' := 1204) (z' := 35323) (N' := b + 1205) rfl rfl rfl (fun r τ499 hp => ?_)
  obtain ⟨rfl, bz500, hf501⟩ := hp
  have g502 : τ499 b = some (ob 7 [.ref (b + 1), .int 0, .ref (b + 2), .ref (b + 65), .ref (b + 128), .ref (b + 130), .int 0, .ref (b + 193), .int 0, .int 0, .ref (b + 194), .ref (b + 195), .ref (b + 196)]) := (hf501 b (by omega)).trans (ru_ne (by omega) (ru_ne (by omega) g485))
  have g503 : τ499 (b + 1) = some (aB V 700 (fun _ => 0)) := (hf501 (b + 1) (by omega)).trans (ru_ne (by omega) (ru_ne (by omega) g486))
  have g504 : τ499 (b + 128) = some (ob 5 [.ref (b + 1), .int 0, .ref (b + 65), .ref (b + 129), .int 0, .int 0, .int 0, .int 0, .int 0, .int 0, .int 0, .int 0, .int (-1)]) := (hf501 (b + 128) (by omega)).trans (ru_ne (by omega) (ru_ne (by omega) g487))
  have g505 : τ499 (b + 129) = some (aI V 4 (fun _ => 0)) := (hf501 (b + 129) (by omega)).trans (ru_ne (by omega) (ru_ne (by omega) g488))
  have g506 : τ499 (b + 193) = some (aR 6 V 20 (va_up (va_up (va_up (va_up (va_up (va_up (va_up (va_up (va_up (va_up (va_up (va_up (va_up (va_up (va_up (fun _ => none) 0 (some (b + 197))) 1 (some (b + 260))) 2 (some (b + 323))) 3 (some (b + 386))) 4 (some (b + 449))) 5 (some (b + 512))) 6 (some (b + 575))) 7 (some (b + 638))) 8 (some (b + 701))) 9 (some (b + 764))) 10 (some (b + 827))) 11 (some (b + 890))) 12 (some (b + 953))) 13 (some (b + 1016))) 14 (some (b + 1079)))) := (hf501 (b + 193) (by omega)).trans (ru_ne (by omega) ru_eq)
  have g507 : τ499 (b + 194) = some (ob 0 [.long 0, .long 0]) := (hf501 (b + 194) (by omega)).trans (ru_ne (by omega) (ru_ne (by omega) g490))
  have g508 : τ499 (b + 195) = some (ob 0 [.long 0, .long 0]) := (hf501 (b + 195) (by omega)).trans (ru_ne (by omega) (ru_ne (by omega) g491))
  have g509 : τ499 (b + 196) = some (ob 0 [.long 0, .long 0]) := (hf501 (b + 196) (by omega)).trans (ru_ne (by omega) (ru_ne (by omega) g492))
  have bz510 : BZ V τ499 (b + 2) := bz493.keep (fun x g1 g2 => (hf501 x (by omega)).trans (ru_ne (by omega) (ru_ne (by omega) rfl)))
  have bz511 : BZ V τ499 (b + 65) := bz494.keep (fun x g1 g2 => (hf501 x (by omega)).trans (ru_ne (by omega) (ru_ne (by omega) rfl)))
  have bz512 : BZ V τ499 (b + 130) := bz495.keep (fun x g1 g2 => (hf501 x (by omega)).trans (ru_ne (by omega) (ru_ne (by omega) rfl)))
  have pa513 : ∀ j, j < 15 → BZ V τ499 (b + 197 + 63 * j) := fun j hj => (pa498 j hj).keep (fun x g1 g2 => (hf501 x (by omega)).trans (ru_ne (by omega) (ru_ne (by omega) rfl)))
  have fr514 : ∀ q : Nat, q < b → τ499 q = σ q := fun q h1 => (hf501 q (by omega)).trans (ru_ne (by omega) (ru_ne (by omega) (fr497 q h1)))
  have pa515 : ∀ j, j < 16 → BZ V τ499 (b + 197 + 63 * j) := fun j hj => (Nat.lt_or_ge j 15).elim (fun h => pa513 j h) (fun h => (show 15 = j by omega) ▸ bz500)
  refine m_aast F (j := 15) e_X9_init_127 g506 rfl bz500.1.1 rfl (by decide) (by unfold vp_in; decide) rfl rfl ?_
  refine m_iinc F (v := 16) (lv' := [(1, .int 16), (0, .ref b)]) e_X9_init_128 rfl (by decide) (by decide) rfl ?_
  refine m_goto F e_X9_init_131 ?_
  refine m_iload_n F rfl e_X9_init_109 ?_
  refine m_bipush F (v := 20) (by decide) e_X9_init_110 ?_
  refine m_icmp_ge F e_X9_init_112 (fun q => absurd q (by decide)) (fun _ => ?_)
  refine m_aload_n F rfl e_X9_init_115 ?_
  refine m_get F e_X9_init_116 fl_X9_35 (ru_ne (by omega) g502) rfl ?_
  refine m_iload_n F rfl e_X9_init_119 ?_
  refine m_new F e_X9_init_120 fn_X9_13 (k' := 1205) (z' := 35336) (N' := b + 1206) rfl rfl rfl (Nat.le_of_ble_eq_true rfl) (Nat.le_of_ble_eq_true rfl) ?_
  refine m_dup F rfl e_X9_init_123 ?_
  refine m_callI F e_X9_init_124 (k_Book_init (x_l X) V _ (b + 1205) ru_eq) cb_X2_init ml_X9_15 im_X2_init rfl rfl (rest := [.ref (b + 1205), .int 16, .ref (b + 193)]) rfl (Nat.le_of_ble_eq_true rfl) ⟨Nat.le_of_ble_eq_true rfl, Nat.le_of_ble_eq_true rfl⟩ ⟨Nat.le_of_ble_eq_true rfl, Nat.le_of_ble_eq_true rfl⟩ (k' := 1267) (z' := 37143) (N' := b + 1268) rfl rfl rfl (fun r τ516 hp => ?_)
  obtain ⟨rfl, bz517, hf518⟩ := hp
  have g519 : τ516 b = some (ob 7 [.ref (b + 1), .int 0, .ref (b + 2), .ref (b + 65), .ref (b + 128), .ref (b + 130), .int 0, .ref (b + 193), .int 0, .int 0, .ref (b + 194), .ref (b + 195), .ref (b + 196)]) := (hf518 b (by omega)).trans (ru_ne (by omega) (ru_ne (by omega) g502))
  have g520 : τ516 (b + 1) = some (aB V 700 (fun _ => 0)) := (hf518 (b + 1) (by omega)).trans (ru_ne (by omega) (ru_ne (by omega) g503))
  have g521 : τ516 (b + 128) = some (ob 5 [.ref (b + 1), .int 0, .ref (b + 65), .ref (b + 129), .int 0, .int 0, .int 0, .int 0, .int 0, .int 0, .int 0, .int 0, .int (-1)]) := (hf518 (b + 128) (by omega)).trans (ru_ne (by omega) (ru_ne (by omega) g504))
  have g522 : τ516 (b + 129) = some (aI V 4 (fun _ => 0)) := (hf518 (b + 129) (by omega)).trans (ru_ne (by omega) (ru_ne (by omega) g505))
  have g523 : τ516 (b + 193) = some (aR 6 V 20 (va_up (va_up (va_up (va_up (va_up (va_up (va_up (va_up (va_up (va_up (va_up (va_up (va_up (va_up (va_up (va_up (fun _ => none) 0 (some (b + 197))) 1 (some (b + 260))) 2 (some (b + 323))) 3 (some (b + 386))) 4 (some (b + 449))) 5 (some (b + 512))) 6 (some (b + 575))) 7 (some (b + 638))) 8 (some (b + 701))) 9 (some (b + 764))) 10 (some (b + 827))) 11 (some (b + 890))) 12 (some (b + 953))) 13 (some (b + 1016))) 14 (some (b + 1079))) 15 (some (b + 1142)))) := (hf518 (b + 193) (by omega)).trans (ru_ne (by omega) ru_eq)
  have g524 : τ516 (b + 194) = some (ob 0 [.long 0, .long 0]) := (hf518 (b + 194) (by omega)).trans (ru_ne (by omega) (ru_ne (by omega) g507))
  have g525 : τ516 (b + 195) = some (ob 0 [.long 0, .long 0]) := (hf518 (b + 195) (by omega)).trans (ru_ne (by omega) (ru_ne (by omega) g508))
  have g526 : τ516 (b + 196) = some (ob 0 [.long 0, .long 0]) := (hf518 (b + 196) (by omega)).trans (ru_ne (by omega) (ru_ne (by omega) g509))
  have bz527 : BZ V τ516 (b + 2) := bz510.keep (fun x g1 g2 => (hf518 x (by omega)).trans (ru_ne (by omega) (ru_ne (by omega) rfl)))
  have bz528 : BZ V τ516 (b + 65) := bz511.keep (fun x g1 g2 => (hf518 x (by omega)).trans (ru_ne (by omega) (ru_ne (by omega) rfl)))
  have bz529 : BZ V τ516 (b + 130) := bz512.keep (fun x g1 g2 => (hf518 x (by omega)).trans (ru_ne (by omega) (ru_ne (by omega) rfl)))
  have pa530 : ∀ j, j < 16 → BZ V τ516 (b + 197 + 63 * j) := fun j hj => (pa515 j hj).keep (fun x g1 g2 => (hf518 x (by omega)).trans (ru_ne (by omega) (ru_ne (by omega) rfl)))
  have fr531 : ∀ q : Nat, q < b → τ516 q = σ q := fun q h1 => (hf518 q (by omega)).trans (ru_ne (by omega) (ru_ne (by omega) (fr514 q h1)))
  have pa532 : ∀ j, j < 17 → BZ V τ516 (b + 197 + 63 * j) := fun j hj => (Nat.lt_or_ge j 16).elim (fun h => pa530 j h) (fun h => (show 16 = j by omega) ▸ bz517)
  refine m_aast F (j := 16) e_X9_init_127 g523 rfl bz517.1.1 rfl (by decide) (by unfold vp_in; decide) rfl rfl ?_
  refine m_iinc F (v := 17) (lv' := [(1, .int 17), (0, .ref b)]) e_X9_init_128 rfl (by decide) (by decide) rfl ?_
  refine m_goto F e_X9_init_131 ?_
  refine m_iload_n F rfl e_X9_init_109 ?_
  refine m_bipush F (v := 20) (by decide) e_X9_init_110 ?_
  refine m_icmp_ge F e_X9_init_112 (fun q => absurd q (by decide)) (fun _ => ?_)
  refine m_aload_n F rfl e_X9_init_115 ?_
  refine m_get F e_X9_init_116 fl_X9_35 (ru_ne (by omega) g519) rfl ?_
  refine m_iload_n F rfl e_X9_init_119 ?_
  refine m_new F e_X9_init_120 fn_X9_13 (k' := 1268) (z' := 37156) (N' := b + 1269) rfl rfl rfl (Nat.le_of_ble_eq_true rfl) (Nat.le_of_ble_eq_true rfl) ?_
  refine m_dup F rfl e_X9_init_123 ?_
  refine m_callI F e_X9_init_124 (k_Book_init (x_l X) V _ (b + 1268) ru_eq) cb_X2_init ml_X9_15 im_X2_init rfl rfl (rest := [.ref (b + 1268), .int 17, .ref (b + 193)]) rfl (Nat.le_of_ble_eq_true rfl) ⟨Nat.le_of_ble_eq_true rfl, Nat.le_of_ble_eq_true rfl⟩ ⟨Nat.le_of_ble_eq_true rfl, Nat.le_of_ble_eq_true rfl⟩ (k' := 1330) (z' := 38963) (N' := b + 1331) rfl rfl rfl (fun r τ533 hp => ?_)
  obtain ⟨rfl, bz534, hf535⟩ := hp
  have g536 : τ533 b = some (ob 7 [.ref (b + 1), .int 0, .ref (b + 2), .ref (b + 65), .ref (b + 128), .ref (b + 130), .int 0, .ref (b + 193), .int 0, .int 0, .ref (b + 194), .ref (b + 195), .ref (b + 196)]) := (hf535 b (by omega)).trans (ru_ne (by omega) (ru_ne (by omega) g519))
  have g537 : τ533 (b + 1) = some (aB V 700 (fun _ => 0)) := (hf535 (b + 1) (by omega)).trans (ru_ne (by omega) (ru_ne (by omega) g520))
  have g538 : τ533 (b + 128) = some (ob 5 [.ref (b + 1), .int 0, .ref (b + 65), .ref (b + 129), .int 0, .int 0, .int 0, .int 0, .int 0, .int 0, .int 0, .int 0, .int (-1)]) := (hf535 (b + 128) (by omega)).trans (ru_ne (by omega) (ru_ne (by omega) g521))
  have g539 : τ533 (b + 129) = some (aI V 4 (fun _ => 0)) := (hf535 (b + 129) (by omega)).trans (ru_ne (by omega) (ru_ne (by omega) g522))
  have g540 : τ533 (b + 193) = some (aR 6 V 20 (va_up (va_up (va_up (va_up (va_up (va_up (va_up (va_up (va_up (va_up (va_up (va_up (va_up (va_up (va_up (va_up (va_up (fun _ => none) 0 (some (b + 197))) 1 (some (b + 260))) 2 (some (b + 323))) 3 (some (b + 386))) 4 (some (b + 449))) 5 (some (b + 512))) 6 (some (b + 575))) 7 (some (b + 638))) 8 (some (b + 701))) 9 (some (b + 764))) 10 (some (b + 827))) 11 (some (b + 890))) 12 (some (b + 953))) 13 (some (b + 1016))) 14 (some (b + 1079))) 15 (some (b + 1142))) 16 (some (b + 1205)))) := (hf535 (b + 193) (by omega)).trans (ru_ne (by omega) ru_eq)
  have g541 : τ533 (b + 194) = some (ob 0 [.long 0, .long 0]) := (hf535 (b + 194) (by omega)).trans (ru_ne (by omega) (ru_ne (by omega) g524))
  have g542 : τ533 (b + 195) = some (ob 0 [.long 0, .long 0]) := (hf535 (b + 195) (by omega)).trans (ru_ne (by omega) (ru_ne (by omega) g525))
  have g543 : τ533 (b + 196) = some (ob 0 [.long 0, .long 0]) := (hf535 (b + 196) (by omega)).trans (ru_ne (by omega) (ru_ne (by omega) g526))
  have bz544 : BZ V τ533 (b + 2) := bz527.keep (fun x g1 g2 => (hf535 x (by omega)).trans (ru_ne (by omega) (ru_ne (by omega) rfl)))
  have bz545 : BZ V τ533 (b + 65) := bz528.keep (fun x g1 g2 => (hf535 x (by omega)).trans (ru_ne (by omega) (ru_ne (by omega) rfl)))
  have bz546 : BZ V τ533 (b + 130) := bz529.keep (fun x g1 g2 => (hf535 x (by omega)).trans (ru_ne (by omega) (ru_ne (by omega) rfl)))
  have pa547 : ∀ j, j < 17 → BZ V τ533 (b + 197 + 63 * j) := fun j hj => (pa532 j hj).keep (fun x g1 g2 => (hf535 x (by omega)).trans (ru_ne (by omega) (ru_ne (by omega) rfl)))
  have fr548 : ∀ q : Nat, q < b → τ533 q = σ q := fun q h1 => (hf535 q (by omega)).trans (ru_ne (by omega) (ru_ne (by omega) (fr531 q h1)))
  have pa549 : ∀ j, j < 18 → BZ V τ533 (b + 197 + 63 * j) := fun j hj => (Nat.lt_or_ge j 17).elim (fun h => pa547 j h) (fun h => (show 17 = j by omega) ▸ bz534)
  refine m_aast F (j := 17) e_X9_init_127 g540 rfl bz534.1.1 rfl (by decide) (by unfold vp_in; decide) rfl rfl ?_
  refine m_iinc F (v := 18) (lv' := [(1, .int 18), (0, .ref b)]) e_X9_init_128 rfl (by decide) (by decide) rfl ?_
  refine m_goto F e_X9_init_131 ?_
  refine m_iload_n F rfl e_X9_init_109 ?_
  refine m_bipush F (v := 20) (by decide) e_X9_init_110 ?_
  refine m_icmp_ge F e_X9_init_112 (fun q => absurd q (by decide)) (fun _ => ?_)
  refine m_aload_n F rfl e_X9_init_115 ?_
  refine m_get F e_X9_init_116 fl_X9_35 (ru_ne (by omega) g536) rfl ?_
  refine m_iload_n F rfl e_X9_init_119 ?_
  refine m_new F e_X9_init_120 fn_X9_13 (k' := 1331) (z' := 38976) (N' := b + 1332) rfl rfl rfl (Nat.le_of_ble_eq_true rfl) (Nat.le_of_ble_eq_true rfl) ?_
  refine m_dup F rfl e_X9_init_123 ?_
  refine m_callI F e_X9_init_124 (k_Book_init (x_l X) V _ (b + 1331) ru_eq) cb_X2_init ml_X9_15 im_X2_init rfl rfl (rest := [.ref (b + 1331), .int 18, .ref (b + 193)]) rfl (Nat.le_of_ble_eq_true rfl) ⟨Nat.le_of_ble_eq_true rfl, Nat.le_of_ble_eq_true rfl⟩ ⟨Nat.le_of_ble_eq_true rfl, Nat.le_of_ble_eq_true rfl⟩ (k' := 1393) (z' := 40783) (N' := b + 1394) rfl rfl rfl (fun r τ550 hp => ?_)
  obtain ⟨rfl, bz551, hf552⟩ := hp
  have g553 : τ550 b = some (ob 7 [.ref (b + 1), .int 0, .ref (b + 2), .ref (b + 65), .ref (b + 128), .ref (b + 130), .int 0, .ref (b + 193), .int 0, .int 0, .ref (b + 194), .ref (b + 195), .ref (b + 196)]) := (hf552 b (by omega)).trans (ru_ne (by omega) (ru_ne (by omega) g536))
  have g554 : τ550 (b + 1) = some (aB V 700 (fun _ => 0)) := (hf552 (b + 1) (by omega)).trans (ru_ne (by omega) (ru_ne (by omega) g537))
  have g555 : τ550 (b + 128) = some (ob 5 [.ref (b + 1), .int 0, .ref (b + 65), .ref (b + 129), .int 0, .int 0, .int 0, .int 0, .int 0, .int 0, .int 0, .int 0, .int (-1)]) := (hf552 (b + 128) (by omega)).trans (ru_ne (by omega) (ru_ne (by omega) g538))
  have g556 : τ550 (b + 129) = some (aI V 4 (fun _ => 0)) := (hf552 (b + 129) (by omega)).trans (ru_ne (by omega) (ru_ne (by omega) g539))
  have g557 : τ550 (b + 193) = some (aR 6 V 20 (va_up (va_up (va_up (va_up (va_up (va_up (va_up (va_up (va_up (va_up (va_up (va_up (va_up (va_up (va_up (va_up (va_up (va_up (fun _ => none) 0 (some (b + 197))) 1 (some (b + 260))) 2 (some (b + 323))) 3 (some (b + 386))) 4 (some (b + 449))) 5 (some (b + 512))) 6 (some (b + 575))) 7 (some (b + 638))) 8 (some (b + 701))) 9 (some (b + 764))) 10 (some (b + 827))) 11 (some (b + 890))) 12 (some (b + 953))) 13 (some (b + 1016))) 14 (some (b + 1079))) 15 (some (b + 1142))) 16 (some (b + 1205))) 17 (some (b + 1268)))) := (hf552 (b + 193) (by omega)).trans (ru_ne (by omega) ru_eq)
  have g558 : τ550 (b + 194) = some (ob 0 [.long 0, .long 0]) := (hf552 (b + 194) (by omega)).trans (ru_ne (by omega) (ru_ne (by omega) g541))
  have g559 : τ550 (b + 195) = some (ob 0 [.long 0, .long 0]) := (hf552 (b + 195) (by omega)).trans (ru_ne (by omega) (ru_ne (by omega) g542))
  have g560 : τ550 (b + 196) = some (ob 0 [.long 0, .long 0]) := (hf552 (b + 196) (by omega)).trans (ru_ne (by omega) (ru_ne (by omega) g543))
  have bz561 : BZ V τ550 (b + 2) := bz544.keep (fun x g1 g2 => (hf552 x (by omega)).trans (ru_ne (by omega) (ru_ne (by omega) rfl)))
  have bz562 : BZ V τ550 (b + 65) := bz545.keep (fun x g1 g2 => (hf552 x (by omega)).trans (ru_ne (by omega) (ru_ne (by omega) rfl)))
  have bz563 : BZ V τ550 (b + 130) := bz546.keep (fun x g1 g2 => (hf552 x (by omega)).trans (ru_ne (by omega) (ru_ne (by omega) rfl)))
  have pa564 : ∀ j, j < 18 → BZ V τ550 (b + 197 + 63 * j) := fun j hj => (pa549 j hj).keep (fun x g1 g2 => (hf552 x (by omega)).trans (ru_ne (by omega) (ru_ne (by omega) rfl)))
  have fr565 : ∀ q : Nat, q < b → τ550 q = σ q := fun q h1 => (hf552 q (by omega)).trans (ru_ne (by omega) (ru_ne (by omega) (fr548 q h1)))
  have pa566 : ∀ j, j < 19 → BZ V τ550 (b + 197 + 63 * j) := fun j hj => (Nat.lt_or_ge j 18).elim (fun h => pa564 j h) (fun h => (show 18 = j by omega) ▸ bz551)
  refine m_aast F (j := 18) e_X9_init_127 g557 rfl bz551.1.1 rfl (by decide) (by unfold vp_in; decide) rfl rfl ?_
  refine m_iinc F (v := 19) (lv' := [(1, .int 19), (0, .ref b)]) e_X9_init_128 rfl (by decide) (by decide) rfl ?_
  refine m_goto F e_X9_init_131 ?_
  refine m_iload_n F rfl e_X9_init_109 ?_
  refine m_bipush F (v := 20) (by decide) e_X9_init_110 ?_
  refine m_icmp_ge F e_X9_init_112 (fun q => absurd q (by decide)) (fun _ => ?_)
  refine m_aload_n F rfl e_X9_init_115 ?_
  refine m_get F e_X9_init_116 fl_X9_35 (ru_ne (by omega) g553) rfl ?_
  refine m_iload_n F rfl e_X9_init_119 ?_
  refine m_new F e_X9_init_120 fn_X9_13 (k' := 1394) (z' := 40796) (N' := b + 1395) rfl rfl rfl (Nat.le_of_ble_eq_true rfl) (Nat.le_of_ble_eq_true rfl) ?_
  refine m_dup F rfl e_X9_init_123 ?_
  refine m_callI F e_X9_init_124 (k_Book_init (x_l X) V _ (b + 1394) ru_eq) cb_X2_init ml_X9_15 im_X2_init rfl rfl (rest := [.ref (b + 1394), .int 19, .ref (b + 193)]) rfl (Nat.le_of_ble_eq_true rfl) ⟨Nat.le_of_ble_eq_true rfl, Nat.le_of_ble_eq_true rfl⟩ ⟨Nat.le_of_ble_eq_true rfl, Nat.le_of_ble_eq_true rfl⟩ (k' := 1456) (z' := 42603) (N' := b + 1457) rfl rfl rfl (fun r τ567 hp => ?_)
  obtain ⟨rfl, bz568, hf569⟩ := hp
  have g570 : τ567 b = some (ob 7 [.ref (b + 1), .int 0, .ref (b + 2), .ref (b + 65), .ref (b + 128), .ref (b + 130), .int 0, .ref (b + 193), .int 0, .int 0, .ref (b + 194), .ref (b + 195), .ref (b + 196)]) := (hf569 b (by omega)).trans (ru_ne (by omega) (ru_ne (by omega) g553))
  have g571 : τ567 (b + 1) = some (aB V 700 (fun _ => 0)) := (hf569 (b + 1) (by omega)).trans (ru_ne (by omega) (ru_ne (by omega) g554))
  have g572 : τ567 (b + 128) = some (ob 5 [.ref (b + 1), .int 0, .ref (b + 65), .ref (b + 129), .int 0, .int 0, .int 0, .int 0, .int 0, .int 0, .int 0, .int 0, .int (-1)]) := (hf569 (b + 128) (by omega)).trans (ru_ne (by omega) (ru_ne (by omega) g555))
  have g573 : τ567 (b + 129) = some (aI V 4 (fun _ => 0)) := (hf569 (b + 129) (by omega)).trans (ru_ne (by omega) (ru_ne (by omega) g556))
  have g574 : τ567 (b + 193) = some (aR 6 V 20 (va_up (va_up (va_up (va_up (va_up (va_up (va_up (va_up (va_up (va_up (va_up (va_up (va_up (va_up (va_up (va_up (va_up (va_up (va_up (fun _ => none) 0 (some (b + 197))) 1 (some (b + 260))) 2 (some (b + 323))) 3 (some (b + 386))) 4 (some (b + 449))) 5 (some (b + 512))) 6 (some (b + 575))) 7 (some (b + 638))) 8 (some (b + 701))) 9 (some (b + 764))) 10 (some (b + 827))) 11 (some (b + 890))) 12 (some (b + 953))) 13 (some (b + 1016))) 14 (some (b + 1079))) 15 (some (b + 1142))) 16 (some (b + 1205))) 17 (some (b + 1268))) 18 (some (b + 1331)))) := (hf569 (b + 193) (by omega)).trans (ru_ne (by omega) ru_eq)
  have g575 : τ567 (b + 194) = some (ob 0 [.long 0, .long 0]) := (hf569 (b + 194) (by omega)).trans (ru_ne (by omega) (ru_ne (by omega) g558))
  have g576 : τ567 (b + 195) = some (ob 0 [.long 0, .long 0]) := (hf569 (b + 195) (by omega)).trans (ru_ne (by omega) (ru_ne (by omega) g559))
  have g577 : τ567 (b + 196) = some (ob 0 [.long 0, .long 0]) := (hf569 (b + 196) (by omega)).trans (ru_ne (by omega) (ru_ne (by omega) g560))
  have bz578 : BZ V τ567 (b + 2) := bz561.keep (fun x g1 g2 => (hf569 x (by omega)).trans (ru_ne (by omega) (ru_ne (by omega) rfl)))
  have bz579 : BZ V τ567 (b + 65) := bz562.keep (fun x g1 g2 => (hf569 x (by omega)).trans (ru_ne (by omega) (ru_ne (by omega) rfl)))
  have bz580 : BZ V τ567 (b + 130) := bz563.keep (fun x g1 g2 => (hf569 x (by omega)).trans (ru_ne (by omega) (ru_ne (by omega) rfl)))
  have pa581 : ∀ j, j < 19 → BZ V τ567 (b + 197 + 63 * j) := fun j hj => (pa566 j hj).keep (fun x g1 g2 => (hf569 x (by omega)).trans (ru_ne (by omega) (ru_ne (by omega) rfl)))
  have fr582 : ∀ q : Nat, q < b → τ567 q = σ q := fun q h1 => (hf569 q (by omega)).trans (ru_ne (by omega) (ru_ne (by omega) (fr565 q h1)))
  have pa583 : ∀ j, j < 20 → BZ V τ567 (b + 197 + 63 * j) := fun j hj => (Nat.lt_or_ge j 19).elim (fun h => pa581 j h) (fun h => (show 19 = j by omega) ▸ bz568)
  refine m_aast F (j := 19) e_X9_init_127 g574 rfl bz568.1.1 rfl (by decide) (by unfold vp_in; decide) rfl rfl ?_
  refine m_iinc F (v := 20) (lv' := [(1, .int 20), (0, .ref b)]) e_X9_init_128 rfl (by decide) (by decide) rfl ?_
  refine m_goto F e_X9_init_131 ?_
  refine m_iload_n F rfl e_X9_init_109 ?_
  refine m_bipush F (v := 20) (by decide) e_X9_init_110 ?_
  refine m_icmp_ge F e_X9_init_112 (fun _ => ?_) (fun q => absurd (by decide) q)
  refine reR (pf_eq b) ?_
  have pall : ∀ j, j < 20 → BZ V (va_up τ567 (b + 193) (some (aR 6 V 20 (pfB b)))) (b + 197 + 63 * j) := fun j hj => (pa583 j hj).keep (fun x g1 g2 => (ru_ne (by omega) rfl))
  exact m_vret F hQ e_X9_init_134 (⟨rfl, ⟨(ru_ne (by omega) g570), (ru_ne (by omega) g571), (ru_ne (by omega) g572), (ru_ne (by omega) g573), ru_eq, (ru_ne (by omega) g575), (ru_ne (by omega) g576), (ru_ne (by omega) g577), (bz578.keep (fun x g1 g2 => (ru_ne (by omega) rfl))), (bz579.keep (fun x g1 g2 => (ru_ne (by omega) rfl))), (bz580.keep (fun x g1 g2 => (ru_ne (by omega) rfl))), pall⟩, fun q h1 => (ru_ne (by omega) (fr582 q h1))⟩)
