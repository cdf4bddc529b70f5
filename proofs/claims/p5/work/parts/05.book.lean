def LZ (V : VX) (τ : Mem) (q : Nat) : Prop := τ q = some (ob 3 [.int 0, .int 0, .int 0, .int 0, .int 0, .int 0, .int 0, .int 0, .int 0, .int 0, .int 0, .int 0, .int 0, .ref (q + 1), .ref (q + 2), .ref (q + 3), .ref (q + 7), .ref (q + 11)]) ∧ τ (q + 1) = some (ob 0 [.long 0, .long 0]) ∧ τ (q + 2) = some (ob 0 [.long 0, .long 0]) ∧ τ (q + 3) = some (ob 6 [.ref (q + 4), .ref (q + 5), .ref (q + 6)]) ∧ τ (q + 4) = some (aJ V 72 (fun _ => 0)) ∧ τ (q + 5) = some (aJ V 72 (fun _ => 0)) ∧ τ (q + 6) = some (ob 0 [.long 0, .long 0]) ∧ τ (q + 7) = some (ob 6 [.ref (q + 8), .ref (q + 9), .ref (q + 10)]) ∧ τ (q + 8) = some (aJ V 72 (fun _ => 0)) ∧ τ (q + 9) = some (aJ V 72 (fun _ => 0)) ∧ τ (q + 10) = some (ob 0 [.long 0, .long 0]) ∧ τ (q + 11) = some (aJ V 5 (fun _ => 0))
def lfB (b : Nat) : Nat → Option Nat := va_up (va_up (va_up (va_up (fun _ => none) 0 (some (b + 11))) 1 (some (b + 23))) 2 (some (b + 35))) 3 (some (b + 47))
def ofB (b : Nat) : Nat → Option Nat := va_up (va_up (va_up (va_up (fun _ => none) 0 (some (b + 59))) 1 (some (b + 60))) 2 (some (b + 61))) 3 (some (b + 62))
/-- a book at b, but for what its leases and options hold -/
def BK (V : VX) (τ : Mem) (b : Nat) (lc oc tc pe sd tot : Int32) (ix tp : Nat → Int32) (rw ac : Nat → Int64) (p0 p1 h0 h1 t0 t1 : Int64) : Prop := τ b = some (ob 1 [.ref (b + 1), .ref (b + 2), .ref (b + 3), .ref (b + 4), .ref (b + 5), .ref (b + 8), .ref (b + 9), .ref (b + 10), .int lc, .int oc, .int tc, .int pe, .int sd]) ∧ τ (b + 1) = some (aR 4 V 4 (lfB b)) ∧ τ (b + 2) = some (aR 5 V 4 (ofB b)) ∧ τ (b + 3) = some (aI V 100 ix) ∧ τ (b + 4) = some (aI V 8 tp) ∧ τ (b + 5) = some (ob 2 [.ref (b + 6), .ref (b + 7), .int tot]) ∧ τ (b + 6) = some (aJ V 360 rw) ∧ τ (b + 7) = some (aJ V 6 ac) ∧ τ (b + 8) = some (ob 0 [.long p0, .long p1]) ∧ τ (b + 9) = some (ob 0 [.long h0, .long h1]) ∧ τ (b + 10) = some (ob 0 [.long t0, .long t1])
def BZ (V : VX) (τ : Mem) (b : Nat) : Prop := BK V τ b 0 0 0 0 0 0 (fun _ => 1000) (fun _ => 0) (fun _ => 0) (fun _ => 0) 0 0 0 0 0 0 ∧ LZ V τ (b + 11) ∧ LZ V τ (b + 23) ∧ LZ V τ (b + 35) ∧ LZ V τ (b + 47) ∧ τ (b + 59) = some (ob 4 [.int 0, .int 0, .int 0, .int 0]) ∧ τ (b + 60) = some (ob 4 [.int 0, .int 0, .int 0, .int 0]) ∧ τ (b + 61) = some (ob 4 [.int 0, .int 0, .int 0, .int 0]) ∧ τ (b + 62) = some (ob 4 [.int 0, .int 0, .int 0, .int 0])
theorem LZ.keep {V : VX} {σ τ : Mem} {q : Nat} (h : LZ V σ q) (hk : ∀ x, q ≤ x → x ≤ q + 11 → τ x = σ x) : LZ V τ q := by
  obtain ⟨a0, a1, a2, a3, a4, a5, a6, a7, a8, a9, a10, a11⟩ := h
  exact ⟨(hk _ (by omega) (by omega)).trans a0, (hk _ (by omega) (by omega)).trans a1, (hk _ (by omega) (by omega)).trans a2, (hk _ (by omega) (by omega)).trans a3, (hk _ (by omega) (by omega)).trans a4, (hk _ (by omega) (by omega)).trans a5, (hk _ (by omega) (by omega)).trans a6, (hk _ (by omega) (by omega)).trans a7, (hk _ (by omega) (by omega)).trans a8, (hk _ (by omega) (by omega)).trans a9, (hk _ (by omega) (by omega)).trans a10, (hk _ (by omega) (by omega)).trans a11⟩
theorem BK.keep {V : VX} {σ τ : Mem} {b : Nat} {lc oc tc pe sd tot : Int32} {ix tp : Nat → Int32} {rw ac : Nat → Int64} {p0 p1 h0 h1 t0 t1 : Int64} (h : BK V σ b lc oc tc pe sd tot ix tp rw ac p0 p1 h0 h1 t0 t1) (hk : ∀ x, b ≤ x → x ≤ b + 10 → τ x = σ x) : BK V τ b lc oc tc pe sd tot ix tp rw ac p0 p1 h0 h1 t0 t1 := by
  obtain ⟨a0, a1, a2, a3, a4, a5, a6, a7, a8, a9, a10⟩ := h
  exact ⟨(hk _ (by omega) (by omega)).trans a0, (hk _ (by omega) (by omega)).trans a1, (hk _ (by omega) (by omega)).trans a2, (hk _ (by omega) (by omega)).trans a3, (hk _ (by omega) (by omega)).trans a4, (hk _ (by omega) (by omega)).trans a5, (hk _ (by omega) (by omega)).trans a6, (hk _ (by omega) (by omega)).trans a7, (hk _ (by omega) (by omega)).trans a8, (hk _ (by omega) (by omega)).trans a9, (hk _ (by omega) (by omega)).trans a10⟩
theorem BZ.keep {V : VX} {σ τ : Mem} {b : Nat} (h : BZ V σ b) (hk : ∀ x, b ≤ x → x ≤ b + 62 → τ x = σ x) : BZ V τ b := by
  obtain ⟨a0, a1, a2, a3, a4, a5, a6, a7, a8⟩ := h
  exact ⟨a0.keep (fun x g1 g2 => hk x (by omega) (by omega)), a1.keep (fun x g1 g2 => hk x (by omega) (by omega)), a2.keep (fun x g1 g2 => hk x (by omega) (by omega)), a3.keep (fun x g1 g2 => hk x (by omega) (by omega)), a4.keep (fun x g1 g2 => hk x (by omega) (by omega)), (hk _ (by omega) (by omega)).trans a5, (hk _ (by omega) (by omega)).trans a6, (hk _ (by omega) (by omega)).trans a7, (hk _ (by omega) (by omega)).trans a8⟩
theorem e_X2_init_0 : DC cX2_init 0 1 1 (.aload_n 0) := ⟨by decide +kernel, rfl⟩
theorem e_X2_init_1 : DC cX2_init 1 3 4 (.invokespecial 3) := ⟨by decide +kernel, rfl⟩
theorem ml_X2_3 : Cond.methodLink RX2 3 objectInit ∈ tb := tb_in 42 (by decide +kernel) (by decide +kernel)
theorem e_X2_init_4 : DC cX2_init 4 1 5 (.aload_n 0) := ⟨by decide +kernel, rfl⟩
theorem e_X2_init_5 : DC cX2_init 5 1 6 (.iconst 4) := ⟨by decide +kernel, rfl⟩
theorem e_X2_init_6 : DC cX2_init 6 3 9 (.anewarray 9) := ⟨by decide +kernel, rfl⟩
theorem cl_X2_9 : Cond.classLink RX2 9 RX5 ∈ tb := tb_in 43 (by decide +kernel) (by decide +kernel)
theorem e_X2_init_9 : DC cX2_init 9 3 12 (.putfield 11) := ⟨by decide +kernel, rfl⟩
theorem uw_1 : ∀ w ∈ u_ws RX2 TX2 13, w ∈ tb := tb_all [251, 253, 255, 257, 259, 261, 263, 265, 267, 269, 271, 273, 275] (by decide +kernel) (by decide +kernel)
theorem fp_X2_11 : FP RX2 11 1 0 true (.array (.object "LeaseLedger$Lease")) := ⟨RX2, TX2, 13, tyX2, rfl, by decide, uw_1, tb_in 224 (by decide +kernel) (by decide +kernel), rfl, rfl, by decide +kernel, tyX2_ok, nmX2⟩
theorem e_X2_init_12 : DC cX2_init 12 1 13 (.aload_n 0) := ⟨by decide +kernel, rfl⟩
theorem e_X2_init_13 : DC cX2_init 13 1 14 (.iconst 4) := ⟨by decide +kernel, rfl⟩
theorem e_X2_init_14 : DC cX2_init 14 3 17 (.anewarray 17) := ⟨by decide +kernel, rfl⟩
theorem cl_X2_17 : Cond.classLink RX2 17 RX6 ∈ tb := tb_in 45 (by decide +kernel) (by decide +kernel)
theorem e_X2_init_17 : DC cX2_init 17 3 20 (.putfield 19) := ⟨by decide +kernel, rfl⟩
theorem fp_X2_19 : FP RX2 19 1 1 true (.array (.object "LeaseLedger$Option")) := ⟨RX2, TX2, 13, tyX2, rfl, by decide, uw_1, tb_in 227 (by decide +kernel) (by decide +kernel), rfl, rfl, by decide +kernel, tyX2_ok, nmX2⟩
theorem e_X2_init_20 : DC cX2_init 20 1 21 (.aload_n 0) := ⟨by decide +kernel, rfl⟩
theorem e_X2_init_21 : DC cX2_init 21 2 23 (.bipush 100) := ⟨by decide +kernel, rfl⟩
theorem e_X2_init_23 : DC cX2_init 23 2 25 (.newarray .int) := ⟨by decide +kernel, rfl⟩
theorem arr_int : Cond.arrayClass .int ∈ tb := tb_in 66 (by decide +kernel) (by decide +kernel)
theorem e_X2_init_25 : DC cX2_init 25 3 28 (.putfield 23) := ⟨by decide +kernel, rfl⟩
theorem fp_X2_23 : FP RX2 23 1 2 true (.array .int) := ⟨RX2, TX2, 13, tyX2, rfl, by decide, uw_1, tb_in 229 (by decide +kernel) (by decide +kernel), rfl, rfl, by decide +kernel, tyX2_ok, nmX2⟩
theorem e_X2_init_28 : DC cX2_init 28 1 29 (.aload_n 0) := ⟨by decide +kernel, rfl⟩
theorem e_X2_init_29 : DC cX2_init 29 2 31 (.bipush 8) := ⟨by decide +kernel, rfl⟩
theorem e_X2_init_31 : DC cX2_init 31 2 33 (.newarray .int) := ⟨by decide +kernel, rfl⟩
theorem e_X2_init_33 : DC cX2_init 33 3 36 (.putfield 27) := ⟨by decide +kernel, rfl⟩
theorem fp_X2_27 : FP RX2 27 1 3 true (.array .int) := ⟨RX2, TX2, 13, tyX2, rfl, by decide, uw_1, tb_in 231 (by decide +kernel) (by decide +kernel), rfl, rfl, by decide +kernel, tyX2_ok, nmX2⟩
theorem e_X2_init_36 : DC cX2_init 36 1 37 (.aload_n 0) := ⟨by decide +kernel, rfl⟩
theorem e_X2_init_37 : DC cX2_init 37 3 40 (.new 30) := ⟨by decide +kernel, rfl⟩
theorem fn_X2_30 : FN RX2 30 2 3 [.null, .null, .int 0] := ⟨RX3, TX3, tyX3, rfl, uw_2, tb_in 47 (by decide +kernel) (by decide +kernel), tb_in 48 (by decide +kernel) (by decide +kernel), tb_in 3 (by decide +kernel) (by decide +kernel), tyX3_ok, by decide +kernel⟩
theorem e_X2_init_40 : DC cX2_init 40 1 41 (.dup) := ⟨by decide +kernel, rfl⟩
theorem e_X2_init_41 : DC cX2_init 41 3 44 (.invokespecial 32) := ⟨by decide +kernel, rfl⟩
theorem cb_X3_init : CB yX3_init cX3_init 1 none 0 := ⟨tb_in 51 (by decide +kernel) (by decide +kernel), tb_in 3 (by decide +kernel) (by decide +kernel), by decide +kernel⟩
theorem im_X3_init : Cond.instanceMethod yX3_init ∈ tb := tb_in 50 (by decide +kernel) (by decide +kernel)
theorem e_X2_init_44 : DC cX2_init 44 3 47 (.putfield 33) := ⟨by decide +kernel, rfl⟩
theorem fp_X2_33 : FP RX2 33 1 4 true (.object "LeaseLedger$Journal") := ⟨RX2, TX2, 13, tyX2, rfl, by decide, uw_1, tb_in 232 (by decide +kernel) (by decide +kernel), rfl, rfl, by decide +kernel, tyX2_ok, nmX2⟩
theorem e_X2_init_47 : DC cX2_init 47 1 48 (.aload_n 0) := ⟨by decide +kernel, rfl⟩
theorem e_X2_init_48 : DC cX2_init 48 3 51 (.new 37) := ⟨by decide +kernel, rfl⟩
theorem fn_X2_37 : FN RX2 37 0 2 [.long 0, .long 0] := ⟨RX1, TX1, tyX1, rfl, uw_0, tb_in 68 (by decide +kernel) (by decide +kernel), tb_in 69 (by decide +kernel) (by decide +kernel), tb_in 4 (by decide +kernel) (by decide +kernel), tyX1_ok, by decide +kernel⟩
theorem e_X2_init_51 : DC cX2_init 51 1 52 (.dup) := ⟨by decide +kernel, rfl⟩
theorem e_X2_init_52 : DC cX2_init 52 3 55 (.invokespecial 39) := ⟨by decide +kernel, rfl⟩
theorem e_X2_init_55 : DC cX2_init 55 3 58 (.putfield 40) := ⟨by decide +kernel, rfl⟩
theorem fp_X2_40 : FP RX2 40 1 5 true (.object "LeaseLedger$Amount") := ⟨RX2, TX2, 13, tyX2, rfl, by decide, uw_1, tb_in 234 (by decide +kernel) (by decide +kernel), rfl, rfl, by decide +kernel, tyX2_ok, nmX2⟩
theorem e_X2_init_58 : DC cX2_init 58 1 59 (.aload_n 0) := ⟨by decide +kernel, rfl⟩
theorem e_X2_init_59 : DC cX2_init 59 3 62 (.new 37) := ⟨by decide +kernel, rfl⟩
theorem e_X2_init_62 : DC cX2_init 62 1 63 (.dup) := ⟨by decide +kernel, rfl⟩
theorem e_X2_init_63 : DC cX2_init 63 3 66 (.invokespecial 39) := ⟨by decide +kernel, rfl⟩
theorem e_X2_init_66 : DC cX2_init 66 3 69 (.putfield 44) := ⟨by decide +kernel, rfl⟩
theorem fp_X2_44 : FP RX2 44 1 6 true (.object "LeaseLedger$Amount") := ⟨RX2, TX2, 13, tyX2, rfl, by decide, uw_1, tb_in 236 (by decide +kernel) (by decide +kernel), rfl, rfl, by decide +kernel, tyX2_ok, nmX2⟩
theorem e_X2_init_69 : DC cX2_init 69 1 70 (.aload_n 0) := ⟨by decide +kernel, rfl⟩
theorem e_X2_init_70 : DC cX2_init 70 3 73 (.new 37) := ⟨by decide +kernel, rfl⟩
theorem e_X2_init_73 : DC cX2_init 73 1 74 (.dup) := ⟨by decide +kernel, rfl⟩
theorem e_X2_init_74 : DC cX2_init 74 3 77 (.invokespecial 39) := ⟨by decide +kernel, rfl⟩
theorem e_X2_init_77 : DC cX2_init 77 3 80 (.putfield 47) := ⟨by decide +kernel, rfl⟩
theorem fp_X2_47 : FP RX2 47 1 7 true (.object "LeaseLedger$Amount") := ⟨RX2, TX2, 13, tyX2, rfl, by decide, uw_1, tb_in 237 (by decide +kernel) (by decide +kernel), rfl, rfl, by decide +kernel, tyX2_ok, nmX2⟩
theorem e_X2_init_80 : DC cX2_init 80 1 81 (.iconst 0) := ⟨by decide +kernel, rfl⟩
theorem e_X2_init_81 : DC cX2_init 81 1 82 (.istore_n 1) := ⟨by decide +kernel, rfl⟩
theorem e_X2_init_82 : DC cX2_init 82 1 83 (.iload_n 1) := ⟨by decide +kernel, rfl⟩
theorem e_X2_init_83 : DC cX2_init 83 1 84 (.iconst 4) := ⟨by decide +kernel, rfl⟩
theorem e_X2_init_84 : DJ cX2_init 84 106 87 (.if_icmp .ge) := DJ.mk 22 (by decide +kernel) (by decide) rfl
theorem e_X2_init_87 : DC cX2_init 87 1 88 (.aload_n 0) := ⟨by decide +kernel, rfl⟩
theorem e_X2_init_88 : DC cX2_init 88 3 91 (.getfield 11) := ⟨by decide +kernel, rfl⟩
theorem fl_X2_11 : FL RX2 11 1 0 := ⟨RX2, TX2, 13, rfl, by decide, uw_1, tb_in 224 (by decide +kernel) (by decide +kernel), rfl⟩
theorem e_X2_init_91 : DC cX2_init 91 1 92 (.iload_n 1) := ⟨by decide +kernel, rfl⟩
theorem e_X2_init_92 : DC cX2_init 92 3 95 (.new 9) := ⟨by decide +kernel, rfl⟩
theorem fn_X2_9 : FN RX2 9 3 18 [.int 0, .int 0, .int 0, .int 0, .int 0, .int 0, .int 0, .int 0, .int 0, .int 0, .int 0, .int 0, .int 0, .null, .null, .null, .null, .null] := ⟨RX5, TX5, tyX5, rfl, uw_3, tb_in 43 (by decide +kernel) (by decide +kernel), tb_in 83 (by decide +kernel) (by decide +kernel), tb_in 5 (by decide +kernel) (by decide +kernel), tyX5_ok, by decide +kernel⟩
theorem e_X2_init_95 : DC cX2_init 95 1 96 (.dup) := ⟨by decide +kernel, rfl⟩
theorem e_X2_init_96 : DC cX2_init 96 3 99 (.invokespecial 50) := ⟨by decide +kernel, rfl⟩
theorem cb_X5_init : CB yX5_init cX5_init 1 none 0 := ⟨tb_in 86 (by decide +kernel) (by decide +kernel), tb_in 5 (by decide +kernel) (by decide +kernel), by decide +kernel⟩
theorem im_X5_init : Cond.instanceMethod yX5_init ∈ tb := tb_in 85 (by decide +kernel) (by decide +kernel)
theorem e_X2_init_99 : DC cX2_init 99 1 100 (.aastore) := ⟨by decide +kernel, rfl⟩
theorem e_X2_init_100 : DC cX2_init 100 3 103 (.iinc 1 1) := ⟨by decide +kernel, rfl⟩
theorem e_X2_init_103 : DJ cX2_init 103 82 106 .goto := DJ.mk (-21) (by decide +kernel) (by decide) rfl
theorem e_X2_init_106 : DC cX2_init 106 1 107 (.iconst 0) := ⟨by decide +kernel, rfl⟩
theorem e_X2_init_107 : DC cX2_init 107 1 108 (.istore_n 1) := ⟨by decide +kernel, rfl⟩
theorem e_X2_init_108 : DC cX2_init 108 1 109 (.iload_n 1) := ⟨by decide +kernel, rfl⟩
theorem e_X2_init_109 : DC cX2_init 109 1 110 (.iconst 4) := ⟨by decide +kernel, rfl⟩
theorem e_X2_init_110 : DJ cX2_init 110 132 113 (.if_icmp .ge) := DJ.mk 22 (by decide +kernel) (by decide) rfl
theorem e_X2_init_113 : DC cX2_init 113 1 114 (.aload_n 0) := ⟨by decide +kernel, rfl⟩
theorem e_X2_init_114 : DC cX2_init 114 3 117 (.getfield 19) := ⟨by decide +kernel, rfl⟩
theorem fl_X2_19 : FL RX2 19 1 1 := ⟨RX2, TX2, 13, rfl, by decide, uw_1, tb_in 227 (by decide +kernel) (by decide +kernel), rfl⟩
theorem e_X2_init_117 : DC cX2_init 117 1 118 (.iload_n 1) := ⟨by decide +kernel, rfl⟩
theorem e_X2_init_118 : DC cX2_init 118 3 121 (.new 17) := ⟨by decide +kernel, rfl⟩
theorem uw_4 : ∀ w ∈ u_ws RX6 TX6 4, w ∈ tb := tb_all [212, 214, 216, 218] (by decide +kernel) (by decide +kernel)
theorem fn_X2_17 : FN RX2 17 4 4 [.int 0, .int 0, .int 0, .int 0] := ⟨RX6, TX6, tyX6, rfl, uw_4, tb_in 45 (by decide +kernel) (by decide +kernel), tb_in 197 (by decide +kernel) (by decide +kernel), tb_in 7 (by decide +kernel) (by decide +kernel), tyX6_ok, by decide +kernel⟩
theorem e_X2_init_121 : DC cX2_init 121 1 122 (.dup) := ⟨by decide +kernel, rfl⟩
theorem e_X2_init_122 : DC cX2_init 122 3 125 (.invokespecial 51) := ⟨by decide +kernel, rfl⟩
theorem cb_X6_init : CB yX6_init cX6_init 1 none 0 := ⟨tb_in 200 (by decide +kernel) (by decide +kernel), tb_in 7 (by decide +kernel) (by decide +kernel), by decide +kernel⟩
theorem im_X6_init : Cond.instanceMethod yX6_init ∈ tb := tb_in 199 (by decide +kernel) (by decide +kernel)
theorem e_X2_init_125 : DC cX2_init 125 1 126 (.aastore) := ⟨by decide +kernel, rfl⟩
theorem e_X2_init_126 : DC cX2_init 126 3 129 (.iinc 1 1) := ⟨by decide +kernel, rfl⟩
theorem e_X2_init_129 : DJ cX2_init 129 108 132 .goto := DJ.mk (-21) (by decide +kernel) (by decide) rfl
theorem e_X2_init_132 : DC cX2_init 132 1 133 (.aload_n 0) := ⟨by decide +kernel, rfl⟩
theorem e_X2_init_133 : DC cX2_init 133 3 136 (.getfield 23) := ⟨by decide +kernel, rfl⟩
theorem fl_X2_23 : FL RX2 23 1 2 := ⟨RX2, TX2, 13, rfl, by decide, uw_1, tb_in 229 (by decide +kernel) (by decide +kernel), rfl⟩
theorem e_X2_init_136 : DC cX2_init 136 3 139 (.sipush 1000) := ⟨by decide +kernel, rfl⟩
theorem e_X2_init_139 : DC cX2_init 139 3 142 (.invokestatic 52) := ⟨by decide +kernel, rfl⟩
theorem cb_J7_fill_53178 : CB yJ7_fill_53178 cJ7_fill_53178 4 none 2 := ⟨tb_in 223 (by decide +kernel) (by decide +kernel), tb_in 8 (by decide +kernel) (by decide +kernel), by decide +kernel⟩
theorem ml_X2_52 : Cond.methodLink RX2 52 yJ7_fill_53178 ∈ tb := tb_in 221 (by decide +kernel) (by decide +kernel)
theorem sm_J7_fill_53178 : Cond.static yJ7_fill_53178 ∈ tb := tb_in 222 (by decide +kernel) (by decide +kernel)
theorem e_X2_init_142 : DC cX2_init 142 1 143 (.return_) := ⟨by decide +kernel, rfl⟩
theorem e_X7_init_0 : DC cX7_init 0 1 1 (.aload_n 0) := ⟨by decide +kernel, rfl⟩
theorem e_X7_init_1 : DC cX7_init 1 3 4 (.invokespecial 3) := ⟨by decide +kernel, rfl⟩
theorem ml_X7_3 : Cond.methodLink RX7 3 objectInit ∈ tb := tb_in 283 (by decide +kernel) (by decide +kernel)
theorem e_X7_init_4 : DC cX7_init 4 1 5 (.aload_n 0) := ⟨by decide +kernel, rfl⟩
theorem e_X7_init_5 : DC cX7_init 5 1 6 (.iconst 4) := ⟨by decide +kernel, rfl⟩
theorem e_X7_init_6 : DC cX7_init 6 2 8 (.newarray .int) := ⟨by decide +kernel, rfl⟩
theorem e_X7_init_8 : DC cX7_init 8 3 11 (.putfield 9) := ⟨by decide +kernel, rfl⟩
theorem uw_5 : ∀ w ∈ u_ws RX7 TX7 13, w ∈ tb := tb_all [300, 302, 304, 306, 308, 310, 312, 314, 316, 318, 320, 322, 324] (by decide +kernel) (by decide +kernel)
theorem fp_X7_9 : FP RX7 9 5 3 true (.array .int) := ⟨RX7, TX7, 13, tyX7, rfl, by decide, uw_5, tb_in 287 (by decide +kernel) (by decide +kernel), rfl, rfl, by decide +kernel, tyX7_ok, nmX7⟩
theorem e_X7_init_11 : DC cX7_init 11 1 12 (.aload_n 0) := ⟨by decide +kernel, rfl⟩
theorem e_X7_init_12 : DC cX7_init 12 1 13 (.iconst (-1)) := ⟨by decide +kernel, rfl⟩
theorem e_X7_init_13 : DC cX7_init 13 3 16 (.putfield 15) := ⟨by decide +kernel, rfl⟩
theorem fp_X7_15 : FP RX7 15 5 12 false .int := ⟨RX7, TX7, 13, tyX7, rfl, by decide, uw_5, tb_in 298 (by decide +kernel) (by decide +kernel), rfl, rfl, by decide +kernel, tyX7_ok, nmX7⟩
theorem e_X7_init_16 : DC cX7_init 16 1 17 (.aload_n 0) := ⟨by decide +kernel, rfl⟩
theorem e_X7_init_17 : DC cX7_init 17 1 18 (.aload_n 1) := ⟨by decide +kernel, rfl⟩
theorem e_X7_init_18 : DC cX7_init 18 3 21 (.putfield 19) := ⟨by decide +kernel, rfl⟩
theorem fp_X7_19 : FP RX7 19 5 0 true (.array .byte) := ⟨RX7, TX7, 13, tyX7, rfl, by decide, uw_5, tb_in 284 (by decide +kernel) (by decide +kernel), rfl, rfl, by decide +kernel, tyX7_ok, nmX7⟩
theorem e_X7_init_21 : DC cX7_init 21 1 22 (.aload_n 0) := ⟨by decide +kernel, rfl⟩
theorem e_X7_init_22 : DC cX7_init 22 1 23 (.aload_n 2) := ⟨by decide +kernel, rfl⟩
theorem e_X7_init_23 : DC cX7_init 23 3 26 (.putfield 23) := ⟨by decide +kernel, rfl⟩
theorem fp_X7_23 : FP RX7 23 5 2 false (.object "LeaseLedger$Book") := ⟨RX7, TX7, 13, tyX7, rfl, by decide, uw_5, tb_in 286 (by decide +kernel) (by decide +kernel), rfl, rfl, by decide +kernel, tyX7_ok, nmX7⟩
theorem e_X7_init_26 : DC cX7_init 26 1 27 (.return_) := ⟨by decide +kernel, rfl⟩
set_option maxRecDepth 20000 in
theorem k_Book_init (l : Launch) (V : VX) (σ : Mem) (b : Nat) (h0 : σ b = some (ob 1 [.null, .null, .null, .null, .null, .null, .null, .null, .int 0, .int 0, .int 0, .int 0, .int 0])) : Ct l V yX2_init cX2_init 2 none 4 62 1807 (b + 1) σ [.ref b] (fun r τ => r = none ∧ BZ V τ b ∧ ∀ q : Nat, q < b → τ q = σ q) := by
  refine Ct.of (by decide) (Nat.le_of_ble_eq_true rfl) [(0, .ref b)] rfl (fun X hX F hQ => ?_)
  refine m_aload_n F rfl e_X2_init_0 ?_
  refine m_objInit F e_X2_init_1 ml_X2_3 im_obj co_obj (Nat.le_of_ble_eq_true rfl) (Nat.le_of_ble_eq_true rfl) ?_
  refine m_aload_n F rfl e_X2_init_4 ?_
  refine m_iconst F (v := 4) (by decide) e_X2_init_5 ?_
  refine m_anew F (ti := 4) (len := 4) e_X2_init_6 cl_X2_9 F.ku.2.2.1 rfl (by decide) (by decide) (by decide) (k' := 1) (z' := 4) (N' := b + 2) rfl rfl rfl (Nat.le_of_ble_eq_true rfl) (Nat.le_of_ble_eq_true rfl) ?_
  refine m_putF F e_X2_init_9 fp_X2_11 rfl rfl (ru_ne (by omega) h0) rfl rfl (Nat.le_of_ble_eq_true rfl) (fs' := [.ref (b + 1), .null, .null, .null, .null, .null, .null, .null, .int 0, .int 0, .int 0, .int 0, .int 0]) rfl rfl ?_
  refine m_aload_n F rfl e_X2_init_12 ?_
  refine m_iconst F (v := 4) (by decide) e_X2_init_13 ?_
  refine m_anew F (ti := 5) (len := 4) e_X2_init_14 cl_X2_17 F.ku.2.2.2.1 rfl (by decide) (by decide) (by decide) (k' := 2) (z' := 8) (N' := b + 3) rfl rfl rfl (Nat.le_of_ble_eq_true rfl) (Nat.le_of_ble_eq_true rfl) ?_
  refine m_putF F e_X2_init_17 fp_X2_19 rfl rfl (ru_ne (by omega) ru_eq) rfl rfl (Nat.le_of_ble_eq_true rfl) (fs' := [.ref (b + 1), .ref (b + 2), .null, .null, .null, .null, .null, .null, .int 0, .int 0, .int 0, .int 0, .int 0]) rfl rfl ?_
  refine m_aload_n F rfl e_X2_init_20 ?_
  refine m_bipush F (v := 100) (by decide) e_X2_init_21 ?_
  refine m_newI F (len := 100) e_X2_init_23 arr_int (by decide) (by decide) (by decide) (k' := 3) (z' := 108) (N' := b + 4) rfl rfl rfl (Nat.le_of_ble_eq_true rfl) (Nat.le_of_ble_eq_true rfl) ?_
  refine m_putF F e_X2_init_25 fp_X2_23 rfl rfl (ru_ne (by omega) ru_eq) rfl rfl (Nat.le_of_ble_eq_true rfl) (fs' := [.ref (b + 1), .ref (b + 2), .ref (b + 3), .null, .null, .null, .null, .null, .int 0, .int 0, .int 0, .int 0, .int 0]) rfl rfl ?_
  refine m_aload_n F rfl e_X2_init_28 ?_
  refine m_bipush F (v := 8) (by decide) e_X2_init_29 ?_
  refine m_newI F (len := 8) e_X2_init_31 arr_int (by decide) (by decide) (by decide) (k' := 4) (z' := 116) (N' := b + 5) rfl rfl rfl (Nat.le_of_ble_eq_true rfl) (Nat.le_of_ble_eq_true rfl) ?_
  refine m_putF F e_X2_init_33 fp_X2_27 rfl rfl (ru_ne (by omega) ru_eq) rfl rfl (Nat.le_of_ble_eq_true rfl) (fs' := [.ref (b + 1), .ref (b + 2), .ref (b + 3), .ref (b + 4), .null, .null, .null, .null, .int 0, .int 0, .int 0, .int 0, .int 0]) rfl rfl ?_
  refine m_aload_n F rfl e_X2_init_36 ?_
  refine m_new F e_X2_init_37 fn_X2_30 (k' := 5) (z' := 119) (N' := b + 6) rfl rfl rfl (Nat.le_of_ble_eq_true rfl) (Nat.le_of_ble_eq_true rfl) ?_
  refine m_dup F rfl e_X2_init_40 ?_
  refine m_callIN F e_X2_init_41 (k_Journal_init (x_l X) V (b + 6) _ (b + 5) (by omega) ru_eq) cb_X3_init (by simp [nestW, yX2_init]) im_X3_init rfl rfl (rest := [.ref (b + 5), .ref b]) rfl (Nat.le_of_ble_eq_true rfl) ⟨Nat.le_of_ble_eq_true rfl, Nat.le_of_ble_eq_true rfl⟩ ⟨Nat.le_of_ble_eq_true rfl, Nat.le_of_ble_eq_true rfl⟩ (k' := 7) (z' := 485) (N' := b + 8) rfl rfl rfl (fun r τ25 hp => ?_)
  obtain ⟨rfl, h26, h27, h28, hf29⟩ := hp
  have g30 : τ25 b = some (ob 1 [.ref (b + 1), .ref (b + 2), .ref (b + 3), .ref (b + 4), .null, .null, .null, .null, .int 0, .int 0, .int 0, .int 0, .int 0]) := (hf29 b (by omega) (by omega)).trans (ru_ne (by omega) ru_eq)
  have g31 : τ25 (b + 1) = some (aR 4 V 4 (fun _ => none)) := (hf29 (b + 1) (by omega) (by omega)).trans (ru_ne (by omega) (ru_ne (by omega) (ru_ne (by omega) (ru_ne (by omega) (ru_ne (by omega) (ru_ne (by omega) (ru_ne (by omega) (ru_ne (by omega) ru_eq))))))))
  have g32 : τ25 (b + 2) = some (aR 5 V 4 (fun _ => none)) := (hf29 (b + 2) (by omega) (by omega)).trans (ru_ne (by omega) (ru_ne (by omega) (ru_ne (by omega) (ru_ne (by omega) (ru_ne (by omega) (ru_ne (by omega) ru_eq))))))
  have g33 : τ25 (b + 3) = some (aI V 100 (fun _ => 0)) := (hf29 (b + 3) (by omega) (by omega)).trans (ru_ne (by omega) (ru_ne (by omega) (ru_ne (by omega) (ru_ne (by omega) ru_eq))))
  have g34 : τ25 (b + 4) = some (aI V 8 (fun _ => 0)) := (hf29 (b + 4) (by omega) (by omega)).trans (ru_ne (by omega) (ru_ne (by omega) ru_eq))
  have fr35 : ∀ q : Nat, q < b → τ25 q = σ q := fun q h1 => (hf29 q (by omega) (by omega)).trans (ru_ne (by omega) (ru_ne (by omega) (ru_ne (by omega) (ru_ne (by omega) (ru_ne (by omega) (ru_ne (by omega) (ru_ne (by omega) (ru_ne (by omega) (ru_ne (by omega) rfl)))))))))
  refine m_putF F e_X2_init_44 fp_X2_33 rfl rfl g30 rfl rfl (Nat.le_of_ble_eq_true rfl) (fs' := [.ref (b + 1), .ref (b + 2), .ref (b + 3), .ref (b + 4), .ref (b + 5), .null, .null, .null, .int 0, .int 0, .int 0, .int 0, .int 0]) rfl rfl ?_
  refine m_aload_n F rfl e_X2_init_47 ?_
  refine m_new F e_X2_init_48 fn_X2_37 (k' := 8) (z' := 487) (N' := b + 9) rfl rfl rfl (Nat.le_of_ble_eq_true rfl) (Nat.le_of_ble_eq_true rfl) ?_
  refine m_dup F rfl e_X2_init_51 ?_
  refine m_callIN F e_X2_init_52 (k_Amount_init (x_l X) V _ _ (b + 8)) cb_X1_init (by simp [nestW, yX2_init]) im_X1_init rfl rfl (rest := [.ref (b + 8), .ref b]) rfl (Nat.le_of_ble_eq_true rfl) ⟨Nat.le_of_ble_eq_true rfl, Nat.le_of_ble_eq_true rfl⟩ ⟨Nat.le_of_ble_eq_true rfl, Nat.le_of_ble_eq_true rfl⟩ (k' := 8) (z' := 487) (N' := b + 9) rfl rfl rfl (fun r τ hp => ?_)
  obtain ⟨rfl, rfl⟩ := hp
  refine m_putF F e_X2_init_55 fp_X2_40 rfl rfl (ru_ne (by omega) ru_eq) rfl rfl (Nat.le_of_ble_eq_true rfl) (fs' := [.ref (b + 1), .ref (b + 2), .ref (b + 3), .ref (b + 4), .ref (b + 5), .ref (b + 8), .null, .null, .int 0, .int 0, .int 0, .int 0, .int 0]) rfl rfl ?_
  refine m_aload_n F rfl e_X2_init_58 ?_
  refine m_new F e_X2_init_59 fn_X2_37 (k' := 9) (z' := 489) (N' := b + 10) rfl rfl rfl (Nat.le_of_ble_eq_true rfl) (Nat.le_of_ble_eq_true rfl) ?_
  refine m_dup F rfl e_X2_init_62 ?_
  refine m_callIN F e_X2_init_63 (k_Amount_init (x_l X) V _ _ (b + 9)) cb_X1_init (by simp [nestW, yX2_init]) im_X1_init rfl rfl (rest := [.ref (b + 9), .ref b]) rfl (Nat.le_of_ble_eq_true rfl) ⟨Nat.le_of_ble_eq_true rfl, Nat.le_of_ble_eq_true rfl⟩ ⟨Nat.le_of_ble_eq_true rfl, Nat.le_of_ble_eq_true rfl⟩ (k' := 9) (z' := 489) (N' := b + 10) rfl rfl rfl (fun r τ hp => ?_)
  obtain ⟨rfl, rfl⟩ := hp
  refine m_putF F e_X2_init_66 fp_X2_44 rfl rfl (ru_ne (by omega) ru_eq) rfl rfl (Nat.le_of_ble_eq_true rfl) (fs' := [.ref (b + 1), .ref (b + 2), .ref (b + 3), .ref (b + 4), .ref (b + 5), .ref (b + 8), .ref (b + 9), .null, .int 0, .int 0, .int 0, .int 0, .int 0]) rfl rfl ?_
  refine m_aload_n F rfl e_X2_init_69 ?_
  refine m_new F e_X2_init_70 fn_X2_37 (k' := 10) (z' := 491) (N' := b + 11) rfl rfl rfl (Nat.le_of_ble_eq_true rfl) (Nat.le_of_ble_eq_true rfl) ?_
  refine m_dup F rfl e_X2_init_73 ?_
  refine m_callIN F e_X2_init_74 (k_Amount_init (x_l X) V _ _ (b + 10)) cb_X1_init (by simp [nestW, yX2_init]) im_X1_init rfl rfl (rest := [.ref (b + 10), .ref b]) rfl (Nat.le_of_ble_eq_true rfl) ⟨Nat.le_of_ble_eq_true rfl, Nat.le_of_ble_eq_true rfl⟩ ⟨Nat.le_of_ble_eq_true rfl, Nat.le_of_ble_eq_true rfl⟩ (k' := 10) (z' := 491) (N' := b + 11) rfl rfl rfl (fun r τ hp => ?_)
  obtain ⟨rfl, rfl⟩ := hp
  refine m_putF F e_X2_init_77 fp_X2_47 rfl rfl (ru_ne (by omega) ru_eq) rfl rfl (Nat.le_of_ble_eq_true rfl) (fs' := [.ref (b + 1), .ref (b + 2), .ref (b + 3), .ref (b + 4), .ref (b + 5), .ref (b + 8), .ref (b + 9), .ref (b + 10), .int 0, .int 0, .int 0, .int 0, .int 0]) rfl rfl ?_
  refine m_iconst F (v := 0) (by decide) e_X2_init_80 ?_
  refine m_istore_n F (lv' := [(1, .int 0), (0, .ref b)]) e_X2_init_81 (by decide) rfl ?_
  refine m_iload_n F rfl e_X2_init_82 ?_
  refine m_iconst F (v := 4) (by decide) e_X2_init_83 ?_
  refine m_icmp_ge F e_X2_init_84 (fun q => absurd q (by decide)) (fun _ => ?_)
  refine m_aload_n F rfl e_X2_init_87 ?_
  refine m_get F e_X2_init_88 fl_X2_11 ru_eq rfl ?_
  refine m_iload_n F rfl e_X2_init_91 ?_
  refine m_new F e_X2_init_92 fn_X2_9 (k' := 11) (z' := 509) (N' := b + 12) rfl rfl rfl (Nat.le_of_ble_eq_true rfl) (Nat.le_of_ble_eq_true rfl) ?_
  refine m_dup F rfl e_X2_init_95 ?_
  refine m_callIN F e_X2_init_96 (k_Lease_init (x_l X) V (b + 12) _ (b + 11) (by omega) ru_eq) cb_X5_init (by simp [nestW, yX2_init]) im_X5_init rfl rfl (rest := [.ref (b + 11), .int 0, .ref (b + 1)]) rfl (Nat.le_of_ble_eq_true rfl) ⟨Nat.le_of_ble_eq_true rfl, Nat.le_of_ble_eq_true rfl⟩ ⟨Nat.le_of_ble_eq_true rfl, Nat.le_of_ble_eq_true rfl⟩ (k' := 22) (z' := 816) (N' := b + 23) rfl rfl rfl (fun r τ36 hp => ?_)
  obtain ⟨rfl, h37, h38, h39, h40, h41, h42, h43, h44, h45, h46, h47, h48, hf49⟩ := hp
  have g50 : τ36 b = some (ob 1 [.ref (b + 1), .ref (b + 2), .ref (b + 3), .ref (b + 4), .ref (b + 5), .ref (b + 8), .ref (b + 9), .ref (b + 10), .int 0, .int 0, .int 0, .int 0, .int 0]) := (hf49 b (by omega) (by omega)).trans (ru_ne (by omega) ru_eq)
  have g51 : τ36 (b + 1) = some (aR 4 V 4 (fun _ => none)) := (hf49 (b + 1) (by omega) (by omega)).trans (ru_ne (by omega) (ru_ne (by omega) (ru_ne (by omega) (ru_ne (by omega) (ru_ne (by omega) (ru_ne (by omega) (ru_ne (by omega) (ru_ne (by omega) g31))))))))
  have g52 : τ36 (b + 2) = some (aR 5 V 4 (fun _ => none)) := (hf49 (b + 2) (by omega) (by omega)).trans (ru_ne (by omega) (ru_ne (by omega) (ru_ne (by omega) (ru_ne (by omega) (ru_ne (by omega) (ru_ne (by omega) (ru_ne (by omega) (ru_ne (by omega) g32))))))))
  have g53 : τ36 (b + 3) = some (aI V 100 (fun _ => 0)) := (hf49 (b + 3) (by omega) (by omega)).trans (ru_ne (by omega) (ru_ne (by omega) (ru_ne (by omega) (ru_ne (by omega) (ru_ne (by omega) (ru_ne (by omega) (ru_ne (by omega) (ru_ne (by omega) g33))))))))
  have g54 : τ36 (b + 4) = some (aI V 8 (fun _ => 0)) := (hf49 (b + 4) (by omega) (by omega)).trans (ru_ne (by omega) (ru_ne (by omega) (ru_ne (by omega) (ru_ne (by omega) (ru_ne (by omega) (ru_ne (by omega) (ru_ne (by omega) (ru_ne (by omega) g34))))))))
  have g55 : τ36 (b + 5) = some (ob 2 [.ref (b + 6), .ref (b + 7), .int 0]) := (hf49 (b + 5) (by omega) (by omega)).trans (ru_ne (by omega) (ru_ne (by omega) (ru_ne (by omega) (ru_ne (by omega) (ru_ne (by omega) (ru_ne (by omega) (ru_ne (by omega) (ru_ne (by omega) h26))))))))
  have g56 : τ36 (b + 6) = some (aJ V 360 (fun _ => 0)) := (hf49 (b + 6) (by omega) (by omega)).trans (ru_ne (by omega) (ru_ne (by omega) (ru_ne (by omega) (ru_ne (by omega) (ru_ne (by omega) (ru_ne (by omega) (ru_ne (by omega) (ru_ne (by omega) h27))))))))
  have g57 : τ36 (b + 7) = some (aJ V 6 (fun _ => 0)) := (hf49 (b + 7) (by omega) (by omega)).trans (ru_ne (by omega) (ru_ne (by omega) (ru_ne (by omega) (ru_ne (by omega) (ru_ne (by omega) (ru_ne (by omega) (ru_ne (by omega) (ru_ne (by omega) h28))))))))
  have g58 : τ36 (b + 8) = some (ob 0 [.long 0, .long 0]) := (hf49 (b + 8) (by omega) (by omega)).trans (ru_ne (by omega) (ru_ne (by omega) (ru_ne (by omega) (ru_ne (by omega) (ru_ne (by omega) (ru_ne (by omega) ru_eq))))))
  have g59 : τ36 (b + 9) = some (ob 0 [.long 0, .long 0]) := (hf49 (b + 9) (by omega) (by omega)).trans (ru_ne (by omega) (ru_ne (by omega) (ru_ne (by omega) (ru_ne (by omega) ru_eq))))
  have g60 : τ36 (b + 10) = some (ob 0 [.long 0, .long 0]) := (hf49 (b + 10) (by omega) (by omega)).trans (ru_ne (by omega) (ru_ne (by omega) ru_eq))
  have fr61 : ∀ q : Nat, q < b → τ36 q = σ q := fun q h1 => (hf49 q (by omega) (by omega)).trans (ru_ne (by omega) (ru_ne (by omega) (ru_ne (by omega) (ru_ne (by omega) (ru_ne (by omega) (ru_ne (by omega) (ru_ne (by omega) (ru_ne (by omega) (fr35 q h1)))))))))
  refine m_aast F (j := 0) e_X2_init_99 g51 rfl h37 rfl (by decide) (by unfold vp_in; decide) rfl rfl ?_
  refine m_iinc F (v := 1) (lv' := [(1, .int 1), (0, .ref b)]) e_X2_init_100 rfl (by decide) (by decide) rfl ?_
  refine m_goto F e_X2_init_103 ?_
  refine m_iload_n F rfl e_X2_init_82 ?_
  refine m_iconst F (v := 4) (by decide) e_X2_init_83 ?_
  refine m_icmp_ge F e_X2_init_84 (fun q => absurd q (by decide)) (fun _ => ?_)
  refine m_aload_n F rfl e_X2_init_87 ?_
  refine m_get F e_X2_init_88 fl_X2_11 (ru_ne (by omega) g50) rfl ?_
  refine m_iload_n F rfl e_X2_init_91 ?_
  refine m_new F e_X2_init_92 fn_X2_9 (k' := 23) (z' := 834) (N' := b + 24) rfl rfl rfl (Nat.le_of_ble_eq_true rfl) (Nat.le_of_ble_eq_true rfl) ?_
  refine m_dup F rfl e_X2_init_95 ?_
  refine m_callIN F e_X2_init_96 (k_Lease_init (x_l X) V (b + 24) _ (b + 23) (by omega) ru_eq) cb_X5_init (by simp [nestW, yX2_init]) im_X5_init rfl rfl (rest := [.ref (b + 23), .int 1, .ref (b + 1)]) rfl (Nat.le_of_ble_eq_true rfl) ⟨Nat.le_of_ble_eq_true rfl, Nat.le_of_ble_eq_true rfl⟩ ⟨Nat.le_of_ble_eq_true rfl, Nat.le_of_ble_eq_true rfl⟩ (k' := 34) (z' := 1141) (N' := b + 35) rfl rfl rfl (fun r τ62 hp => ?_)
  obtain ⟨rfl, h63, h64, h65, h66, h67, h68, h69, h70, h71, h72, h73, h74, hf75⟩ := hp
  have g76 : τ62 b = some (ob 1 [.ref (b + 1), .ref (b + 2), .ref (b + 3), .ref (b + 4), .ref (b + 5), .ref (b + 8), .ref (b + 9), .ref (b + 10), .int 0, .int 0, .int 0, .int 0, .int 0]) := (hf75 b (by omega) (by omega)).trans (ru_ne (by omega) (ru_ne (by omega) g50))
  have g77 : τ62 (b + 1) = some (aR 4 V 4 (va_up (fun _ => none) 0 (some (b + 11)))) := (hf75 (b + 1) (by omega) (by omega)).trans (ru_ne (by omega) ru_eq)
  have g78 : τ62 (b + 2) = some (aR 5 V 4 (fun _ => none)) := (hf75 (b + 2) (by omega) (by omega)).trans (ru_ne (by omega) (ru_ne (by omega) g52))
  have g79 : τ62 (b + 3) = some (aI V 100 (fun _ => 0)) := (hf75 (b + 3) (by omega) (by omega)).trans (ru_ne (by omega) (ru_ne (by omega) g53))
  have g80 : τ62 (b + 4) = some (aI V 8 (fun _ => 0)) := (hf75 (b + 4) (by omega) (by omega)).trans (ru_ne (by omega) (ru_ne (by omega) g54))
  have g81 : τ62 (b + 5) = some (ob 2 [.ref (b + 6), .ref (b + 7), .int 0]) := (hf75 (b + 5) (by omega) (by omega)).trans (ru_ne (by omega) (ru_ne (by omega) g55))
  have g82 : τ62 (b + 6) = some (aJ V 360 (fun _ => 0)) := (hf75 (b + 6) (by omega) (by omega)).trans (ru_ne (by omega) (ru_ne (by omega) g56))
  have g83 : τ62 (b + 7) = some (aJ V 6 (fun _ => 0)) := (hf75 (b + 7) (by omega) (by omega)).trans (ru_ne (by omega) (ru_ne (by omega) g57))
  have g84 : τ62 (b + 8) = some (ob 0 [.long 0, .long 0]) := (hf75 (b + 8) (by omega) (by omega)).trans (ru_ne (by omega) (ru_ne (by omega) g58))
  have g85 : τ62 (b + 9) = some (ob 0 [.long 0, .long 0]) := (hf75 (b + 9) (by omega) (by omega)).trans (ru_ne (by omega) (ru_ne (by omega) g59))
  have g86 : τ62 (b + 10) = some (ob 0 [.long 0, .long 0]) := (hf75 (b + 10) (by omega) (by omega)).trans (ru_ne (by omega) (ru_ne (by omega) g60))
  have g87 : τ62 (b + 11) = some (ob 3 [.int 0, .int 0, .int 0, .int 0, .int 0, .int 0, .int 0, .int 0, .int 0, .int 0, .int 0, .int 0, .int 0, .ref (b + 12), .ref (b + 13), .ref (b + 14), .ref (b + 18), .ref (b + 22)]) := (hf75 (b + 11) (by omega) (by omega)).trans (ru_ne (by omega) (ru_ne (by omega) h37))
  have g88 : τ62 (b + 12) = some (ob 0 [.long 0, .long 0]) := (hf75 (b + 12) (by omega) (by omega)).trans (ru_ne (by omega) (ru_ne (by omega) h38))
  have g89 : τ62 (b + 13) = some (ob 0 [.long 0, .long 0]) := (hf75 (b + 13) (by omega) (by omega)).trans (ru_ne (by omega) (ru_ne (by omega) h39))
  have g90 : τ62 (b + 14) = some (ob 6 [.ref (b + 15), .ref (b + 16), .ref (b + 17)]) := (hf75 (b + 14) (by omega) (by omega)).trans (ru_ne (by omega) (ru_ne (by omega) h40))
  have g91 : τ62 (b + 15) = some (aJ V 72 (fun _ => 0)) := (hf75 (b + 15) (by omega) (by omega)).trans (ru_ne (by omega) (ru_ne (by omega) h41))
  have g92 : τ62 (b + 16) = some (aJ V 72 (fun _ => 0)) := (hf75 (b + 16) (by omega) (by omega)).trans (ru_ne (by omega) (ru_ne (by omega) h42))
  have g93 : τ62 (b + 17) = some (ob 0 [.long 0, .long 0]) := (hf75 (b + 17) (by omega) (by omega)).trans (ru_ne (by omega) (ru_ne (by omega) h43))
  have g94 : τ62 (b + 18) = some (ob 6 [.ref (b + 19), .ref (b + 20), .ref (b + 21)]) := (hf75 (b + 18) (by omega) (by omega)).trans (ru_ne (by omega) (ru_ne (by omega) h44))
  have g95 : τ62 (b + 19) = some (aJ V 72 (fun _ => 0)) := (hf75 (b + 19) (by omega) (by omega)).trans (ru_ne (by omega) (ru_ne (by omega) h45))
  have g96 : τ62 (b + 20) = some (aJ V 72 (fun _ => 0)) := (hf75 (b + 20) (by omega) (by omega)).trans (ru_ne (by omega) (ru_ne (by omega) h46))
  have g97 : τ62 (b + 21) = some (ob 0 [.long 0, .long 0]) := (hf75 (b + 21) (by omega) (by omega)).trans (ru_ne (by omega) (ru_ne (by omega) h47))
  have g98 : τ62 (b + 22) = some (aJ V 5 (fun _ => 0)) := (hf75 (b + 22) (by omega) (by omega)).trans (ru_ne (by omega) (ru_ne (by omega) h48))
  have fr99 : ∀ q : Nat, q < b → τ62 q = σ q := fun q h1 => (hf75 q (by omega) (by omega)).trans (ru_ne (by omega) (ru_ne (by omega) (fr61 q h1)))
  refine m_aast F (j := 1) e_X2_init_99 g77 rfl h63 rfl (by decide) (by unfold vp_in; decide) rfl rfl ?_
  refine m_iinc F (v := 2) (lv' := [(1, .int 2), (0, .ref b)]) e_X2_init_100 rfl (by decide) (by decide) rfl ?_
  refine m_goto F e_X2_init_103 ?_
  refine m_iload_n F rfl e_X2_init_82 ?_
  refine m_iconst F (v := 4) (by decide) e_X2_init_83 ?_
  refine m_icmp_ge F e_X2_init_84 (fun q => absurd q (by decide)) (fun _ => ?_)
  refine m_aload_n F rfl e_X2_init_87 ?_
  refine m_get F e_X2_init_88 fl_X2_11 (ru_ne (by omega) g76) rfl ?_
  refine m_iload_n F rfl e_X2_init_91 ?_
  refine m_new F e_X2_init_92 fn_X2_9 (k' := 35) (z' := 1159) (N' := b + 36) rfl rfl rfl (Nat.le_of_ble_eq_true rfl) (Nat.le_of_ble_eq_true rfl) ?_
  refine m_dup F rfl e_X2_init_95 ?_
  refine m_callIN F e_X2_init_96 (k_Lease_init (x_l X) V (b + 36) _ (b + 35) (by omega) ru_eq) cb_X5_init (by simp [nestW, yX2_init]) im_X5_init rfl rfl (rest := [.ref (b + 35), .int 2, .ref (b + 1)]) rfl (Nat.le_of_ble_eq_true rfl) ⟨Nat.le_of_ble_eq_true rfl, Nat.le_of_ble_eq_true rfl⟩ ⟨Nat.le_of_ble_eq_true rfl, Nat.le_of_ble_eq_true rfl⟩ (k' := 46) (z' := 1466) (N' := b + 47) rfl rfl rfl (fun r τ100 hp => ?_)
  obtain ⟨rfl, h101, h102, h103, h104, h105, h106, h107, h108, h109, h110, h111, h112, hf113⟩ := hp
  have g114 : τ100 b = some (ob 1 [.ref (b + 1), .ref (b + 2), .ref (b + 3), .ref (b + 4), .ref (b + 5), .ref (b + 8), .ref (b + 9), .ref (b + 10), .int 0, .int 0, .int 0, .int 0, .int 0]) := (hf113 b (by omega) (by omega)).trans (ru_ne (by omega) (ru_ne (by omega) g76))
  have g115 : τ100 (b + 1) = some (aR 4 V 4 (va_up (va_up (fun _ => none) 0 (some (b + 11))) 1 (some (b + 23)))) := (hf113 (b + 1) (by omega) (by omega)).trans (ru_ne (by omega) ru_eq)
  have g116 : τ100 (b + 2) = some (aR 5 V 4 (fun _ => none)) := (hf113 (b + 2) (by omega) (by omega)).trans (ru_ne (by omega) (ru_ne (by omega) g78))
  have g117 : τ100 (b + 3) = some (aI V 100 (fun _ => 0)) := (hf113 (b + 3) (by omega) (by omega)).trans (ru_ne (by omega) (ru_ne (by omega) g79))
  have g118 : τ100 (b + 4) = some (aI V 8 (fun _ => 0)) := (hf113 (b + 4) (by omega) (by omega)).trans (ru_ne (by omega) (ru_ne (by omega) g80))
  have g119 : τ100 (b + 5) = some (ob 2 [.ref (b + 6), .ref (b + 7), .int 0]) := (hf113 (b + 5) (by omega) (by omega)).trans (ru_ne (by omega) (ru_ne (by omega) g81))
  have g120 : τ100 (b + 6) = some (aJ V 360 (fun _ => 0)) := (hf113 (b + 6) (by omega) (by omega)).trans (ru_ne (by omega) (ru_ne (by omega) g82))
  have g121 : τ100 (b + 7) = some (aJ V 6 (fun _ => 0)) := (hf113 (b + 7) (by omega) (by omega)).trans (ru_ne (by omega) (ru_ne (by omega) g83))
  have g122 : τ100 (b + 8) = some (ob 0 [.long 0, .long 0]) := (hf113 (b + 8) (by omega) (by omega)).trans (ru_ne (by omega) (ru_ne (by omega) g84))
  have g123 : τ100 (b + 9) = some (ob 0 [.long 0, .long 0]) := (hf113 (b + 9) (by omega) (by omega)).trans (ru_ne (by omega) (ru_ne (by omega) g85))
  have g124 : τ100 (b + 10) = some (ob 0 [.long 0, .long 0]) := (hf113 (b + 10) (by omega) (by omega)).trans (ru_ne (by omega) (ru_ne (by omega) g86))
  have g125 : τ100 (b + 11) = some (ob 3 [.int 0, .int 0, .int 0, .int 0, .int 0, .int 0, .int 0, .int 0, .int 0, .int 0, .int 0, .int 0, .int 0, .ref (b + 12), .ref (b + 13), .ref (b + 14), .ref (b + 18), .ref (b + 22)]) := (hf113 (b + 11) (by omega) (by omega)).trans (ru_ne (by omega) (ru_ne (by omega) g87))
  have g126 : τ100 (b + 12) = some (ob 0 [.long 0, .long 0]) := (hf113 (b + 12) (by omega) (by omega)).trans (ru_ne (by omega) (ru_ne (by omega) g88))
  have g127 : τ100 (b + 13) = some (ob 0 [.long 0, .long 0]) := (hf113 (b + 13) (by omega) (by omega)).trans (ru_ne (by omega) (ru_ne (by omega) g89))
  have g128 : τ100 (b + 14) = some (ob 6 [.ref (b + 15), .ref (b + 16), .ref (b + 17)]) := (hf113 (b + 14) (by omega) (by omega)).trans (ru_ne (by omega) (ru_ne (by omega) g90))
  have g129 : τ100 (b + 15) = some (aJ V 72 (fun _ => 0)) := (hf113 (b + 15) (by omega) (by omega)).trans (ru_ne (by omega) (ru_ne (by omega) g91))
  have g130 : τ100 (b + 16) = some (aJ V 72 (fun _ => 0)) := (hf113 (b + 16) (by omega) (by omega)).trans (ru_ne (by omega) (ru_ne (by omega) g92))
  have g131 : τ100 (b + 17) = some (ob 0 [.long 0, .long 0]) := (hf113 (b + 17) (by omega) (by omega)).trans (ru_ne (by omega) (ru_ne (by omega) g93))
  have g132 : τ100 (b + 18) = some (ob 6 [.ref (b + 19), .ref (b + 20), .ref (b + 21)]) := (hf113 (b + 18) (by omega) (by omega)).trans (ru_ne (by omega) (ru_ne (by omega) g94))
  have g133 : τ100 (b + 19) = some (aJ V 72 (fun _ => 0)) := (hf113 (b + 19) (by omega) (by omega)).trans (ru_ne (by omega) (ru_ne (by omega) g95))
  have g134 : τ100 (b + 20) = some (aJ V 72 (fun _ => 0)) := (hf113 (b + 20) (by omega) (by omega)).trans (ru_ne (by omega) (ru_ne (by omega) g96))
  have g135 : τ100 (b + 21) = some (ob 0 [.long 0, .long 0]) := (hf113 (b + 21) (by omega) (by omega)).trans (ru_ne (by omega) (ru_ne (by omega) g97))
  have g136 : τ100 (b + 22) = some (aJ V 5 (fun _ => 0)) := (hf113 (b + 22) (by omega) (by omega)).trans (ru_ne (by omega) (ru_ne (by omega) g98))
  have g137 : τ100 (b + 23) = some (ob 3 [.int 0, .int 0, .int 0, .int 0, .int 0, .int 0, .int 0, .int 0, .int 0, .int 0, .int 0, .int 0, .int 0, .ref (b + 24), .ref (b + 25), .ref (b + 26), .ref (b + 30), .ref (b + 34)]) := (hf113 (b + 23) (by omega) (by omega)).trans (ru_ne (by omega) (ru_ne (by omega) h63))
  have g138 : τ100 (b + 24) = some (ob 0 [.long 0, .long 0]) := (hf113 (b + 24) (by omega) (by omega)).trans (ru_ne (by omega) (ru_ne (by omega) h64))
  have g139 : τ100 (b + 25) = some (ob 0 [.long 0, .long 0]) := (hf113 (b + 25) (by omega) (by omega)).trans (ru_ne (by omega) (ru_ne (by omega) h65))
  have g140 : τ100 (b + 26) = some (ob 6 [.ref (b + 27), .ref (b + 28), .ref (b + 29)]) := (hf113 (b + 26) (by omega) (by omega)).trans (ru_ne (by omega) (ru_ne (by omega) h66))
  have g141 : τ100 (b + 27) = some (aJ V 72 (fun _ => 0)) := (hf113 (b + 27) (by omega) (by omega)).trans (ru_ne (by omega) (ru_ne (by omega) h67))
  have g142 : τ100 (b + 28) = some (aJ V 72 (fun _ => 0)) := (hf113 (b + 28) (by omega) (by omega)).trans (ru_ne (by omega) (ru_ne (by omega) h68))
  have g143 : τ100 (b + 29) = some (ob 0 [.long 0, .long 0]) := (hf113 (b + 29) (by omega) (by omega)).trans (ru_ne (by omega) (ru_ne (by omega) h69))
  have g144 : τ100 (b + 30) = some (ob 6 [.ref (b + 31), .ref (b + 32), .ref (b + 33)]) := (hf113 (b + 30) (by omega) (by omega)).trans (ru_ne (by omega) (ru_ne (by omega) h70))
  have g145 : τ100 (b + 31) = some (aJ V 72 (fun _ => 0)) := (hf113 (b + 31) (by omega) (by omega)).trans (ru_ne (by omega) (ru_ne (by omega) h71))
  have g146 : τ100 (b + 32) = some (aJ V 72 (fun _ => 0)) := (hf113 (b + 32) (by omega) (by omega)).trans (ru_ne (by omega) (ru_ne (by omega) h72))
  have g147 : τ100 (b + 33) = some (ob 0 [.long 0, .long 0]) := (hf113 (b + 33) (by omega) (by omega)).trans (ru_ne (by omega) (ru_ne (by omega) h73))
  have g148 : τ100 (b + 34) = some (aJ V 5 (fun _ => 0)) := (hf113 (b + 34) (by omega) (by omega)).trans (ru_ne (by omega) (ru_ne (by omega) h74))
  have fr149 : ∀ q : Nat, q < b → τ100 q = σ q := fun q h1 => (hf113 q (by omega) (by omega)).trans (ru_ne (by omega) (ru_ne (by omega) (fr99 q h1)))
  refine m_aast F (j := 2) e_X2_init_99 g115 rfl h101 rfl (by decide) (by unfold vp_in; decide) rfl rfl ?_
  refine m_iinc F (v := 3) (lv' := [(1, .int 3), (0, .ref b)]) e_X2_init_100 rfl (by decide) (by decide) rfl ?_
  refine m_goto F e_X2_init_103 ?_
  refine m_iload_n F rfl e_X2_init_82 ?_
  refine m_iconst F (v := 4) (by decide) e_X2_init_83 ?_
  refine m_icmp_ge F e_X2_init_84 (fun q => absurd q (by decide)) (fun _ => ?_)
  refine m_aload_n F rfl e_X2_init_87 ?_
  refine m_get F e_X2_init_88 fl_X2_11 (ru_ne (by omega) g114) rfl ?_
  refine m_iload_n F rfl e_X2_init_91 ?_
  refine m_new F e_X2_init_92 fn_X2_9 (k' := 47) (z' := 1484) (N' := b + 48) rfl rfl rfl (Nat.le_of_ble_eq_true rfl) (Nat.le_of_ble_eq_true rfl) ?_
  refine m_dup F rfl e_X2_init_95 ?_
  refine m_callIN F e_X2_init_96 (k_Lease_init (x_l X) V (b + 48) _ (b + 47) (by omega) ru_eq) cb_X5_init (by simp [nestW, yX2_init]) im_X5_init rfl rfl (rest := [.ref (b + 47), .int 3, .ref (b + 1)]) rfl (Nat.le_of_ble_eq_true rfl) ⟨Nat.le_of_ble_eq_true rfl, Nat.le_of_ble_eq_true rfl⟩ ⟨Nat.le_of_ble_eq_true rfl, Nat.le_of_ble_eq_true rfl⟩ (k' := 58) (z' := 1791) (N' := b + 59) rfl rfl rfl (fun r τ150 hp => ?_)
  obtain ⟨rfl, h151, h152, h153, h154, h155, h156, h157, h158, h159, h160, h161, h162, hf163⟩ := hp
  have g164 : τ150 b = some (ob 1 [.ref (b + 1), .ref (b + 2), .ref (b + 3), .ref (b + 4), .ref (b + 5), .ref (b + 8), .ref (b + 9), .ref (b + 10), .int 0, .int 0, .int 0, .int 0, .int 0]) := (hf163 b (by omega) (by omega)).trans (ru_ne (by omega) (ru_ne (by omega) g114))
  have g165 : τ150 (b + 1) = some (aR 4 V 4 (va_up (va_up (va_up (fun _ => none) 0 (some (b + 11))) 1 (some (b + 23))) 2 (some (b + 35)))) := (hf163 (b + 1) (by omega) (by omega)).trans (ru_ne (by omega) ru_eq)
  have g166 : τ150 (b + 2) = some (aR 5 V 4 (fun _ => none)) := (hf163 (b + 2) (by omega) (by omega)).trans (ru_ne (by omega) (ru_ne (by omega) g116))
  have g167 : τ150 (b + 3) = some (aI V 100 (fun _ => 0)) := (hf163 (b + 3) (by omega) (by omega)).trans (ru_ne (by omega) (ru_ne (by omega) g117))
  have g168 : τ150 (b + 4) = some (aI V 8 (fun _ => 0)) := (hf163 (b + 4) (by omega) (by omega)).trans (ru_ne (by omega) (ru_ne (by omega) g118))
  have g169 : τ150 (b + 5) = some (ob 2 [.ref (b + 6), .ref (b + 7), .int 0]) := (hf163 (b + 5) (by omega) (by omega)).trans (ru_ne (by omega) (ru_ne (by omega) g119))
  have g170 : τ150 (b + 6) = some (aJ V 360 (fun _ => 0)) := (hf163 (b + 6) (by omega) (by omega)).trans (ru_ne (by omega) (ru_ne (by omega) g120))
  have g171 : τ150 (b + 7) = some (aJ V 6 (fun _ => 0)) := (hf163 (b + 7) (by omega) (by omega)).trans (ru_ne (by omega) (ru_ne (by omega) g121))
  have g172 : τ150 (b + 8) = some (ob 0 [.long 0, .long 0]) := (hf163 (b + 8) (by omega) (by omega)).trans (ru_ne (by omega) (ru_ne (by omega) g122))
  have g173 : τ150 (b + 9) = some (ob 0 [.long 0, .long 0]) := (hf163 (b + 9) (by omega) (by omega)).trans (ru_ne (by omega) (ru_ne (by omega) g123))
  have g174 : τ150 (b + 10) = some (ob 0 [.long 0, .long 0]) := (hf163 (b + 10) (by omega) (by omega)).trans (ru_ne (by omega) (ru_ne (by omega) g124))
  have g175 : τ150 (b + 11) = some (ob 3 [.int 0, .int 0, .int 0, .int 0, .int 0, .int 0, .int 0, .int 0, .int 0, .int 0, .int 0, .int 0, .int 0, .ref (b + 12), .ref (b + 13), .ref (b + 14), .ref (b + 18), .ref (b + 22)]) := (hf163 (b + 11) (by omega) (by omega)).trans (ru_ne (by omega) (ru_ne (by omega) g125))
  have g176 : τ150 (b + 12) = some (ob 0 [.long 0, .long 0]) := (hf163 (b + 12) (by omega) (by omega)).trans (ru_ne (by omega) (ru_ne (by omega) g126))
  have g177 : τ150 (b + 13) = some (ob 0 [.long 0, .long 0]) := (hf163 (b + 13) (by omega) (by omega)).trans (ru_ne (by omega) (ru_ne (by omega) g127))
  have g178 : τ150 (b + 14) = some (ob 6 [.ref (b + 15), .ref (b + 16), .ref (b + 17)]) := (hf163 (b + 14) (by omega) (by omega)).trans (ru_ne (by omega) (ru_ne (by omega) g128))
  have g179 : τ150 (b + 15) = some (aJ V 72 (fun _ => 0)) := (hf163 (b + 15) (by omega) (by omega)).trans (ru_ne (by omega) (ru_ne (by omega) g129))
  have g180 : τ150 (b + 16) = some (aJ V 72 (fun _ => 0)) := (hf163 (b + 16) (by omega) (by omega)).trans (ru_ne (by omega) (ru_ne (by omega) g130))
  have g181 : τ150 (b + 17) = some (ob 0 [.long 0, .long 0]) := (hf163 (b + 17) (by omega) (by omega)).trans (ru_ne (by omega) (ru_ne (by omega) g131))
  have g182 : τ150 (b + 18) = some (ob 6 [.ref (b + 19), .ref (b + 20), .ref (b + 21)]) := (hf163 (b + 18) (by omega) (by omega)).trans (ru_ne (by omega) (ru_ne (by omega) g132))
  have g183 : τ150 (b + 19) = some (aJ V 72 (fun _ => 0)) := (hf163 (b + 19) (by omega) (by omega)).trans (ru_ne (by omega) (ru_ne (by omega) g133))
  have g184 : τ150 (b + 20) = some (aJ V 72 (fun _ => 0)) := (hf163 (b + 20) (by omega) (by omega)).trans (ru_ne (by omega) (ru_ne (by omega) g134))
  have g185 : τ150 (b + 21) = some (ob 0 [.long 0, .long 0]) := (hf163 (b + 21) (by omega) (by omega)).trans (ru_ne (by omega) (ru_ne (by omega) g135))
  have g186 : τ150 (b + 22) = some (aJ V 5 (fun _ => 0)) := (hf163 (b + 22) (by omega) (by omega)).trans (ru_ne (by omega) (ru_ne (by omega) g136))
  have g187 : τ150 (b + 23) = some (ob 3 [.int 0, .int 0, .int 0, .int 0, .int 0, .int 0, .int 0, .int 0, .int 0, .int 0, .int 0, .int 0, .int 0, .ref (b + 24), .ref (b + 25), .ref (b + 26), .ref (b + 30), .ref (b + 34)]) := (hf163 (b + 23) (by omega) (by omega)).trans (ru_ne (by omega) (ru_ne (by omega) g137))
  have g188 : τ150 (b + 24) = some (ob 0 [.long 0, .long 0]) := (hf163 (b + 24) (by omega) (by omega)).trans (ru_ne (by omega) (ru_ne (by omega) g138))
  have g189 : τ150 (b + 25) = some (ob 0 [.long 0, .long 0]) := (hf163 (b + 25) (by omega) (by omega)).trans (ru_ne (by omega) (ru_ne (by omega) g139))
  have g190 : τ150 (b + 26) = some (ob 6 [.ref (b + 27), .ref (b + 28), .ref (b + 29)]) := (hf163 (b + 26) (by omega) (by omega)).trans (ru_ne (by omega) (ru_ne (by omega) g140))
  have g191 : τ150 (b + 27) = some (aJ V 72 (fun _ => 0)) := (hf163 (b + 27) (by omega) (by omega)).trans (ru_ne (by omega) (ru_ne (by omega) g141))
  have g192 : τ150 (b + 28) = some (aJ V 72 (fun _ => 0)) := (hf163 (b + 28) (by omega) (by omega)).trans (ru_ne (by omega) (ru_ne (by omega) g142))
  have g193 : τ150 (b + 29) = some (ob 0 [.long 0, .long 0]) := (hf163 (b + 29) (by omega) (by omega)).trans (ru_ne (by omega) (ru_ne (by omega) g143))
  have g194 : τ150 (b + 30) = some (ob 6 [.ref (b + 31), .ref (b + 32), .ref (b + 33)]) := (hf163 (b + 30) (by omega) (by omega)).trans (ru_ne (by omega) (ru_ne (by omega) g144))
  have g195 : τ150 (b + 31) = some (aJ V 72 (fun _ => 0)) := (hf163 (b + 31) (by omega) (by omega)).trans (ru_ne (by omega) (ru_ne (by omega) g145))
  have g196 : τ150 (b + 32) = some (aJ V 72 (fun _ => 0)) := (hf163 (b + 32) (by omega) (by omega)).trans (ru_ne (by omega) (ru_ne (by omega) g146))
  have g197 : τ150 (b + 33) = some (ob 0 [.long 0, .long 0]) := (hf163 (b + 33) (by omega) (by omega)).trans (ru_ne (by omega) (ru_ne (by omega) g147))
  have g198 : τ150 (b + 34) = some (aJ V 5 (fun _ => 0)) := (hf163 (b + 34) (by omega) (by omega)).trans (ru_ne (by omega) (ru_ne (by omega) g148))
  have g199 : τ150 (b + 35) = some (ob 3 [.int 0, .int 0, .int 0, .int 0, .int 0, .int 0, .int 0, .int 0, .int 0, .int 0, .int 0, .int 0, .int 0, .ref (b + 36), .ref (b + 37), .ref (b + 38), .ref (b + 42), .ref (b + 46)]) := (hf163 (b + 35) (by omega) (by omega)).trans (ru_ne (by omega) (ru_ne (by omega) h101))
  have g200 : τ150 (b + 36) = some (ob 0 [.long 0, .long 0]) := (hf163 (b + 36) (by omega) (by omega)).trans (ru_ne (by omega) (ru_ne (by omega) h102))
  have g201 : τ150 (b + 37) = some (ob 0 [.long 0, .long 0]) := (hf163 (b + 37) (by omega) (by omega)).trans (ru_ne (by omega) (ru_ne (by omega) h103))
  have g202 : τ150 (b + 38) = some (ob 6 [.ref (b + 39), .ref (b + 40), .ref (b + 41)]) := (hf163 (b + 38) (by omega) (by omega)).trans (ru_ne (by omega) (ru_ne (by omega) h104))
  have g203 : τ150 (b + 39) = some (aJ V 72 (fun _ => 0)) := (hf163 (b + 39) (by omega) (by omega)).trans (ru_ne (by omega) (ru_ne (by omega) h105))
  have g204 : τ150 (b + 40) = some (aJ V 72 (fun _ => 0)) := (hf163 (b + 40) (by omega) (by omega)).trans (ru_ne (by omega) (ru_ne (by omega) h106))
  have g205 : τ150 (b + 41) = some (ob 0 [.long 0, .long 0]) := (hf163 (b + 41) (by omega) (by omega)).trans (ru_ne (by omega) (ru_ne (by omega) h107))
  have g206 : τ150 (b + 42) = some (ob 6 [.ref (b + 43), .ref (b + 44), .ref (b + 45)]) := (hf163 (b + 42) (by omega) (by omega)).trans (ru_ne (by omega) (ru_ne (by omega) h108))
  have g207 : τ150 (b + 43) = some (aJ V 72 (fun _ => 0)) := (hf163 (b + 43) (by omega) (by omega)).trans (ru_ne (by omega) (ru_ne (by omega) h109))
  have g208 : τ150 (b + 44) = some (aJ V 72 (fun _ => 0)) := (hf163 (b + 44) (by omega) (by omega)).trans (ru_ne (by omega) (ru_ne (by omega) h110))
  have g209 : τ150 (b + 45) = some (ob 0 [.long 0, .long 0]) := (hf163 (b + 45) (by omega) (by omega)).trans (ru_ne (by omega) (ru_ne (by omega) h111))
  have g210 : τ150 (b + 46) = some (aJ V 5 (fun _ => 0)) := (hf163 (b + 46) (by omega) (by omega)).trans (ru_ne (by omega) (ru_ne (by omega) h112))
  have fr211 : ∀ q : Nat, q < b → τ150 q = σ q := fun q h1 => (hf163 q (by omega) (by omega)).trans (ru_ne (by omega) (ru_ne (by omega) (fr149 q h1)))
  refine m_aast F (j := 3) e_X2_init_99 g165 rfl h151 rfl (by decide) (by unfold vp_in; decide) rfl rfl ?_
  refine m_iinc F (v := 4) (lv' := [(1, .int 4), (0, .ref b)]) e_X2_init_100 rfl (by decide) (by decide) rfl ?_
  refine m_goto F e_X2_init_103 ?_
  refine m_iload_n F rfl e_X2_init_82 ?_
  refine m_iconst F (v := 4) (by decide) e_X2_init_83 ?_
  refine m_icmp_ge F e_X2_init_84 (fun _ => ?_) (fun q => absurd (by decide) q)
  refine m_iconst F (v := 0) (by decide) e_X2_init_106 ?_
  refine m_istore_n F (lv' := [(1, .int 0), (0, .ref b)]) e_X2_init_107 (by decide) rfl ?_
  refine m_iload_n F rfl e_X2_init_108 ?_
  refine m_iconst F (v := 4) (by decide) e_X2_init_109 ?_
  refine m_icmp_ge F e_X2_init_110 (fun q => absurd q (by decide)) (fun _ => ?_)
  refine m_aload_n F rfl e_X2_init_113 ?_
  refine m_get F e_X2_init_114 fl_X2_19 (ru_ne (by omega) g164) rfl ?_
  refine m_iload_n F rfl e_X2_init_117 ?_
  refine m_new F e_X2_init_118 fn_X2_17 (k' := 59) (z' := 1795) (N' := b + 60) rfl rfl rfl (Nat.le_of_ble_eq_true rfl) (Nat.le_of_ble_eq_true rfl) ?_
  refine m_dup F rfl e_X2_init_121 ?_
  refine m_callIN F e_X2_init_122 (k_Option_init (x_l X) V _ _ (b + 59)) cb_X6_init (by simp [nestW, yX2_init]) im_X6_init rfl rfl (rest := [.ref (b + 59), .int 0, .ref (b + 2)]) rfl (Nat.le_of_ble_eq_true rfl) ⟨Nat.le_of_ble_eq_true rfl, Nat.le_of_ble_eq_true rfl⟩ ⟨Nat.le_of_ble_eq_true rfl, Nat.le_of_ble_eq_true rfl⟩ (k' := 59) (z' := 1795) (N' := b + 60) rfl rfl rfl (fun r τ hp => ?_)
  obtain ⟨rfl, rfl⟩ := hp
  refine m_aast F (j := 0) e_X2_init_125 (ru_ne (by omega) (ru_ne (by omega) g166)) rfl ru_eq rfl (by decide) (by unfold vp_in; decide) rfl rfl ?_
  refine m_iinc F (v := 1) (lv' := [(1, .int 1), (0, .ref b)]) e_X2_init_126 rfl (by decide) (by decide) rfl ?_
  refine m_goto F e_X2_init_129 ?_
  refine m_iload_n F rfl e_X2_init_108 ?_
  refine m_iconst F (v := 4) (by decide) e_X2_init_109 ?_
  refine m_icmp_ge F e_X2_init_110 (fun q => absurd q (by decide)) (fun _ => ?_)
  refine m_aload_n F rfl e_X2_init_113 ?_
  refine m_get F e_X2_init_114 fl_X2_19 (ru_ne (by omega) (ru_ne (by omega) (ru_ne (by omega) g164))) rfl ?_
  refine m_iload_n F rfl e_X2_init_117 ?_
  refine m_new F e_X2_init_118 fn_X2_17 (k' := 60) (z' := 1799) (N' := b + 61) rfl rfl rfl (Nat.le_of_ble_eq_true rfl) (Nat.le_of_ble_eq_true rfl) ?_
  refine m_dup F rfl e_X2_init_121 ?_
  refine m_callIN F e_X2_init_122 (k_Option_init (x_l X) V _ _ (b + 60)) cb_X6_init (by simp [nestW, yX2_init]) im_X6_init rfl rfl (rest := [.ref (b + 60), .int 1, .ref (b + 2)]) rfl (Nat.le_of_ble_eq_true rfl) ⟨Nat.le_of_ble_eq_true rfl, Nat.le_of_ble_eq_true rfl⟩ ⟨Nat.le_of_ble_eq_true rfl, Nat.le_of_ble_eq_true rfl⟩ (k' := 60) (z' := 1799) (N' := b + 61) rfl rfl rfl (fun r τ hp => ?_)
  obtain ⟨rfl, rfl⟩ := hp
  refine m_aast F (j := 1) e_X2_init_125 (ru_ne (by omega) ru_eq) rfl ru_eq rfl (by decide) (by unfold vp_in; decide) rfl rfl ?_
  refine m_iinc F (v := 2) (lv' := [(1, .int 2), (0, .ref b)]) e_X2_init_126 rfl (by decide) (by decide) rfl ?_
  refine m_goto F e_X2_init_129 ?_
  refine m_iload_n F rfl e_X2_init_108 ?_
  refine m_iconst F (v := 4) (by decide) e_X2_init_109 ?_
  refine m_icmp_ge F e_X2_init_110 (fun q => absurd q (by decide)) (fun _ => ?_)
  refine m_aload_n F rfl e_X2_init_113 ?_
  refine m_get F e_X2_init_114 fl_X2_19 (ru_ne (by omega) (ru_ne (by omega) (ru_ne (by omega) (ru_ne (by omega) (ru_ne (by omega) g164))))) rfl ?_
  refine m_iload_n F rfl e_X2_init_117 ?_
  refine m_new F e_X2_init_118 fn_X2_17 (k' := 61) (z' := 1803) (N' := b + 62) rfl rfl rfl (Nat.le_of_ble_eq_true rfl) (Nat.le_of_ble_eq_true rfl) ?_
  refine m_dup F rfl e_X2_init_121 ?_
  refine m_callIN F e_X2_init_122 (k_Option_init (x_l X) V _ _ (b + 61)) cb_X6_init (by simp [nestW, yX2_init]) im_X6_init rfl rfl (rest := [.ref (b + 61), .int 2, .ref (b + 2)]) rfl (Nat.le_of_ble_eq_true rfl) ⟨Nat.le_of_ble_eq_true rfl, Nat.le_of_ble_eq_true rfl⟩ ⟨Nat.le_of_ble_eq_true rfl, Nat.le_of_ble_eq_true rfl⟩ (k' := 61) (z' := 1803) (N' := b + 62) rfl rfl rfl (fun r τ hp => ?_)
  obtain ⟨rfl, rfl⟩ := hp
  refine m_aast F (j := 2) e_X2_init_125 (ru_ne (by omega) ru_eq) rfl ru_eq rfl (by decide) (by unfold vp_in; decide) rfl rfl ?_
  refine m_iinc F (v := 3) (lv' := [(1, .int 3), (0, .ref b)]) e_X2_init_126 rfl (by decide) (by decide) rfl ?_
  refine m_goto F e_X2_init_129 ?_
  refine m_iload_n F rfl e_X2_init_108 ?_
  refine m_iconst F (v := 4) (by decide) e_X2_init_109 ?_
  refine m_icmp_ge F e_X2_init_110 (fun q => absurd q (by decide)) (fun _ => ?_)
  refine m_aload_n F rfl e_X2_init_113 ?_
  refine m_get F e_X2_init_114 fl_X2_19 (ru_ne (by omega) (ru_ne (by omega) (ru_ne (by omega) (ru_ne (by omega) (ru_ne (by omega) (ru_ne (by omega) (ru_ne (by omega) g164))))))) rfl ?_
  refine m_iload_n F rfl e_X2_init_117 ?_
  refine m_new F e_X2_init_118 fn_X2_17 (k' := 62) (z' := 1807) (N' := b + 63) rfl rfl rfl (Nat.le_of_ble_eq_true rfl) (Nat.le_of_ble_eq_true rfl) ?_
  refine m_dup F rfl e_X2_init_121 ?_
  refine m_callIN F e_X2_init_122 (k_Option_init (x_l X) V _ _ (b + 62)) cb_X6_init (by simp [nestW, yX2_init]) im_X6_init rfl rfl (rest := [.ref (b + 62), .int 3, .ref (b + 2)]) rfl (Nat.le_of_ble_eq_true rfl) ⟨Nat.le_of_ble_eq_true rfl, Nat.le_of_ble_eq_true rfl⟩ ⟨Nat.le_of_ble_eq_true rfl, Nat.le_of_ble_eq_true rfl⟩ (k' := 62) (z' := 1807) (N' := b + 63) rfl rfl rfl (fun r τ hp => ?_)
  obtain ⟨rfl, rfl⟩ := hp
  refine m_aast F (j := 3) e_X2_init_125 (ru_ne (by omega) ru_eq) rfl ru_eq rfl (by decide) (by unfold vp_in; decide) rfl rfl ?_
  refine m_iinc F (v := 4) (lv' := [(1, .int 4), (0, .ref b)]) e_X2_init_126 rfl (by decide) (by decide) rfl ?_
  refine m_goto F e_X2_init_129 ?_
  refine m_iload_n F rfl e_X2_init_108 ?_
  refine m_iconst F (v := 4) (by decide) e_X2_init_109 ?_
  refine m_icmp_ge F e_X2_init_110 (fun _ => ?_) (fun q => absurd (by decide) q)
  refine m_aload_n F rfl e_X2_init_132 ?_
  refine m_get F e_X2_init_133 fl_X2_23 (ru_ne (by omega) (ru_ne (by omega) (ru_ne (by omega) (ru_ne (by omega) (ru_ne (by omega) (ru_ne (by omega) (ru_ne (by omega) (ru_ne (by omega) (ru_ne (by omega) g164))))))))) rfl ?_
  refine m_sipush F (v := 1000) (by decide) e_X2_init_136 ?_
  refine m_callS F e_X2_init_139 (k_fillI (x_l X) V _ _ (b + 3) 100 (fun _ => 0) 1000 (by decide) (ru_ne (by omega) (ru_ne (by omega) (ru_ne (by omega) (ru_ne (by omega) (ru_ne (by omega) (ru_ne (by omega) (ru_ne (by omega) (ru_ne (by omega) (ru_ne (by omega) g167)))))))))) cb_J7_fill_53178 ml_X2_52 sm_J7_fill_53178 rfl (rest := []) rfl (Nat.le_of_ble_eq_true rfl) ⟨Nat.le_of_ble_eq_true rfl, Nat.le_of_ble_eq_true rfl⟩ ⟨Nat.le_of_ble_eq_true rfl, Nat.le_of_ble_eq_true rfl⟩ (k' := 62) (z' := 1807) (N' := b + 63) rfl rfl rfl (fun r τ hp => ?_)
  obtain ⟨rfl, rfl⟩ := hp
  refine reI (g := (fun _ => 1000)) (fun j hj => by simp only [fillI]; rw [if_pos ⟨Nat.zero_le _, hj⟩]) ?_
  exact m_vret F hQ e_X2_init_142 (⟨rfl, ⟨⟨(ru_ne (by omega) (ru_ne (by omega) (ru_ne (by omega) (ru_ne (by omega) (ru_ne (by omega) (ru_ne (by omega) (ru_ne (by omega) (ru_ne (by omega) (ru_ne (by omega) (ru_ne (by omega) g164)))))))))), (ru_ne (by omega) (ru_ne (by omega) (ru_ne (by omega) (ru_ne (by omega) (ru_ne (by omega) (ru_ne (by omega) (ru_ne (by omega) (ru_ne (by omega) (ru_ne (by omega) ru_eq))))))))), (ru_ne (by omega) ru_eq), ru_eq, (ru_ne (by omega) (ru_ne (by omega) (ru_ne (by omega) (ru_ne (by omega) (ru_ne (by omega) (ru_ne (by omega) (ru_ne (by omega) (ru_ne (by omega) (ru_ne (by omega) (ru_ne (by omega) g168)))))))))), (ru_ne (by omega) (ru_ne (by omega) (ru_ne (by omega) (ru_ne (by omega) (ru_ne (by omega) (ru_ne (by omega) (ru_ne (by omega) (ru_ne (by omega) (ru_ne (by omega) (ru_ne (by omega) g169)))))))))), (ru_ne (by omega) (ru_ne (by omega) (ru_ne (by omega) (ru_ne (by omega) (ru_ne (by omega) (ru_ne (by omega) (ru_ne (by omega) (ru_ne (by omega) (ru_ne (by omega) (ru_ne (by omega) g170)))))))))), (ru_ne (by omega) (ru_ne (by omega) (ru_ne (by omega) (ru_ne (by omega) (ru_ne (by omega) (ru_ne (by omega) (ru_ne (by omega) (ru_ne (by omega) (ru_ne (by omega) (ru_ne (by omega) g171)))))))))), (ru_ne (by omega) (ru_ne (by omega) (ru_ne (by omega) (ru_ne (by omega) (ru_ne (by omega) (ru_ne (by omega) (ru_ne (by omega) (ru_ne (by omega) (ru_ne (by omega) (ru_ne (by omega) g172)))))))))), (ru_ne (by omega) (ru_ne (by omega) (ru_ne (by omega) (ru_ne (by omega) (ru_ne (by omega) (ru_ne (by omega) (ru_ne (by omega) (ru_ne (by omega) (ru_ne (by omega) (ru_ne (by omega) g173)))))))))), (ru_ne (by omega) (ru_ne (by omega) (ru_ne (by omega) (ru_ne (by omega) (ru_ne (by omega) (ru_ne (by omega) (ru_ne (by omega) (ru_ne (by omega) (ru_ne (by omega) (ru_ne (by omega) g174))))))))))⟩, ⟨(ru_ne (by omega) (ru_ne (by omega) (ru_ne (by omega) (ru_ne (by omega) (ru_ne (by omega) (ru_ne (by omega) (ru_ne (by omega) (ru_ne (by omega) (ru_ne (by omega) (ru_ne (by omega) g175)))))))))), (ru_ne (by omega) (ru_ne (by omega) (ru_ne (by omega) (ru_ne (by omega) (ru_ne (by omega) (ru_ne (by omega) (ru_ne (by omega) (ru_ne (by omega) (ru_ne (by omega) (ru_ne (by omega) g176)))))))))), (ru_ne (by omega) (ru_ne (by omega) (ru_ne (by omega) (ru_ne (by omega) (ru_ne (by omega) (ru_ne (by omega) (ru_ne (by omega) (ru_ne (by omega) (ru_ne (by omega) (ru_ne (by omega) g177)))))))))), (ru_ne (by omega) (ru_ne (by omega) (ru_ne (by omega) (ru_ne (by omega) (ru_ne (by omega) (ru_ne (by omega) (ru_ne (by omega) (ru_ne (by omega) (ru_ne (by omega) (ru_ne (by omega) g178)))))))))), (ru_ne (by omega) (ru_ne (by omega) (ru_ne (by omega) (ru_ne (by omega) (ru_ne (by omega) (ru_ne (by omega) (ru_ne (by omega) (ru_ne (by omega) (ru_ne (by omega) (ru_ne (by omega) g179)))))))))), (ru_ne (by omega) (ru_ne (by omega) (ru_ne (by omega) (ru_ne (by omega) (ru_ne (by omega) (ru_ne (by omega) (ru_ne (by omega) (ru_ne (by omega) (ru_ne (by omega) (ru_ne (by omega) g180)))))))))), (ru_ne (by omega) (ru_ne (by omega) (ru_ne (by omega) (ru_ne (by omega) (ru_ne (by omega) (ru_ne (by omega) (ru_ne (by omega) (ru_ne (by omega) (ru_ne (by omega) (ru_ne (by omega) g181)))))))))), (ru_ne (by omega) (ru_ne (by omega) (ru_ne (by omega) (ru_ne (by omega) (ru_ne (by omega) (ru_ne (by omega) (ru_ne (by omega) (ru_ne (by omega) (ru_ne (by omega) (ru_ne (by omega) g182)))))))))), (ru_ne (by omega) (ru_ne (by omega) (ru_ne (by omega) (ru_ne (by omega) (ru_ne (by omega) (ru_ne (by omega) (ru_ne (by omega) (ru_ne (by omega) (ru_ne (by omega) (ru_ne (by omega) g183)))))))))), (ru_ne (by omega) (ru_ne (by omega) (ru_ne (by omega) (ru_ne (by omega) (ru_ne (by omega) (ru_ne (by omega) (ru_ne (by omega) (ru_ne (by omega) (ru_ne (by omega) (ru_ne (by omega) g184)))))))))), (ru_ne (by omega) (ru_ne (by omega) (ru_ne (by omega) (ru_ne (by omega) (ru_ne (by omega) (ru_ne (by omega) (ru_ne (by omega) (ru_ne (by omega) (ru_ne (by omega) (ru_ne (by omega) g185)))))))))), (ru_ne (by omega) (ru_ne (by omega) (ru_ne (by omega) (ru_ne (by omega) (ru_ne (by omega) (ru_ne (by omega) (ru_ne (by omega) (ru_ne (by omega) (ru_ne (by omega) (ru_ne (by omega) g186))))))))))⟩, ⟨(ru_ne (by omega) (ru_ne (by omega) (ru_ne (by omega) (ru_ne (by omega) (ru_ne (by omega) (ru_ne (by omega) (ru_ne (by omega) (ru_ne (by omega) (ru_ne (by omega) (ru_ne (by omega) g187)))))))))), (ru_ne (by omega) (ru_ne (by omega) (ru_ne (by omega) (ru_ne (by omega) (ru_ne (by omega) (ru_ne (by omega) (ru_ne (by omega) (ru_ne (by omega) (ru_ne (by omega) (ru_ne (by omega) g188)))))))))), (ru_ne (by omega) (ru_ne (by omega) (ru_ne (by omega) (ru_ne (by omega) (ru_ne (by omega) (ru_ne (by omega) (ru_ne (by omega) (ru_ne (by omega) (ru_ne (by omega) (ru_ne (by omega) g189)))))))))), (ru_ne (by omega) (ru_ne (by omega) (ru_ne (by omega) (ru_ne (by omega) (ru_ne (by omega) (ru_ne (by omega) (ru_ne (by omega) (ru_ne (by omega) (ru_ne (by omega) (ru_ne (by omega) g190)))))))))), (ru_ne (by omega) (ru_ne (by omega) (ru_ne (by omega) (ru_ne (by omega) (ru_ne (by omega) (ru_ne (by omega) (ru_ne (by omega) (ru_ne (by omega) (ru_ne (by omega) (ru_ne (by omega) g191)))))))))), (ru_ne (by omega) (ru_ne (by omega) (ru_ne (by omega) (ru_ne (by omega) (ru_ne (by omega) (ru_ne (by omega) (ru_ne (by omega) (ru_ne (by omega) (ru_ne (by omega) (ru_ne (by omega) g192)))))))))), (ru_ne (by omega) (ru_ne (by omega) (ru_ne (by omega) (ru_ne (by omega) (ru_ne (by omega) (ru_ne (by omega) (ru_ne (by omega) (ru_ne (by omega) (ru_ne (by omega) (ru_ne (by omega) g193)))))))))), (ru_ne (by omega) (ru_ne (by omega) (ru_ne (by omega) (ru_ne (by omega) (ru_ne (by omega) (ru_ne (by omega) (ru_ne (by omega) (ru_ne (by omega) (ru_ne (by omega) (ru_ne (by omega) g194)))))))))), (ru_ne (by omega) (ru_ne (by omega) (ru_ne (by omega) (ru_ne (by omega) (ru_ne (by omega) (ru_ne (by omega) (ru_ne (by omega) (ru_ne (by omega) (ru_ne (by omega) (ru_ne (by omega) g195)))))))))), (ru_ne (by omega) (ru_ne (by omega) (ru_ne (by omega) (ru_ne (by omega) (ru_ne (by omega) (ru_ne (by omega) (ru_ne (by omega) (ru_ne (by omega) (ru_ne (by omega) (ru_ne (by omega) g196)))))))))), (ru_ne (by omega) (ru_ne (by omega) (ru_ne (by omega) (ru_ne (by omega) (ru_ne (by omega) (ru_ne (by omega) (ru_ne (by omega) (ru_ne (by omega) (ru_ne (by omega) (ru_ne (by omega) g197)))))))))), (ru_ne (by omega) (ru_ne (by omega) (ru_ne (by omega) (ru_ne (by omega) (ru_ne (by omega) (ru_ne (by omega) (ru_ne (by omega) (ru_ne (by omega) (ru_ne (by omega) (ru_ne (by omega) g198))))))))))⟩, ⟨(ru_ne (by omega) (ru_ne (by omega) (ru_ne (by omega) (ru_ne (by omega) (ru_ne (by omega) (ru_ne (by omega) (ru_ne (by omega) (ru_ne (by omega) (ru_ne (by omega) (ru_ne (by omega) g199)))))))))), (ru_ne (by omega) (ru_ne (by omega) (ru_ne (by omega) (ru_ne (by omega) (ru_ne (by omega) (ru_ne (by omega) (ru_ne (by omega) (ru_ne (by omega) (ru_ne (by omega) (ru_ne (by omega) g200)))))))))), (ru_ne (by omega) (ru_ne (by omega) (ru_ne (by omega) (ru_ne (by omega) (ru_ne (by omega) (ru_ne (by omega) (ru_ne (by omega) (ru_ne (by omega) (ru_ne (by omega) (ru_ne (by omega) g201)))))))))), (ru_ne (by omega) (ru_ne (by omega) (ru_ne (by omega) (ru_ne (by omega) (ru_ne (by omega) (ru_ne (by omega) (ru_ne (by omega) (ru_ne (by omega) (ru_ne (by omega) (ru_ne (by omega) g202)))))))))), (ru_ne (by omega) (ru_ne (by omega) (ru_ne (by omega) (ru_ne (by omega) (ru_ne (by omega) (ru_ne (by omega) (ru_ne (by omega) (ru_ne (by omega) (ru_ne (by omega) (ru_ne (by omega) g203)))))))))), (ru_ne (by omega) (ru_ne (by omega) (ru_ne (by omega) (ru_ne (by omega) (ru_ne (by omega) (ru_ne (by omega) (ru_ne (by omega) (ru_ne (by omega) (ru_ne (by omega) (ru_ne (by omega) g204)))))))))), (ru_ne (by omega) (ru_ne (by omega) (ru_ne (by omega) (ru_ne (by omega) (ru_ne (by omega) (ru_ne (by omega) (ru_ne (by omega) (ru_ne (by omega) (ru_ne (by omega) (ru_ne (by omega) g205)))))))))), (ru_ne (by omega) (ru_ne (by omega) (ru_ne (by omega) (ru_ne (by omega) (ru_ne (by omega) (ru_ne (by omega) (ru_ne (by omega) (ru_ne (by omega) (ru_ne (by omega) (ru_ne (by omega) g206)))))))))), (ru_ne (by omega) (ru_ne (by omega) (ru_ne (by omega) (ru_ne (by omega) (ru_ne (by omega) (ru_ne (by omega) (ru_ne (by omega) (ru_ne (by omega) (ru_ne (by omega) (ru_ne (by omega) g207)))))))))), (ru_ne (by omega) (ru_ne (by omega) (ru_ne (by omega) (ru_ne (by omega) (ru_ne (by omega) (ru_ne (by omega) (ru_ne (by omega) (ru_ne (by omega) (ru_ne (by omega) (ru_ne (by omega) g208)))))))))), (ru_ne (by omega) (ru_ne (by omega) (ru_ne (by omega) (ru_ne (by omega) (ru_ne (by omega) (ru_ne (by omega) (ru_ne (by omega) (ru_ne (by omega) (ru_ne (by omega) (ru_ne (by omega) g209)))))))))), (ru_ne (by omega) (ru_ne (by omega) (ru_ne (by omega) (ru_ne (by omega) (ru_ne (by omega) (ru_ne (by omega) (ru_ne (by omega) (ru_ne (by omega) (ru_ne (by omega) (ru_ne (by omega) g210))))))))))⟩, ⟨(ru_ne (by omega) (ru_ne (by omega) (ru_ne (by omega) (ru_ne (by omega) (ru_ne (by omega) (ru_ne (by omega) (ru_ne (by omega) (ru_ne (by omega) (ru_ne (by omega) (ru_ne (by omega) h151)))))))))), (ru_ne (by omega) (ru_ne (by omega) (ru_ne (by omega) (ru_ne (by omega) (ru_ne (by omega) (ru_ne (by omega) (ru_ne (by omega) (ru_ne (by omega) (ru_ne (by omega) (ru_ne (by omega) h152)))))))))), (ru_ne (by omega) (ru_ne (by omega) (ru_ne (by omega) (ru_ne (by omega) (ru_ne (by omega) (ru_ne (by omega) (ru_ne (by omega) (ru_ne (by omega) (ru_ne (by omega) (ru_ne (by omega) h153)))))))))), (ru_ne (by omega) (ru_ne (by omega) (ru_ne (by omega) (ru_ne (by omega) (ru_ne (by omega) (ru_ne (by omega) (ru_ne (by omega) (ru_ne (by omega) (ru_ne (by omega) (ru_ne (by omega) h154)))))))))), (ru_ne (by omega) (ru_ne (by omega) (ru_ne (by omega) (ru_ne (by omega) (ru_ne (by omega) (ru_ne (by omega) (ru_ne (by omega) (ru_ne (by omega) (ru_ne (by omega) (ru_ne (by omega) h155)))))))))), (ru_ne (by omega) (ru_ne (by omega) (ru_ne (by omega) (ru_ne (by omega) (ru_ne (by omega) (ru_ne (by omega) (ru_ne (by omega) (ru_ne (by omega) (ru_ne (by omega) (ru_ne (by omega) h156)))))))))), (ru_ne (by omega) (ru_ne (by omega) (ru_ne (by omega) (ru_ne (by omega) (ru_ne (by omega) (ru_ne (by omega) (ru_ne (by omega) (ru_ne (by omega) (ru_ne (by omega) (ru_ne (by omega) h157)))))))))), (ru_ne (by omega) (ru_ne (by omega) (ru_ne (by omega) (ru_ne (by omega) (ru_ne (by omega) (ru_ne (by omega) (ru_ne (by omega) (ru_ne (by omega) (ru_ne (by omega) (ru_ne (by omega) h158)))))))))), (ru_ne (by omega) (ru_ne (by omega) (ru_ne (by omega) (ru_ne (by omega) (ru_ne (by omega) (ru_ne (by omega) (ru_ne (by omega) (ru_ne (by omega) (ru_ne (by omega) (ru_ne (by omega) h159)))))))))), (ru_ne (by omega) (ru_ne (by omega) (ru_ne (by omega) (ru_ne (by omega) (ru_ne (by omega) (ru_ne (by omega) (ru_ne (by omega) (ru_ne (by omega) (ru_ne (by omega) (ru_ne (by omega) h160)))))))))), (ru_ne (by omega) (ru_ne (by omega) (ru_ne (by omega) (ru_ne (by omega) (ru_ne (by omega) (ru_ne (by omega) (ru_ne (by omega) (ru_ne (by omega) (ru_ne (by omega) (ru_ne (by omega) h161)))))))))), (ru_ne (by omega) (ru_ne (by omega) (ru_ne (by omega) (ru_ne (by omega) (ru_ne (by omega) (ru_ne (by omega) (ru_ne (by omega) (ru_ne (by omega) (ru_ne (by omega) (ru_ne (by omega) h162))))))))))⟩, (ru_ne (by omega) (ru_ne (by omega) (ru_ne (by omega) (ru_ne (by omega) (ru_ne (by omega) (ru_ne (by omega) (ru_ne (by omega) (ru_ne (by omega) ru_eq)))))))), (ru_ne (by omega) (ru_ne (by omega) (ru_ne (by omega) (ru_ne (by omega) (ru_ne (by omega) (ru_ne (by omega) ru_eq)))))), (ru_ne (by omega) (ru_ne (by omega) (ru_ne (by omega) (ru_ne (by omega) ru_eq)))), (ru_ne (by omega) (ru_ne (by omega) ru_eq))⟩, fun q h1 => (ru_ne (by omega) (ru_ne (by omega) (ru_ne (by omega) (ru_ne (by omega) (ru_ne (by omega) (ru_ne (by omega) (ru_ne (by omega) (ru_ne (by omega) (ru_ne (by omega) (ru_ne (by omega) (fr211 q h1)))))))))))⟩)
set_option maxRecDepth 20000 in
theorem k_Reader_init (l : Launch) (V : VX) (N : Nat) (σ : Mem) (a t c : Nat) (ha : a < N) (h0 : σ a = some (ob 5 [.null, .int 0, .null, .null, .int 0, .int 0, .int 0, .int 0, .int 0, .int 0, .int 0, .int 0, .int 0])) : Ct l V yX7_init cX7_init 3 none 1 1 4 N σ [.ref a, .ref t, .ref c] (fun r τ => r = none ∧ τ a = some (ob 5 [.ref t, .int 0, .ref c, .ref N, .int 0, .int 0, .int 0, .int 0, .int 0, .int 0, .int 0, .int 0, .int (-1)]) ∧ τ N = some (aI V 4 (fun _ => 0)) ∧ ∀ q : Nat, q ≠ a → q < N → τ q = σ q) := by
  refine Ct.of (by decide) (Nat.le_of_ble_eq_true rfl) [(0, .ref a), (1, .ref t), (2, .ref c)] rfl (fun X hX F hQ => ?_)
  refine m_aload_n F rfl e_X7_init_0 ?_
  refine m_objInit F e_X7_init_1 ml_X7_3 im_obj co_obj (Nat.le_of_ble_eq_true rfl) (Nat.le_of_ble_eq_true rfl) ?_
  refine m_aload_n F rfl e_X7_init_4 ?_
  refine m_iconst F (v := 4) (by decide) e_X7_init_5 ?_
  refine m_newI F (len := 4) e_X7_init_6 arr_int (by decide) (by decide) (by decide) (k' := 1) (z' := 4) (N' := N + 1) rfl rfl rfl (Nat.le_of_ble_eq_true rfl) (Nat.le_of_ble_eq_true rfl) ?_
  refine m_putF F e_X7_init_8 fp_X7_9 rfl rfl (ru_ne (by omega) h0) rfl rfl (Nat.le_of_ble_eq_true rfl) (fs' := [.null, .int 0, .null, .ref N, .int 0, .int 0, .int 0, .int 0, .int 0, .int 0, .int 0, .int 0, .int 0]) rfl rfl ?_
  refine m_aload_n F rfl e_X7_init_11 ?_
  refine m_iconst F (v := (-1)) (by decide) e_X7_init_12 ?_
  refine m_put F e_X7_init_13 fp_X7_15 ru_eq rfl rfl (Nat.le_of_ble_eq_true rfl) (fs' := [.null, .int 0, .null, .ref N, .int 0, .int 0, .int 0, .int 0, .int 0, .int 0, .int 0, .int 0, .int (-1)]) rfl (bx_uu _ _ _ _) ?_
  refine m_aload_n F rfl e_X7_init_16 ?_
  refine m_aload_n F rfl e_X7_init_17 ?_
  refine m_putF F e_X7_init_18 fp_X7_19 rfl rfl ru_eq rfl rfl (Nat.le_of_ble_eq_true rfl) (fs' := [.ref t, .int 0, .null, .ref N, .int 0, .int 0, .int 0, .int 0, .int 0, .int 0, .int 0, .int 0, .int (-1)]) rfl (bx_uu _ _ _ _) ?_
  refine m_aload_n F rfl e_X7_init_21 ?_
  refine m_aload_n F rfl e_X7_init_22 ?_
  refine m_put F e_X7_init_23 fp_X7_23 ru_eq rfl rfl (Nat.le_of_ble_eq_true rfl) (fs' := [.ref t, .int 0, .ref c, .ref N, .int 0, .int 0, .int 0, .int 0, .int 0, .int 0, .int 0, .int 0, .int (-1)]) rfl (bx_uu _ _ _ _) ?_
  exact m_vret F hQ e_X7_init_26 (⟨rfl, ru_eq, (ru_ne (by omega) ru_eq), fun q h1 h2 => (ru_ne (by omega) (ru_ne (by omega) rfl))⟩)
