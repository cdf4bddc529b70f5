def XLt (V : VX) (b M T : Nat) (σ : Mem) : String → State → State → Prop := fun E _ t => (E = eIX ∨ E = eNS) ∧ ∃ (N' : Nat) (τ : Mem), HM V N' τ t.heap ∧ HK V (b, M, 1, T) [0, 1, 3, 7, 12, 15, 19] σ τ
abbrev QLt (V : VX) (b M T : Nat) (σ : Mem) : Array Value → State → Outcome → State → Prop := fun _ s o t => ∃ N', Qm V N' (fun r τ => HK V (b, M, 1, T) [0, 1, 3, 7, 12, 15, 19] σ τ ∧ ∃ x : Int32, r = some (.int x)) s o t
abbrev QXt (V : VX) (X : MX) (b M T : Nat) (σ : Mem) : State → Prop := vx_MQ (x_b X) (QLt V b M T σ) (XLt V b M T σ) (x_a X) (x_s X) 1 6 (fun q => V.2.2.size ≤ q)
theorem tw_tbI : ∀ w ∈ (vx_atS RX9 111 eIX eNM).filter goodWord, w ∈ tb := tb_all [13, 525, 534, 538, 541, 543, 526, 527, 35, 36, 528, 533, 539, 794, 515, 795, 517, 796, 519, 529, 531, 521, 790, 791, 793, 521, 781, 782, 783, 784, 784, 785, 786, 787, 787, 788, 789, 790, 1391, 1382, 1384, 536, 1385, 1386, 1387, 1388, 524, 523, 1389] (by decide +kernel) (by decide +kernel)
theorem tw_badI : ∀ w ∈ (vx_atS RX9 111 eIX eNM).filter (fun w => !goodWord w), w ∈ TWw := by decide +kernel
theorem tw_otI : ∀ w ∈ Cond.classLink RX9 107 eIX :: Cond.initialized eIX :: vx_atS RX9 111 eIX eNM, vx_ot w = true := by decide +kernel
theorem kcI : Cond.classLink RX9 107 eIX ∈ tb := tb_in 1381 (by decide +kernel) (by decide +kernel)
theorem iniI : Cond.initialized eIX ∈ tb := tb_in 16 (by decide +kernel) (by decide +kernel)
theorem tw_tbN : ∀ w ∈ (vx_atS RX9 148 eNS eNM).filter goodWord, w ∈ tb := tb_all [13, 525, 534, 538, 541, 543, 526, 527, 35, 36, 528, 533, 539, 794, 515, 795, 517, 796, 519, 529, 531, 521, 790, 791, 793, 521, 1405, 1406, 1407, 784, 784, 785, 786, 787, 787, 788, 789, 790, 1404, 1395, 1397, 537, 1398, 1399, 1400, 1401, 524, 523, 1402] (by decide +kernel) (by decide +kernel)
theorem tw_badN : ∀ w ∈ (vx_atS RX9 148 eNS eNM).filter (fun w => !goodWord w), w ∈ TWw := by decide +kernel
theorem tw_otN : ∀ w ∈ Cond.classLink RX9 144 eNS :: Cond.initialized eNS :: vx_atS RX9 148 eNS eNM, vx_ot w = true := by decide +kernel
theorem kcN : Cond.classLink RX9 144 eNS ∈ tb := tb_in 1394 (by decide +kernel) (by decide +kernel)
theorem iniN : Cond.initialized eNS ∈ tb := tb_in 28 (by decide +kernel) (by decide +kernel)
theorem HM.S {V : VX} {N N' : Nat} {σ τ : Mem} {H0 H : Heap} {locs : List Loc} (h0 : HM V N σ H0) (h1 : HM V N' τ H) (hN : N ≤ N') (h2 : ∀ q ∈ locs, V.2.2.size ≤ q.base) : va_S (fun q => V.2.2.size ≤ q) H0 H locs :=
  ⟨by rw [h0.1, h1.1]; exact hN, fun q _ hA => by rw [h0.2.2.1 q (Nat.not_le.mp hA), h1.2.2.1 q (Nat.not_le.mp hA)], h2⟩
theorem HM.more {V : VX} {N : Nat} {σ : Mem} {H H' : Heap} (h : HM V N σ H) (hz : H.size ≤ H'.size) (ho : ∀ q : Nat, q < H.size → H'[q]? = H[q]?) : HM V H'.size σ H' := by
  have hN := h.1
  have hG := h.2.1
  refine ⟨rfl, by omega, fun q hq => ?_, fun a x ha => ⟨(h.2.2.2 a x ha).1, va_at.kept (h.2.2.2 a x ha).2 (ho a (h.2.2.2 a x ha).2.lt)⟩⟩
  rw [ho q (by omega)]; exact h.2.2.1 q hq
theorem m_iretX {V : VX} {X : MX} {y : MethodName} {cc : ByteArray} {nL N pc n b M T : Nat} {R : Room} {σ σ0 : Mem} {lv : List (Nat × Value)} {v : Int32} (F : Fx V X y cc nL (some .int) R) (hQ : x_Q X = QXt V X b M T σ0) (d : DC cc pc 1 n .ireturn) (hp : HK V (b, M, 1, T) [0, 1, 3, 7, 12, 15, 19] σ0 σ) : Wm V X nL N σ 0 0 pc lv [.int v] := by
  obtain ⟨d, rfl⟩ := d
  intro H locs ls h1 h2 h3
  rw [hQ]
  refine vx_ret ?_
  intro T' hT S
  exact (W.iret (cells := 1) (slots := 6) F.e F.b F.rt (fun t ht hW => ⟨N, _, σ, rfl, ⟨hp, v, rfl⟩, by rw [ht]; exact h1⟩) h2 d F.lk) T' hT (stand_widen S (by decide) (by decide))
theorem e_X9_lease_10 : DC cX9_lease 10 3 13 (.new 107) := ⟨by decide +kernel, rfl⟩
theorem e_X9_lease_13 : DC cX9_lease 13 1 14 (.dup) := ⟨by decide +kernel, rfl⟩
theorem e_X9_lease_14 : DC cX9_lease 14 2 16 (.ldc 109) := ⟨by decide +kernel, rfl⟩
theorem e_X9_lease_16 : DC cX9_lease 16 3 19 (.invokespecial 111) := ⟨by decide +kernel, rfl⟩
theorem e_X9_lease_19 : DC cX9_lease 19 1 20 (.athrow) := ⟨by decide +kernel, rfl⟩
theorem e_X9_lease_125 : DC cX9_lease 125 3 128 (.new 144) := ⟨by decide +kernel, rfl⟩
theorem e_X9_lease_128 : DC cX9_lease 128 1 129 (.dup) := ⟨by decide +kernel, rfl⟩
theorem e_X9_lease_129 : DC cX9_lease 129 2 131 (.ldc 146) := ⟨by decide +kernel, rfl⟩
theorem e_X9_lease_131 : DC cX9_lease 131 3 134 (.invokespecial 148) := ⟨by decide +kernel, rfl⟩
theorem e_X9_lease_134 : DC cX9_lease 134 1 135 (.athrow) := ⟨by decide +kernel, rfl⟩
theorem e_X9_lease_0 : DC cX9_lease 0 1 1 (.aload_n 0) := ⟨by decide +kernel, rfl⟩
theorem e_X9_lease_1 : DC cX9_lease 1 1 2 (.iload_n 1) := ⟨by decide +kernel, rfl⟩
theorem e_X9_lease_2 : DC cX9_lease 2 3 5 (.invokevirtual 103) := ⟨by decide +kernel, rfl⟩
theorem e_X9_lease_5 : DC cX9_lease 5 1 6 (.astore_n 3) := ⟨by decide +kernel, rfl⟩
theorem e_X9_lease_6 : DC cX9_lease 6 1 7 (.aload_n 3) := ⟨by decide +kernel, rfl⟩
theorem e_X9_lease_7 : DJ cX9_lease 7 20 10 .ifnonnull := DJ.mk 13 (by decide +kernel) (by decide) rfl
theorem e_X9_lease_20 : DC cX9_lease 20 1 21 (.iload_n 2) := ⟨by decide +kernel, rfl⟩
theorem e_X9_lease_21 : decode cX9_lease 21 = .ok (.tableswitch 104 0 8 #[51, 56, 61, 66, 71, 76, 81, 86, 99], 51) := by decide +kernel
theorem e_X9_lease_72 : DC cX9_lease 72 1 73 (.aload_n 3) := ⟨by decide +kernel, rfl⟩
theorem e_X9_lease_73 : DC cX9_lease 73 3 76 (.getfield 114) := ⟨by decide +kernel, rfl⟩
theorem e_X9_lease_76 : DC cX9_lease 76 1 77 (.ireturn) := ⟨by decide +kernel, rfl⟩
theorem e_X9_lease_77 : DC cX9_lease 77 1 78 (.aload_n 3) := ⟨by decide +kernel, rfl⟩
theorem e_X9_lease_78 : DC cX9_lease 78 3 81 (.getfield 119) := ⟨by decide +kernel, rfl⟩
theorem e_X9_lease_81 : DC cX9_lease 81 1 82 (.ireturn) := ⟨by decide +kernel, rfl⟩
theorem e_X9_lease_82 : DC cX9_lease 82 1 83 (.aload_n 3) := ⟨by decide +kernel, rfl⟩
theorem e_X9_lease_83 : DC cX9_lease 83 3 86 (.getfield 122) := ⟨by decide +kernel, rfl⟩
theorem fl_X9_122 : FL RX9 122 3 3 := ⟨RX5, TX5, 18, rfl, by decide, uw_3, tb_in 117 (by decide +kernel) (by decide +kernel), rfl⟩
theorem e_X9_lease_86 : DC cX9_lease 86 1 87 (.ireturn) := ⟨by decide +kernel, rfl⟩
theorem e_X9_lease_87 : DC cX9_lease 87 1 88 (.aload_n 3) := ⟨by decide +kernel, rfl⟩
theorem e_X9_lease_88 : DC cX9_lease 88 3 91 (.getfield 125) := ⟨by decide +kernel, rfl⟩
theorem e_X9_lease_91 : DC cX9_lease 91 1 92 (.ireturn) := ⟨by decide +kernel, rfl⟩
theorem e_X9_lease_92 : DC cX9_lease 92 1 93 (.aload_n 3) := ⟨by decide +kernel, rfl⟩
theorem e_X9_lease_93 : DC cX9_lease 93 3 96 (.invokevirtual 128) := ⟨by decide +kernel, rfl⟩
theorem e_X9_lease_96 : DC cX9_lease 96 1 97 (.ireturn) := ⟨by decide +kernel, rfl⟩
theorem e_X9_lease_97 : DC cX9_lease 97 1 98 (.aload_n 3) := ⟨by decide +kernel, rfl⟩
theorem e_X9_lease_98 : DC cX9_lease 98 3 101 (.getfield 132) := ⟨by decide +kernel, rfl⟩
theorem fl_X9_132 : FL RX9 132 3 6 := ⟨RX5, TX5, 18, rfl, by decide, uw_3, tb_in 127 (by decide +kernel) (by decide +kernel), rfl⟩
theorem e_X9_lease_101 : DC cX9_lease 101 1 102 (.ireturn) := ⟨by decide +kernel, rfl⟩
theorem e_X9_lease_102 : DC cX9_lease 102 1 103 (.aload_n 3) := ⟨by decide +kernel, rfl⟩
theorem e_X9_lease_103 : DC cX9_lease 103 3 106 (.getfield 135) := ⟨by decide +kernel, rfl⟩
theorem fl_X9_135 : FL RX9 135 3 5 := ⟨RX5, TX5, 18, rfl, by decide, uw_3, tb_in 123 (by decide +kernel) (by decide +kernel), rfl⟩
theorem e_X9_lease_106 : DC cX9_lease 106 1 107 (.ireturn) := ⟨by decide +kernel, rfl⟩
theorem e_X9_lease_107 : DC cX9_lease 107 1 108 (.aload_n 3) := ⟨by decide +kernel, rfl⟩
theorem e_X9_lease_108 : DC cX9_lease 108 3 111 (.getfield 138) := ⟨by decide +kernel, rfl⟩
theorem fl_X9_138 : FL RX9 138 3 10 := ⟨RX5, TX5, 18, rfl, by decide, uw_3, tb_in 139 (by decide +kernel) (by decide +kernel), rfl⟩
theorem e_X9_lease_111 : DJ cX9_lease 111 118 114 (.ifCond .eq) := DJ.mk 7 (by decide +kernel) (by decide) rfl
theorem e_X9_lease_118 : DC cX9_lease 118 1 119 (.iconst 0) := ⟨by decide +kernel, rfl⟩
theorem e_X9_lease_119 : DC cX9_lease 119 1 120 (.ireturn) := ⟨by decide +kernel, rfl⟩
theorem e_X9_lease_114 : DC cX9_lease 114 1 115 (.iconst 1) := ⟨by decide +kernel, rfl⟩
theorem e_X9_lease_115 : DJ cX9_lease 115 119 118 .goto := DJ.mk 4 (by decide +kernel) (by decide) rfl
theorem e_X9_lease_120 : DC cX9_lease 120 1 121 (.aload_n 3) := ⟨by decide +kernel, rfl⟩
theorem e_X9_lease_121 : DC cX9_lease 121 3 124 (.getfield 141) := ⟨by decide +kernel, rfl⟩
theorem fl_X9_141 : FL RX9 141 3 7 := ⟨RX5, TX5, 18, rfl, by decide, uw_3, tb_in 130 (by decide +kernel) (by decide +kernel), rfl⟩
theorem e_X9_lease_124 : DC cX9_lease 124 1 125 (.ireturn) := ⟨by decide +kernel, rfl⟩
