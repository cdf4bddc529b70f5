theorem e_X10_periodGoes_0 : DC cX10_periodGoes 0 1 1 (.iconst 0) := ⟨by decide +kernel, rfl⟩
theorem e_X10_periodGoes_1 : DC cX10_periodGoes 1 1 2 (.istore_n 1) := ⟨by decide +kernel, rfl⟩
theorem e_X10_periodGoes_2 : DC cX10_periodGoes 2 1 3 (.iload_n 1) := ⟨by decide +kernel, rfl⟩
theorem e_X10_periodGoes_3 : DC cX10_periodGoes 3 1 4 (.aload_n 0) := ⟨by decide +kernel, rfl⟩
theorem e_X10_periodGoes_4 : DC cX10_periodGoes 4 3 7 (.invokevirtual 221) := ⟨by decide +kernel, rfl⟩
theorem e_X10_periodGoes_7 : DJ cX10_periodGoes 7 122 10 (.if_icmp .ge) := DJ.mk 115 (by decide +kernel) (by decide) rfl
theorem e_X10_periodGoes_122 : DC cX10_periodGoes 122 1 123 (.aload_n 0) := ⟨by decide +kernel, rfl⟩
theorem e_X10_periodGoes_123 : DC cX10_periodGoes 123 3 126 (.getfield 59) := ⟨by decide +kernel, rfl⟩
theorem e_X10_periodGoes_126 : DC cX10_periodGoes 126 3 129 (.sipush 744) := ⟨by decide +kernel, rfl⟩
theorem e_X10_periodGoes_129 : DC cX10_periodGoes 129 1 130 (.dup2) := ⟨by decide +kernel, rfl⟩
theorem e_X10_periodGoes_130 : DC cX10_periodGoes 130 1 131 (.laload) := ⟨by decide +kernel, rfl⟩
theorem e_X10_periodGoes_131 : DC cX10_periodGoes 131 1 132 (.lconst 1) := ⟨by decide +kernel, rfl⟩
theorem e_X10_periodGoes_132 : DC cX10_periodGoes 132 1 133 (.ladd) := ⟨by decide +kernel, rfl⟩
theorem e_X10_periodGoes_133 : DC cX10_periodGoes 133 1 134 (.lastore) := ⟨by decide +kernel, rfl⟩
theorem e_X10_periodGoes_134 : DC cX10_periodGoes 134 1 135 (.return_) := ⟨by decide +kernel, rfl⟩
theorem e_X10_remembers_0 : DC cX10_remembers 0 1 1 (.aload_n 0) := ⟨by decide +kernel, rfl⟩
theorem e_X10_remembers_1 : DC cX10_remembers 1 3 4 (.getfield 214) := ⟨by decide +kernel, rfl⟩
theorem fl_X10_214 : FL RX10 214 8 32 := ⟨RX10, TX10, 37, rfl, by decide, uw_8, tb_in 1492 (by decide +kernel) (by decide +kernel), rfl⟩
theorem e_X10_remembers_4 : DC cX10_remembers 4 2 6 (.bipush 20) := ⟨by decide +kernel, rfl⟩
theorem e_X10_remembers_6 : DJ cX10_remembers 6 50 9 (.if_icmp .ne) := DJ.mk 44 (by decide +kernel) (by decide) rfl
theorem e_X10_remembers_50 : DC cX10_remembers 50 1 51 (.aload_n 0) := ⟨by decide +kernel, rfl⟩
theorem e_X10_remembers_51 : DC cX10_remembers 51 3 54 (.getfield 59) := ⟨by decide +kernel, rfl⟩
theorem e_X10_remembers_54 : DC cX10_remembers 54 1 55 (.iconst 0) := ⟨by decide +kernel, rfl⟩
theorem e_X10_remembers_55 : DC cX10_remembers 55 1 56 (.aload_n 0) := ⟨by decide +kernel, rfl⟩
theorem e_X10_remembers_56 : DC cX10_remembers 56 3 59 (.getfield 72) := ⟨by decide +kernel, rfl⟩
theorem fl_X10_72 : FL RX10 72 8 31 := ⟨RX10, TX10, 37, rfl, by decide, uw_8, tb_in 1491 (by decide +kernel) (by decide +kernel), rfl⟩
theorem e_X10_remembers_59 : DC cX10_remembers 59 3 62 (.sipush 1113) := ⟨by decide +kernel, rfl⟩
theorem e_X10_remembers_62 : DC cX10_remembers 62 1 63 (.aload_n 0) := ⟨by decide +kernel, rfl⟩
theorem e_X10_remembers_63 : DC cX10_remembers 63 3 66 (.getfield 214) := ⟨by decide +kernel, rfl⟩
theorem e_X10_remembers_66 : DC cX10_remembers 66 1 67 (.imul) := ⟨by decide +kernel, rfl⟩
theorem e_X10_remembers_67 : DC cX10_remembers 67 3 70 (.invokestatic 230) := ⟨by decide +kernel, rfl⟩
theorem cb_X10_copies : CB yX10_copies cX10_copies 5 none 4 := ⟨tb_in 1714 (by decide +kernel) (by decide +kernel), tb_in 10 (by decide +kernel) (by decide +kernel), by decide +kernel⟩
theorem ml_X10_230 : Cond.methodLink RX10 230 yX10_copies ∈ tb := tb_in 1712 (by decide +kernel) (by decide +kernel)
theorem sm_X10_copies : Cond.static yX10_copies ∈ tb := tb_in 1713 (by decide +kernel) (by decide +kernel)
theorem e_X10_remembers_70 : DC cX10_remembers 70 1 71 (.aload_n 0) := ⟨by decide +kernel, rfl⟩
theorem e_X10_remembers_71 : DC cX10_remembers 71 1 72 (.dup) := ⟨by decide +kernel, rfl⟩
theorem e_X10_remembers_72 : DC cX10_remembers 72 3 75 (.getfield 214) := ⟨by decide +kernel, rfl⟩
theorem e_X10_remembers_75 : DC cX10_remembers 75 1 76 (.iconst 1) := ⟨by decide +kernel, rfl⟩
theorem e_X10_remembers_76 : DC cX10_remembers 76 1 77 (.iadd) := ⟨by decide +kernel, rfl⟩
theorem e_X10_remembers_77 : DC cX10_remembers 77 3 80 (.putfield 214) := ⟨by decide +kernel, rfl⟩
theorem fp_X10_214 : FP RX10 214 8 32 false .int := ⟨RX10, TX10, 37, tyX10, rfl, by decide, uw_8, tb_in 1492 (by decide +kernel) (by decide +kernel), rfl, rfl, by decide +kernel, tyX10_ok, nmX10⟩
theorem e_X10_remembers_80 : DC cX10_remembers 80 1 81 (.return_) := ⟨by decide +kernel, rfl⟩
theorem e_X10_back1_0 : DC cX10_back1 0 1 1 (.aload_n 0) := ⟨by decide +kernel, rfl⟩
theorem e_X10_back1_1 : DC cX10_back1 1 3 4 (.getfield 63) := ⟨by decide +kernel, rfl⟩
theorem fl_X10_63 : FL RX10 63 8 28 := ⟨RX10, TX10, 37, rfl, by decide, uw_8, tb_in 1488 (by decide +kernel) (by decide +kernel), rfl⟩
theorem e_X10_back1_4 : DC cX10_back1 4 1 5 (.iconst 0) := ⟨by decide +kernel, rfl⟩
theorem e_X10_back1_5 : DC cX10_back1 5 1 6 (.aload_n 0) := ⟨by decide +kernel, rfl⟩
theorem e_X10_back1_6 : DC cX10_back1 6 3 9 (.getfield 59) := ⟨by decide +kernel, rfl⟩
theorem e_X10_back1_9 : DC cX10_back1 9 1 10 (.iconst 0) := ⟨by decide +kernel, rfl⟩
theorem e_X10_back1_10 : DC cX10_back1 10 3 13 (.invokestatic 230) := ⟨by decide +kernel, rfl⟩
theorem e_X10_back1_13 : DC cX10_back1 13 1 14 (.return_) := ⟨by decide +kernel, rfl⟩
theorem e_X10_indexNow_0 : DC cX10_indexNow 0 1 1 (.aload_n 0) := ⟨by decide +kernel, rfl⟩
theorem e_X10_indexNow_1 : DC cX10_indexNow 1 3 4 (.getfield 59) := ⟨by decide +kernel, rfl⟩
theorem e_X10_indexNow_4 : DC cX10_indexNow 4 3 7 (.sipush 644) := ⟨by decide +kernel, rfl⟩
theorem e_X10_indexNow_7 : DC cX10_indexNow 7 1 8 (.aload_n 0) := ⟨by decide +kernel, rfl⟩
theorem e_X10_indexNow_8 : DC cX10_indexNow 8 3 11 (.getfield 59) := ⟨by decide +kernel, rfl⟩
theorem e_X10_indexNow_11 : DC cX10_indexNow 11 3 14 (.sipush 744) := ⟨by decide +kernel, rfl⟩
theorem e_X10_indexNow_14 : DC cX10_indexNow 14 1 15 (.laload) := ⟨by decide +kernel, rfl⟩
theorem e_X10_indexNow_15 : DC cX10_indexNow 15 1 16 (.l2i) := ⟨by decide +kernel, rfl⟩
theorem e_X10_indexNow_16 : DC cX10_indexNow 16 1 17 (.iadd) := ⟨by decide +kernel, rfl⟩
theorem e_X10_indexNow_17 : DC cX10_indexNow 17 1 18 (.laload) := ⟨by decide +kernel, rfl⟩
theorem e_X10_indexNow_18 : DC cX10_indexNow 18 1 19 (.lreturn) := ⟨by decide +kernel, rfl⟩
theorem e_X10_held_0 : DC cX10_held 0 1 1 (.lload_n 0) := ⟨by decide +kernel, rfl⟩
theorem e_X10_held_1 : DC cX10_held 1 3 4 (.ldc2_w 358) := ⟨by decide +kernel, rfl⟩
theorem kc_X10_358 : Cond.constantLong RX10 358 500 ∈ tb := tb_in 1966 (by decide +kernel) (by decide +kernel)
theorem e_X10_held_4 : DC cX10_held 4 1 5 (.lcmp) := ⟨by decide +kernel, rfl⟩
theorem e_X10_held_5 : DJ cX10_held 5 12 8 (.ifCond .ge) := DJ.mk 7 (by decide +kernel) (by decide) rfl
theorem e_X10_held_12 : DC cX10_held 12 1 13 (.lload_n 0) := ⟨by decide +kernel, rfl⟩
theorem e_X10_held_13 : DC cX10_held 13 3 16 (.ldc2_w 360) := ⟨by decide +kernel, rfl⟩
theorem kc_X10_360 : Cond.constantLong RX10 360 2000 ∈ tb := tb_in 1967 (by decide +kernel) (by decide +kernel)
theorem e_X10_held_16 : DC cX10_held 16 1 17 (.lcmp) := ⟨by decide +kernel, rfl⟩
theorem e_X10_held_17 : DJ cX10_held 17 24 20 (.ifCond .le) := DJ.mk 7 (by decide +kernel) (by decide) rfl
theorem e_X10_held_24 : DC cX10_held 24 1 25 (.lload_n 0) := ⟨by decide +kernel, rfl⟩
theorem e_X10_held_25 : DC cX10_held 25 1 26 (.lreturn) := ⟨by decide +kernel, rfl⟩
theorem e_X10_held_20 : DC cX10_held 20 3 23 (.ldc2_w 360) := ⟨by decide +kernel, rfl⟩
theorem e_X10_held_23 : DC cX10_held 23 1 24 (.lreturn) := ⟨by decide +kernel, rfl⟩
theorem e_X10_held_8 : DC cX10_held 8 3 11 (.ldc2_w 358) := ⟨by decide +kernel, rfl⟩
theorem e_X10_held_11 : DC cX10_held 11 1 12 (.lreturn) := ⟨by decide +kernel, rfl⟩
theorem e_X10_draw_0 : DC cX10_draw 0 1 1 (.aload_n 0) := ⟨by decide +kernel, rfl⟩
theorem e_X10_draw_1 : DC cX10_draw 1 1 2 (.aload_n 0) := ⟨by decide +kernel, rfl⟩
theorem e_X10_draw_2 : DC cX10_draw 2 3 5 (.getfield 353) := ⟨by decide +kernel, rfl⟩
theorem fl_X10_353 : FL RX10 353 8 36 := ⟨RX10, TX10, 37, rfl, by decide, uw_8, tb_in 1496 (by decide +kernel) (by decide +kernel), rfl⟩
theorem e_X10_draw_5 : DC cX10_draw 5 3 8 (.ldc_w 356) := ⟨by decide +kernel, rfl⟩
theorem kc_X10_356 : Cond.constant RX10 356 1103515245 ∈ tb := tb_in 1960 (by decide +kernel) (by decide +kernel)
theorem e_X10_draw_8 : DC cX10_draw 8 1 9 (.imul) := ⟨by decide +kernel, rfl⟩
theorem e_X10_draw_9 : DC cX10_draw 9 3 12 (.sipush 12345) := ⟨by decide +kernel, rfl⟩
theorem e_X10_draw_12 : DC cX10_draw 12 1 13 (.iadd) := ⟨by decide +kernel, rfl⟩
theorem e_X10_draw_13 : DC cX10_draw 13 3 16 (.ldc_w 357) := ⟨by decide +kernel, rfl⟩
theorem kc_X10_357 : Cond.constant RX10 357 2147483647 ∈ tb := tb_in 1961 (by decide +kernel) (by decide +kernel)
theorem e_X10_draw_16 : DC cX10_draw 16 1 17 (.iand) := ⟨by decide +kernel, rfl⟩
theorem e_X10_draw_17 : DC cX10_draw 17 3 20 (.putfield 353) := ⟨by decide +kernel, rfl⟩
theorem fp_X10_353 : FP RX10 353 8 36 false .int := ⟨RX10, TX10, 37, tyX10, rfl, by decide, uw_8, tb_in 1496 (by decide +kernel) (by decide +kernel), rfl, rfl, by decide +kernel, tyX10_ok, nmX10⟩
theorem e_X10_draw_20 : DC cX10_draw 20 1 21 (.aload_n 0) := ⟨by decide +kernel, rfl⟩
theorem e_X10_draw_21 : DC cX10_draw 21 3 24 (.getfield 353) := ⟨by decide +kernel, rfl⟩
theorem e_X10_draw_24 : DC cX10_draw 24 2 26 (.bipush 16) := ⟨by decide +kernel, rfl⟩
theorem e_X10_draw_26 : DC cX10_draw 26 1 27 (.ishr) := ⟨by decide +kernel, rfl⟩
theorem e_X10_draw_27 : DC cX10_draw 27 1 28 (.iload_n 1) := ⟨by decide +kernel, rfl⟩
theorem e_X10_draw_28 : DC cX10_draw 28 1 29 (.irem) := ⟨by decide +kernel, rfl⟩
theorem e_X10_draw_29 : DC cX10_draw 29 1 30 (.ireturn) := ⟨by decide +kernel, rfl⟩
theorem e_X10_becomes_58 : DC cX10_becomes 58 2 60 (.iload 5) := ⟨by decide +kernel, rfl⟩
theorem e_X10_becomes_60 : DC cX10_becomes 60 2 62 (.iload 4) := ⟨by decide +kernel, rfl⟩
theorem e_X10_becomes_62 : DJ cX10_becomes 62 83 65 (.if_icmp .ge) := DJ.mk 21 (by decide +kernel) (by decide) rfl
theorem e_X10_becomes_83 : DC cX10_becomes 83 1 84 (.return_) := ⟨by decide +kernel, rfl⟩
theorem e_X10_becomes_65 : DC cX10_becomes 65 1 66 (.aload_n 0) := ⟨by decide +kernel, rfl⟩
theorem e_X10_becomes_66 : DC cX10_becomes 66 3 69 (.getfield 59) := ⟨by decide +kernel, rfl⟩
theorem e_X10_becomes_69 : DC cX10_becomes 69 3 72 (.sipush 644) := ⟨by decide +kernel, rfl⟩
theorem e_X10_becomes_72 : DC cX10_becomes 72 2 74 (.iload 5) := ⟨by decide +kernel, rfl⟩
theorem e_X10_becomes_74 : DC cX10_becomes 74 1 75 (.iadd) := ⟨by decide +kernel, rfl⟩
theorem e_X10_becomes_75 : DC cX10_becomes 75 1 76 (.lload_n 1) := ⟨by decide +kernel, rfl⟩
theorem e_X10_becomes_76 : DC cX10_becomes 76 1 77 (.lastore) := ⟨by decide +kernel, rfl⟩
theorem e_X10_becomes_77 : DC cX10_becomes 77 3 80 (.iinc 5 1) := ⟨by decide +kernel, rfl⟩
theorem e_X10_becomes_80 : DJ cX10_becomes 80 58 83 .goto := DJ.mk (-22) (by decide +kernel) (by decide) rfl
theorem e_X10_becomes_0 : DC cX10_becomes 0 1 1 (.aload_n 0) := ⟨by decide +kernel, rfl⟩
theorem e_X10_becomes_1 : DC cX10_becomes 1 3 4 (.getfield 59) := ⟨by decide +kernel, rfl⟩
theorem e_X10_becomes_4 : DC cX10_becomes 4 3 7 (.sipush 744) := ⟨by decide +kernel, rfl⟩
theorem e_X10_becomes_7 : DC cX10_becomes 7 1 8 (.laload) := ⟨by decide +kernel, rfl⟩
theorem e_X10_becomes_8 : DC cX10_becomes 8 1 9 (.l2i) := ⟨by decide +kernel, rfl⟩
theorem e_X10_becomes_9 : DC cX10_becomes 9 1 10 (.istore_n 3) := ⟨by decide +kernel, rfl⟩
theorem e_X10_becomes_10 : DC cX10_becomes 10 2 12 (.bipush 100) := ⟨by decide +kernel, rfl⟩
theorem e_X10_becomes_12 : DC cX10_becomes 12 2 14 (.istore 4) := ⟨by decide +kernel, rfl⟩
theorem e_X10_becomes_14 : DC cX10_becomes 14 1 15 (.aload_n 0) := ⟨by decide +kernel, rfl⟩
theorem e_X10_becomes_15 : DC cX10_becomes 15 3 18 (.getfield 13) := ⟨by decide +kernel, rfl⟩
theorem e_X10_becomes_18 : DC cX10_becomes 18 1 19 (.iconst 2) := ⟨by decide +kernel, rfl⟩
theorem e_X10_becomes_19 : DC cX10_becomes 19 1 20 (.iaload) := ⟨by decide +kernel, rfl⟩
theorem e_X10_becomes_20 : DC cX10_becomes 20 1 21 (.iconst 1) := ⟨by decide +kernel, rfl⟩
theorem e_X10_becomes_21 : DC cX10_becomes 21 1 22 (.isub) := ⟨by decide +kernel, rfl⟩
theorem e_X10_becomes_22 : DC cX10_becomes 22 2 24 (.istore 5) := ⟨by decide +kernel, rfl⟩
theorem e_X10_becomes_24 : DC cX10_becomes 24 2 26 (.iload 5) := ⟨by decide +kernel, rfl⟩
theorem e_X10_becomes_26 : DJ cX10_becomes 26 55 29 (.ifCond .lt) := DJ.mk 29 (by decide +kernel) (by decide) rfl
theorem e_X10_becomes_55 : DC cX10_becomes 55 1 56 (.iload_n 3) := ⟨by decide +kernel, rfl⟩
theorem e_X10_becomes_56 : DC cX10_becomes 56 2 58 (.istore 5) := ⟨by decide +kernel, rfl⟩
theorem e_X10_ahead_15 : DC cX10_ahead 15 1 16 (.iload_n 2) := ⟨by decide +kernel, rfl⟩
theorem e_X10_ahead_16 : DC cX10_ahead 16 1 17 (.iload_n 1) := ⟨by decide +kernel, rfl⟩
theorem e_X10_ahead_17 : DJ cX10_ahead 17 45 20 (.if_icmp .ge) := DJ.mk 28 (by decide +kernel) (by decide) rfl
theorem e_X10_ahead_45 : DC cX10_ahead 45 1 46 (.return_) := ⟨by decide +kernel, rfl⟩
theorem e_X10_ahead_20 : DC cX10_ahead 20 1 21 (.aload_n 0) := ⟨by decide +kernel, rfl⟩
theorem e_X10_ahead_21 : DC cX10_ahead 21 3 24 (.getfield 59) := ⟨by decide +kernel, rfl⟩
theorem e_X10_ahead_24 : DC cX10_ahead 24 3 27 (.sipush 744) := ⟨by decide +kernel, rfl⟩
theorem e_X10_ahead_27 : DC cX10_ahead 27 1 28 (.laload) := ⟨by decide +kernel, rfl⟩
theorem e_X10_ahead_28 : DC cX10_ahead 28 3 31 (.ldc2_w 284) := ⟨by decide +kernel, rfl⟩
theorem kc_X10_284 : Cond.constantLong RX10 284 99 ∈ tb := tb_in 1707 (by decide +kernel) (by decide +kernel)
theorem e_X10_ahead_31 : DC cX10_ahead 31 1 32 (.lcmp) := ⟨by decide +kernel, rfl⟩
theorem e_X10_ahead_32 : DJ cX10_ahead 32 45 35 (.ifCond .ge) := DJ.mk 13 (by decide +kernel) (by decide) rfl
theorem e_X10_ahead_35 : DC cX10_ahead 35 1 36 (.aload_n 0) := ⟨by decide +kernel, rfl⟩
theorem e_X10_ahead_36 : DC cX10_ahead 36 3 39 (.invokevirtual 289) := ⟨by decide +kernel, rfl⟩
theorem cb_X10_periodGoes : CB yX10_periodGoes cX10_periodGoes 3 none 0 := ⟨tb_in 1718 (by decide +kernel) (by decide +kernel), tb_in 10 (by decide +kernel) (by decide +kernel), by decide +kernel⟩
theorem ml_X10_289 : Cond.methodLink RX10 289 yX10_periodGoes ∈ tb := tb_in 1715 (by decide +kernel) (by decide +kernel)
theorem im_X10_periodGoes : Cond.instanceMethod yX10_periodGoes ∈ tb := tb_in 1717 (by decide +kernel) (by decide +kernel)
theorem se_X10_periodGoes : Cond.selects (yX10_periodGoes).cls yX10_periodGoes yX10_periodGoes ∈ tb := tb_sel 37 (by decide +kernel) (by decide +kernel)
theorem e_X10_ahead_39 : DC cX10_ahead 39 3 42 (.iinc 2 1) := ⟨by decide +kernel, rfl⟩
theorem e_X10_ahead_42 : DJ cX10_ahead 42 15 45 .goto := DJ.mk (-27) (by decide +kernel) (by decide) rfl
theorem e_X10_ahead_0 : DC cX10_ahead 0 1 1 (.aload_n 0) := ⟨by decide +kernel, rfl⟩
theorem e_X10_ahead_1 : DC cX10_ahead 1 3 4 (.getfield 59) := ⟨by decide +kernel, rfl⟩
theorem e_X10_ahead_4 : DC cX10_ahead 4 1 5 (.iconst 0) := ⟨by decide +kernel, rfl⟩
theorem e_X10_ahead_5 : DC cX10_ahead 5 1 6 (.aload_n 0) := ⟨by decide +kernel, rfl⟩
theorem e_X10_ahead_6 : DC cX10_ahead 6 3 9 (.getfield 63) := ⟨by decide +kernel, rfl⟩
theorem e_X10_ahead_9 : DC cX10_ahead 9 1 10 (.iconst 0) := ⟨by decide +kernel, rfl⟩
theorem e_X10_ahead_10 : DC cX10_ahead 10 3 13 (.invokestatic 230) := ⟨by decide +kernel, rfl⟩
theorem e_X10_ahead_13 : DC cX10_ahead 13 1 14 (.iconst 0) := ⟨by decide +kernel, rfl⟩
theorem e_X10_ahead_14 : DC cX10_ahead 14 1 15 (.istore_n 2) := ⟨by decide +kernel, rfl⟩
def ME (V : VX) (τ : Mem) (m u : Nat) (hi dr : Int32) (p pa pf : Nat) : Prop := τ m = some (ob 8 [.int 0, .ref (m + 1), .int 0, .ref (m + 2), .ref (m + 3), .ref (m + 4), .ref (m + 5), .ref (m + 6), .ref (m + 7), .ref (m + 8), .ref (m + 9), .ref (m + 10), .ref (m + 11), .ref (m + 12), .ref (m + 13), .ref (m + 14), .ref (m + 15), .int 0, .int 0, .int 0, .int 0, .int 0, .int 0, .int 0, .int 0, .int 0, .int (-1), .ref (m + 16), .ref (m + 17), .ref (m + 18), .ref (m + 19), .ref (m + 20), .int (nI u), .int hi, .ref (m + 21), .ref (m + 22), .int dr]) ∧ τ (m + 2) = some (aI V 10 (fun _ => 0)) ∧ ∃ f g1 g2 g3 g4 : Nat → Int64, τ (m + 16) = some (aJ V 1113 f) ∧ τ (m + 17) = some (aJ V 1113 g1) ∧ τ (m + 18) = some (aJ V 1113 g2) ∧ τ (m + 19) = some (aJ V 1113 g3) ∧ τ (m + 20) = some (aJ V 22260 g4) ∧ f 744 = lN p ∧ g1 744 = lN pa ∧ g2 744 = lN pf
set_option maxRecDepth 20000 in
theorem k_periodGoes0 (l : Launch) (V : VX) (N : Nat) (σ : Mem) (m u : Nat) (hi dr : Int32) (p pa pf : Nat)  (hM : ME V σ m u hi dr p pa pf)  : Ct l V yX10_periodGoes cX10_periodGoes 3 none 1 0 0 N σ [.ref m] (fun r τ => r = none ∧ ME V τ m u hi dr (p + 1) pa pf) := by
  refine Ct.of (by decide) (Nat.le_of_ble_eq_true rfl) [(0, .ref m)] rfl (fun X hX F hQ => ?_)
  obtain ⟨ho25, hn25, f25, ga25, gf25, gi25, gk25, hs25, ha25, hfu25, him25, hk25, ef25, ea25, eu25⟩ := hM
  refine m_iconst F (v := 0) (by decide) e_X10_periodGoes_0 ?_
  refine m_istore_n F (lv' := [(1, .int 0), (0, .ref m)]) e_X10_periodGoes_1 (by decide) rfl ?_
  refine m_iload_n F rfl e_X10_periodGoes_2 ?_
  refine m_aload_n F rfl e_X10_periodGoes_3 ?_
  refine m_callV F e_X10_periodGoes_4 (k_leases0 (x_l X) V _ _ m 0 0 0 0 0 0 0 0 0 0 0 (-1) (nI u) hi dr  ho25 hn25 ) cb_X10_leases ml_X10_221 im_X10_leases se_X10_leases ho25 rfl rfl (rest := [.int 0]) rfl (Nat.le_of_ble_eq_true rfl) ⟨Nat.le_of_ble_eq_true rfl, Nat.le_of_ble_eq_true rfl⟩ ⟨Nat.le_of_ble_eq_true rfl, Nat.le_of_ble_eq_true rfl⟩ (k' := 0) (z' := 0) (N' := N) rfl rfl rfl (fun r τ hp => ?_)
  obtain ⟨rfl, rfl⟩ := hp
  refine m_icmp_ge F e_X10_periodGoes_7 (fun _ => ?_) (fun q => absurd (by decide) q)
  refine m_aload_n F rfl e_X10_periodGoes_122 ?_
  refine m_get F e_X10_periodGoes_123 fl_X10_59 ho25 rfl ?_
  refine m_sipush F (v := 744) (by decide) e_X10_periodGoes_126 ?_
  refine m_dup2_11 F rfl rfl e_X10_periodGoes_129 ?_
  refine m_lald F (j := 744) e_X10_periodGoes_130 hs25 (by decide) (by unfold vp_in; decide) ?_
  refine Wm.toplE (w := lN p) (ef25) ?_
  refine m_lconst F (v := 1) (by decide) e_X10_periodGoes_131 ?_
  refine m_ladd F e_X10_periodGoes_132 ?_
  refine Wm.toplE (w := lN (p + 1)) (lN_add p 1) ?_
  refine m_last F (j := 744) e_X10_periodGoes_133 hs25 (by decide) (by unfold vp_in; decide) rfl rfl ?_
  exact m_vret F hQ e_X10_periodGoes_134 (⟨rfl, ⟨(ru_ne (by omega) ho25), (ru_ne (by omega) hn25), (vp_updL f25 744 (lN (p + 1))), ga25, gf25, gi25, gk25, ru_eq, (ru_ne (by omega) ha25), (ru_ne (by omega) hfu25), (ru_ne (by omega) him25), (ru_ne (by omega) hk25), (by simp [vp_updL]), ea25, eu25⟩⟩)
set_option maxRecDepth 20000 in
theorem k_remembers0 (l : Launch) (V : VX) (N : Nat) (σ : Mem) (m u : Nat) (hi dr : Int32) (p pa pf : Nat)  (hM : ME V σ m u hi dr p pa pf) (hu : u < 20) : Ct l V yX10_remembers cX10_remembers 2 none 1 0 0 N σ [.ref m] (fun r τ => r = none ∧ ME V τ m (u + 1) hi dr p pa pf) := by
  refine Ct.of (by decide) (Nat.le_of_ble_eq_true rfl) [(0, .ref m)] rfl (fun X hX F hQ => ?_)
  obtain ⟨ho26, hn26, f26, ga26, gf26, gi26, gk26, hs26, ha26, hfu26, him26, hk26, ef26, ea26, eu26⟩ := hM
  refine m_aload_n F rfl e_X10_remembers_0 ?_
  refine m_get F e_X10_remembers_1 fl_X10_214 ho26 rfl ?_
  refine m_bipush F (v := 20) (by decide) e_X10_remembers_4 ?_
  refine m_icmp_ne F e_X10_remembers_6 (fun q6 => ?_) (fun q6 => ?_)
  · have c6 : u ≠ 20 := by have hh := mt (nI_eq (a := u) (b := 20) (by omega) (by omega)).mpr q6; omega
    refine m_aload_n F rfl e_X10_remembers_50 ?_
    refine m_get F e_X10_remembers_51 fl_X10_59 ho26 rfl ?_
    refine m_iconst F (v := 0) (by decide) e_X10_remembers_54 ?_
    refine m_aload_n F rfl e_X10_remembers_55 ?_
    refine m_get F e_X10_remembers_56 fl_X10_72 ho26 rfl ?_
    refine m_sipush F (v := 1113) (by decide) e_X10_remembers_59 ?_
    refine m_aload_n F rfl e_X10_remembers_62 ?_
    refine m_get F e_X10_remembers_63 fl_X10_214 ho26 rfl ?_
    refine m_imul F e_X10_remembers_66 ?_
    refine Wm.topE (w := nI (1113 * u)) (pk_mul 1113 u) ?_
    refine m_callS F e_X10_remembers_67 (k_copies (x_l X) V _ _ (m + 16) (m + 20) 1113 22260 0 (1113 * u) f26 gk26 (by omega) (by omega) (by omega) (by omega) (by omega) hs26 hk26) cb_X10_copies ml_X10_230 sm_X10_copies rfl (rest := []) rfl (Nat.le_of_ble_eq_true rfl) ⟨Nat.le_of_ble_eq_true rfl, Nat.le_of_ble_eq_true rfl⟩ ⟨Nat.le_of_ble_eq_true rfl, Nat.le_of_ble_eq_true rfl⟩ (k' := 0) (z' := 0) (N' := N) rfl rfl rfl (fun r τ hp => ?_)
    obtain ⟨rfl, rfl⟩ := hp
    refine m_aload_n F rfl e_X10_remembers_70 ?_
    refine m_dup F rfl e_X10_remembers_71 ?_
    refine m_get F e_X10_remembers_72 fl_X10_214 (ru_ne (by omega) ho26) rfl ?_
    refine m_iconst F (v := 1) (by decide) e_X10_remembers_75 ?_
    refine m_iadd F e_X10_remembers_76 ?_
    refine Wm.topE (w := nI (u + 1)) (nI_add u 1) ?_
    refine m_put F e_X10_remembers_77 fp_X10_214 (ru_ne (by omega) ho26) rfl rfl (Nat.le_of_ble_eq_true rfl) (fs' := [.int 0, .ref (m + 1), .int 0, .ref (m + 2), .ref (m + 3), .ref (m + 4), .ref (m + 5), .ref (m + 6), .ref (m + 7), .ref (m + 8), .ref (m + 9), .ref (m + 10), .ref (m + 11), .ref (m + 12), .ref (m + 13), .ref (m + 14), .ref (m + 15), .int 0, .int 0, .int 0, .int 0, .int 0, .int 0, .int 0, .int 0, .int 0, .int (-1), .ref (m + 16), .ref (m + 17), .ref (m + 18), .ref (m + 19), .ref (m + 20), .int (nI (u + 1)), .int hi, .ref (m + 21), .ref (m + 22), .int dr]) rfl rfl ?_
    exact m_vret F hQ e_X10_remembers_80 (⟨rfl, ⟨ru_eq, (ru_ne (by omega) (ru_ne (by omega) hn26)), f26, ga26, gf26, gi26, (cpJ f26 gk26 0 (1113 * u) 1113), (ru_ne (by omega) (ru_ne (by omega) hs26)), (ru_ne (by omega) (ru_ne (by omega) ha26)), (ru_ne (by omega) (ru_ne (by omega) hfu26)), (ru_ne (by omega) (ru_ne (by omega) him26)), (ru_ne (by omega) ru_eq), ef26, ea26, eu26⟩⟩)
  · have c6 : u = 20 := (nI_eq (a := u) (b := 20) (by omega) (by omega)).mp q6
    exfalso; omega
set_option maxRecDepth 20000 in
theorem k_back1 (l : Launch) (V : VX) (N : Nat) (σ : Mem) (m u : Nat) (hi dr : Int32) (p pa pf : Nat)  (hM : ME V σ m u hi dr p pa pf)  : Ct l V yX10_back1 cX10_back1 1 none 1 0 0 N σ [.ref m] (fun r τ => r = none ∧ ME V τ m u hi dr pa pa pf) := by
  refine Ct.of (by decide) (Nat.le_of_ble_eq_true rfl) [(0, .ref m)] rfl (fun X hX F hQ => ?_)
  obtain ⟨ho27, hn27, f27, ga27, gf27, gi27, gk27, hs27, ha27, hfu27, him27, hk27, ef27, ea27, eu27⟩ := hM
  refine m_aload_n F rfl e_X10_back1_0 ?_
  refine m_get F e_X10_back1_1 fl_X10_63 ho27 rfl ?_
  refine m_iconst F (v := 0) (by decide) e_X10_back1_4 ?_
  refine m_aload_n F rfl e_X10_back1_5 ?_
  refine m_get F e_X10_back1_6 fl_X10_59 ho27 rfl ?_
  refine m_iconst F (v := 0) (by decide) e_X10_back1_9 ?_
  refine m_callS F e_X10_back1_10 (k_copies (x_l X) V _ _ (m + 17) (m + 16) 1113 1113 0 0 ga27 f27 (by omega) (by omega) (by omega) (by omega) (by omega) ha27 hs27) cb_X10_copies ml_X10_230 sm_X10_copies rfl (rest := []) rfl (Nat.le_of_ble_eq_true rfl) ⟨Nat.le_of_ble_eq_true rfl, Nat.le_of_ble_eq_true rfl⟩ ⟨Nat.le_of_ble_eq_true rfl, Nat.le_of_ble_eq_true rfl⟩ (k' := 0) (z' := 0) (N' := N) rfl rfl rfl (fun r τ hp => ?_)
  obtain ⟨rfl, rfl⟩ := hp
  exact m_vret F hQ e_X10_back1_13 (⟨rfl, ⟨(ru_ne (by omega) ho27), (ru_ne (by omega) hn27), (cpJ ga27 f27 0 0 1113), ga27, gf27, gi27, gk27, ru_eq, (ru_ne (by omega) ha27), (ru_ne (by omega) hfu27), (ru_ne (by omega) him27), (ru_ne (by omega) hk27), ((cpJ_in (by omega) (by omega)).trans ea27), ea27, eu27⟩⟩)
set_option maxRecDepth 20000 in
theorem k_indexNow0 (l : Launch) (V : VX) (N : Nat) (σ : Mem) (m u : Nat) (hi dr : Int32) (p pa pf : Nat) (hM : ME V σ m u hi dr p pa pf) (hpp : p < 100) : Ct l V yX10_indexNow cX10_indexNow 1 (some .long) 0 0 0 N σ [.ref m] (fun r τ => ∃ z : Int64, r = some (.long z) ∧ τ = σ) := by
  refine Ct.of (by decide) (Nat.le_of_ble_eq_true rfl) [(0, .ref m)] rfl (fun X hX F hQ => ?_)
  obtain ⟨ho28, hn28, f28, ga28, gf28, gi28, gk28, hs28, ha28, hfu28, him28, hk28, ef28, ea28, eu28⟩ := hM
  refine m_aload_n F rfl e_X10_indexNow_0 ?_
  refine m_get F e_X10_indexNow_1 fl_X10_59 ho28 rfl ?_
  refine m_sipush F (v := 644) (by decide) e_X10_indexNow_4 ?_
  refine m_aload_n F rfl e_X10_indexNow_7 ?_
  refine m_get F e_X10_indexNow_8 fl_X10_59 ho28 rfl ?_
  refine m_sipush F (v := 744) (by decide) e_X10_indexNow_11 ?_
  refine m_lald F (j := 744) e_X10_indexNow_14 hs28 (by decide) (by unfold vp_in; decide) ?_
  refine Wm.toplE (w := lN p) (ef28) ?_
  refine m_l2i F e_X10_indexNow_15 ?_
  refine Wm.topE (w := nI p) (lN_i p) ?_
  refine m_iadd F e_X10_indexNow_16 ?_
  refine Wm.topE (w := nI (644 + p)) (nI_add 644 p) ?_
  refine m_lald F (j := 644 + p) e_X10_indexNow_17 hs28 (nI_clamp (by omega)) (vp_in_nI (by omega) (by omega)) ?_
  exact m_lret F hQ e_X10_indexNow_18 (⟨_, rfl, rfl⟩)
set_option maxRecDepth 20000 in
theorem k_held (l : Launch) (V : VX) (N : Nat) (σ : Mem) (v : Int64)  : Ct l V yX10_held cX10_held 2 (some .long) 0 0 0 N σ [.long v] (fun r τ => ∃ z : Int64, r = some (.long z) ∧ τ = σ) := by
  refine Ct.of (by decide) (Nat.le_of_ble_eq_true rfl) [(0, .long v)] rfl (fun X hX F hQ => ?_)
  refine m_lload_n F rfl e_X10_held_0 ?_
  refine m_ldc2 F kc_X10_358 e_X10_held_1 ?_
  refine m_lcmp F e_X10_held_4 ?_
  refine m_if_ge F e_X10_held_5 (fun q5 => ?_) (fun q5 => ?_)
  · refine m_lload_n F rfl e_X10_held_12 ?_
    refine m_ldc2 F kc_X10_360 e_X10_held_13 ?_
    refine m_lcmp F e_X10_held_16 ?_
    refine m_if_le F e_X10_held_17 (fun q17 => ?_) (fun q17 => ?_)
    · refine m_lload_n F rfl e_X10_held_24 ?_
      exact m_lret F hQ e_X10_held_25 (⟨_, rfl, rfl⟩)
    · refine m_ldc2 F kc_X10_360 e_X10_held_20 ?_
      exact m_lret F hQ e_X10_held_23 (⟨_, rfl, rfl⟩)
  · refine m_ldc2 F kc_X10_358 e_X10_held_8 ?_
    exact m_lret F hQ e_X10_held_11 (⟨_, rfl, rfl⟩)
set_option maxRecDepth 20000 in
theorem k_draw0 (l : Launch) (V : VX) (N : Nat) (σ : Mem) (m u : Nat) (hi dr : Int32) (p pa pf : Nat)  (hM : ME V σ m u hi dr p pa pf)  : Ct l V yX10_draw cX10_draw 2 (some .int) 0 0 0 N σ [.ref m, .int 21] (fun r τ => ∃ (z : Int32) (dn : Int32), r = some (.int z) ∧ ME V τ m u hi dn p pa pf) := by
  refine Ct.of (by decide) (Nat.le_of_ble_eq_true rfl) [(0, .ref m), (1, .int 21)] rfl (fun X hX F hQ => ?_)
  obtain ⟨ho29, hn29, f29, ga29, gf29, gi29, gk29, hs29, ha29, hfu29, him29, hk29, ef29, ea29, eu29⟩ := hM
  refine m_aload_n F rfl e_X10_draw_0 ?_
  refine m_aload_n F rfl e_X10_draw_1 ?_
  refine m_get F e_X10_draw_2 fl_X10_353 ho29 rfl ?_
  refine m_ldcw F kc_X10_356 e_X10_draw_5 ?_
  refine m_imul F e_X10_draw_8 ?_
  refine m_sipush F (v := 12345) (by decide) e_X10_draw_9 ?_
  refine m_iadd F e_X10_draw_12 ?_
  refine m_ldcw F kc_X10_357 e_X10_draw_13 ?_
  refine m_iand F e_X10_draw_16 ?_
  refine m_put F e_X10_draw_17 fp_X10_353 ho29 rfl rfl (Nat.le_of_ble_eq_true rfl) (fs' := [.int 0, .ref (m + 1), .int 0, .ref (m + 2), .ref (m + 3), .ref (m + 4), .ref (m + 5), .ref (m + 6), .ref (m + 7), .ref (m + 8), .ref (m + 9), .ref (m + 10), .ref (m + 11), .ref (m + 12), .ref (m + 13), .ref (m + 14), .ref (m + 15), .int 0, .int 0, .int 0, .int 0, .int 0, .int 0, .int 0, .int 0, .int 0, .int (-1), .ref (m + 16), .ref (m + 17), .ref (m + 18), .ref (m + 19), .ref (m + 20), .int (nI u), .int hi, .ref (m + 21), .ref (m + 22), .int (((dr * 1103515245) + 12345) &&& 2147483647)]) rfl rfl ?_
  refine m_aload_n F rfl e_X10_draw_20 ?_
  refine m_get F e_X10_draw_21 fl_X10_353 ru_eq rfl ?_
  refine m_bipush F (v := 16) (by decide) e_X10_draw_24 ?_
  refine m_ishr F e_X10_draw_26 ?_
  refine m_iload_n F rfl e_X10_draw_27 ?_
  refine m_irem F (by decide) e_X10_draw_28 ?_
  exact m_iret F hQ e_X10_draw_29 (⟨_, _, rfl, ⟨ru_eq, (ru_ne (by omega) hn29), f29, ga29, gf29, gi29, gk29, (ru_ne (by omega) hs29), (ru_ne (by omega) ha29), (ru_ne (by omega) hfu29), (ru_ne (by omega) him29), (ru_ne (by omega) hk29), ef29, ea29, eu29⟩⟩)
theorem lp_becomes0 {V : VX} {X : MX} {N : Nat} {σ : Mem} {Post : Option Value → Mem → Prop} (F : Fx V X yX10_becomes cX10_becomes 6 none (rmd 0 0 0)) (hQ : Rt V X 0 0 N Post) {m u : Nat} {hi dr : Int32} {p : Nat} {v : Int64} (h_obj : σ m = some (ob 8 [.int 0, .ref (m + 1), .int 0, .ref (m + 2), .ref (m + 3), .ref (m + 4), .ref (m + 5), .ref (m + 6), .ref (m + 7), .ref (m + 8), .ref (m + 9), .ref (m + 10), .ref (m + 11), .ref (m + 12), .ref (m + 13), .ref (m + 14), .ref (m + 15), .int 0, .int 0, .int 0, .int 0, .int 0, .int 0, .int 0, .int 0, .int 0, .int (-1), .ref (m + 16), .ref (m + 17), .ref (m + 18), .ref (m + 19), .ref (m + 20), .int (nI u), .int hi, .ref (m + 21), .ref (m + 22), .int dr])) (hpp : p < 100) (hp : ∀ f : Nat → Int64, f 744 = lN p → Post none (va_up σ (m + 16) (some (aJ V 1113 f)))) : ∀ (n i : Nat) (f : Nat → Int64), i ≤ 100 → 100 - i < n → f 744 = lN p → Wm V X 6 N (va_up σ (m + 16) (some (aJ V 1113 f))) 0 0 58 [(5, .int (nI i)), (0, .ref m), (1, .long v), (3, .int (nI p)), (4, .int 100)] [] := by
  intro n
  induction n with
  | zero => intro i f h1 h2; exact absurd h2 (by omega)
  | succ n ih =>
    intro i f h1 h2 hf
    refine m_iload F rfl e_X10_becomes_58 ?_
    refine m_iload F rfl e_X10_becomes_60 ?_
    refine m_icmp_ge F e_X10_becomes_62 (fun q62 => ?_) (fun q62 => ?_)
    · have c62 : i ≥ 100 := (nI_leI (a := 100) (b := i) (by omega) (by omega)).mp q62
      exact m_vret F hQ e_X10_becomes_83 (hp f hf)
    · have c62 : i < 100 := by have hh := mt (nI_leI (a := 100) (b := i) (by omega) (by omega)).mpr q62; omega
      refine m_aload_n F rfl e_X10_becomes_65 ?_
      refine m_get F e_X10_becomes_66 fl_X10_59 (ru_ne (by omega) h_obj) rfl ?_
      refine m_sipush F (v := 644) (by decide) e_X10_becomes_69 ?_
      refine m_iload F rfl e_X10_becomes_72 ?_
      refine m_iadd F e_X10_becomes_74 ?_
      refine Wm.topE (w := nI (644 + i)) (nI_add 644 i) ?_
      refine m_lload_n F rfl e_X10_becomes_75 ?_
      refine m_last F (j := 644 + i) e_X10_becomes_76 ru_eq (nI_clamp (by omega)) (vp_in_nI (by omega) (by omega)) rfl (bx_uu _ _ _ _) ?_
      refine m_iinc F (v := nI (i + 1)) (lv' := [(5, .int (nI (i + 1))), (0, .ref m), (1, .long v), (3, .int (nI p)), (4, .int 100)]) e_X10_becomes_77 rfl (nI_add i 1) (by decide) rfl ?_
      refine m_goto F e_X10_becomes_80 ?_
      exact ih (i + 1) (vp_updL f (644 + i) v) (by omega) (by omega) (by simp only [vp_updL]; rw [if_neg (by omega)]; exact hf)
set_option maxRecDepth 20000 in
theorem k_becomes0 (l : Launch) (V : VX) (N : Nat) (σ : Mem) (m u : Nat) (hi dr : Int32) (p pa pf : Nat) (v : Int64) (hM : ME V σ m u hi dr p pa pf) (hpp : p < 100) : Ct l V yX10_becomes cX10_becomes 6 none 0 0 0 N σ [.ref m, .long v] (fun r τ => r = none ∧ ME V τ m u hi dr p pa pf) := by
  refine Ct.of (by decide) (Nat.le_of_ble_eq_true rfl) [(0, .ref m), (1, .long v)] rfl (fun X hX F hQ => ?_)
  obtain ⟨ho30, hn30, f30, ga30, gf30, gi30, gk30, hs30, ha30, hfu30, him30, hk30, ef30, ea30, eu30⟩ := hM
  refine m_aload_n F rfl e_X10_becomes_0 ?_
  refine m_get F e_X10_becomes_1 fl_X10_59 ho30 rfl ?_
  refine m_sipush F (v := 744) (by decide) e_X10_becomes_4 ?_
  refine m_lald F (j := 744) e_X10_becomes_7 hs30 (by decide) (by unfold vp_in; decide) ?_
  refine Wm.toplE (w := lN p) (ef30) ?_
  refine m_l2i F e_X10_becomes_8 ?_
  refine Wm.topE (w := nI p) (lN_i p) ?_
  refine m_istore_n F (lv' := [(3, .int (nI p)), (0, .ref m), (1, .long v)]) e_X10_becomes_9 (by decide) rfl ?_
  refine m_bipush F (v := 100) (by decide) e_X10_becomes_10 ?_
  refine m_istore F (lv' := [(4, .int 100), (3, .int (nI p)), (0, .ref m), (1, .long v)]) e_X10_becomes_12 (by decide) rfl ?_
  refine m_aload_n F rfl e_X10_becomes_14 ?_
  refine m_get F e_X10_becomes_15 fl_X10_13 ho30 rfl ?_
  refine m_iconst F (v := 2) (by decide) e_X10_becomes_18 ?_
  refine m_iald F (j := 2) e_X10_becomes_19 hn30 (by decide) (by unfold vp_in; decide) ?_
  refine Wm.topE (w := 0) (rfl) ?_
  refine m_iconst F (v := 1) (by decide) e_X10_becomes_20 ?_
  refine m_isub F e_X10_becomes_21 ?_
  refine Wm.topE (w := (-1)) (by decide) ?_
  refine m_istore F (lv' := [(5, .int (-1)), (4, .int 100), (3, .int (nI p)), (0, .ref m), (1, .long v)]) e_X10_becomes_22 (by decide) rfl ?_
  refine m_iload F rfl e_X10_becomes_24 ?_
  refine m_if_lt F e_X10_becomes_26 (fun _ => ?_) (fun q => absurd (by decide) q)
  refine m_iload_n F rfl e_X10_becomes_55 ?_
  refine m_istore F (lv' := [(5, .int (nI p)), (4, .int 100), (3, .int (nI p)), (0, .ref m), (1, .long v)]) e_X10_becomes_56 (by decide) rfl ?_
  refine Wm.lvsub (lv' := [(5, .int (nI p)), (0, .ref m), (1, .long v), (3, .int (nI p)), (4, .int 100)]) ?_ [0, 3, 4, 2, 1] rfl
  refine Wm.memE (up_self hs30) ?_
  exact lp_becomes0 F hQ ho30 hpp (fun f9 e9 => ⟨rfl, (ru_ne (by omega) ho30), (ru_ne (by omega) hn30), f9, _, _, _, _, ru_eq, (ru_ne (by omega) ha30), (ru_ne (by omega) hfu30), (ru_ne (by omega) him30), (ru_ne (by omega) hk30), e9, ea30, eu30⟩) 101 p _ (by omega) (by omega) ef30
theorem lp_ahead0 {V : VX} {X : MX} {N : Nat} {Post : Option Value → Mem → Prop} (F : Fx V X yX10_ahead cX10_ahead 3 none (rmd 2 0 0)) (hQ : Rt V X 0 0 N Post) {m u : Nat} {hi dr : Int32} {p pf k : Nat} (hk : p + k < 99) (hp : ∀ τ : Mem, ME V τ m u hi dr (p + k) p pf → Post none τ) : ∀ (n i : Nat) (τ : Mem), i ≤ k → k - i < n → ME V τ m u hi dr (p + i) p pf → Wm V X 3 N τ 0 0 15 [(2, .int (nI i)), (0, .ref m), (1, .int (nI k))] [] := by
  intro n
  induction n with
  | zero => intro i τ h1 h2; exact absurd h2 (by omega)
  | succ n ih =>
    intro i τ h1 h2 hM
    obtain ⟨ho31, hn31, f31, ga31, gf31, gi31, gk31, hs31, ha31, hfu31, him31, hk31, ef31, ea31, eu31⟩ := hM
    refine m_iload_n F rfl e_X10_ahead_15 ?_
    refine m_iload_n F rfl e_X10_ahead_16 ?_
    refine m_icmp_ge F e_X10_ahead_17 (fun q17 => ?_) (fun q17 => ?_)
    · have c17 : i ≥ k := (nI_leI (a := k) (b := i) (by omega) (by omega)).mp q17
      have hi9 : i = k := by omega
      subst hi9
      exact m_vret F hQ e_X10_ahead_45 (hp _ ⟨ho31, hn31, f31, ga31, gf31, gi31, gk31, hs31, ha31, hfu31, him31, hk31, ef31, ea31, eu31⟩)
    · have c17 : i < k := by have hh := mt (nI_leI (a := k) (b := i) (by omega) (by omega)).mpr q17; omega
      refine m_aload_n F rfl e_X10_ahead_20 ?_
      refine m_get F e_X10_ahead_21 fl_X10_59 ho31 rfl ?_
      refine m_sipush F (v := 744) (by decide) e_X10_ahead_24 ?_
      refine m_lald F (j := 744) e_X10_ahead_27 hs31 (by decide) (by unfold vp_in; decide) ?_
      refine Wm.toplE (w := lN (p + i)) (ef31) ?_
      refine m_ldc2 F kc_X10_284 e_X10_ahead_28 ?_
      refine m_lcmp F e_X10_ahead_31 ?_
      refine m_if_ge F e_X10_ahead_32 (fun q32 => ?_) (fun q32 => ?_)
      · have c32 : (p + i) ≥ 99 := (lN_le (a := 99) (b := (p + i)) (by omega) (by omega)).mp ((lg_cmp_ge _ _).mp q32)
        exfalso; omega
      · have c32 : (p + i) < 99 := by have hh := mt (fun h9 => (lg_cmp_ge (lN (p + i)) (lN 99)).mpr ((lN_le (a := 99) (b := (p + i)) (by omega) (by omega)).mpr h9)) q32; omega
        refine m_aload_n F rfl e_X10_ahead_35 ?_
        refine m_callV F e_X10_ahead_36 (k_periodGoes0 (x_l X) V _ _ m u hi dr (p + i) p pf  ⟨ho31, hn31, f31, ga31, gf31, gi31, gk31, hs31, ha31, hfu31, him31, hk31, ef31, ea31, eu31⟩ ) cb_X10_periodGoes ml_X10_289 im_X10_periodGoes se_X10_periodGoes ho31 rfl rfl (rest := []) rfl (Nat.le_of_ble_eq_true rfl) ⟨Nat.le_of_ble_eq_true rfl, Nat.le_of_ble_eq_true rfl⟩ ⟨Nat.le_of_ble_eq_true rfl, Nat.le_of_ble_eq_true rfl⟩ (k' := 0) (z' := 0) (N' := N) rfl rfl rfl (fun r τ32 hp => ?_)
        obtain ⟨rfl, hp⟩ := hp
        obtain ⟨ho33, hn33, f33, ga33, gf33, gi33, gk33, hs33, ha33, hfu33, him33, hk33, ef33, ea33, eu33⟩ := hp
        refine m_iinc F (v := nI (i + 1)) (lv' := [(2, .int (nI (i + 1))), (0, .ref m), (1, .int (nI k))]) e_X10_ahead_39 rfl (nI_add i 1) (by decide) rfl ?_
        refine m_goto F e_X10_ahead_42 ?_
        exact ih (i + 1) _ (by omega) (by omega) ⟨ho33, hn33, f33, ga33, gf33, gi33, gk33, hs33, ha33, hfu33, him33, hk33, ef33, ea33, eu33⟩
set_option maxRecDepth 20000 in
theorem k_ahead0 (l : Launch) (V : VX) (N : Nat) (σ : Mem) (m u : Nat) (hi dr : Int32) (p pa pf : Nat) (k : Nat) (hM : ME V σ m u hi dr p pa pf) (hk : p + k < 99) : Ct l V yX10_ahead cX10_ahead 3 none 2 0 0 N σ [.ref m, .int (nI k)] (fun r τ => r = none ∧ ME V τ m u hi dr (p + k) p pf) := by
  refine Ct.of (by decide) (Nat.le_of_ble_eq_true rfl) [(0, .ref m), (1, .int (nI k))] rfl (fun X hX F hQ => ?_)
  obtain ⟨ho34, hn34, f34, ga34, gf34, gi34, gk34, hs34, ha34, hfu34, him34, hk34, ef34, ea34, eu34⟩ := hM
  refine m_aload_n F rfl e_X10_ahead_0 ?_
  refine m_get F e_X10_ahead_1 fl_X10_59 ho34 rfl ?_
  refine m_iconst F (v := 0) (by decide) e_X10_ahead_4 ?_
  refine m_aload_n F rfl e_X10_ahead_5 ?_
  refine m_get F e_X10_ahead_6 fl_X10_63 ho34 rfl ?_
  refine m_iconst F (v := 0) (by decide) e_X10_ahead_9 ?_
  refine m_callS F e_X10_ahead_10 (k_copies (x_l X) V _ _ (m + 16) (m + 17) 1113 1113 0 0 f34 ga34 (by omega) (by omega) (by omega) (by omega) (by omega) hs34 ha34) cb_X10_copies ml_X10_230 sm_X10_copies rfl (rest := []) rfl (Nat.le_of_ble_eq_true rfl) ⟨Nat.le_of_ble_eq_true rfl, Nat.le_of_ble_eq_true rfl⟩ ⟨Nat.le_of_ble_eq_true rfl, Nat.le_of_ble_eq_true rfl⟩ (k' := 0) (z' := 0) (N' := N) rfl rfl rfl (fun r τ hp => ?_)
  obtain ⟨rfl, rfl⟩ := hp
  refine m_iconst F (v := 0) (by decide) e_X10_ahead_13 ?_
  refine m_istore_n F (lv' := [(2, .int 0), (0, .ref m), (1, .int (nI k))]) e_X10_ahead_14 (by decide) rfl ?_
  exact lp_ahead0 F hQ hk (fun τ h => ⟨rfl, h⟩) (k + 1) 0 _ (by omega) (by omega) ⟨(ru_ne (by omega) ho34), (ru_ne (by omega) hn34), f34, (cpJ f34 ga34 0 0 1113), gf34, gi34, gk34, (ru_ne (by omega) hs34), ru_eq, (ru_ne (by omega) hfu34), (ru_ne (by omega) him34), (ru_ne (by omega) hk34), ef34, ((cpJ_in (by omega) (by omega)).trans ef34), eu34⟩
