theorem e_X9_go_32 : DC cX9_go 32 1 33 (.iload_n 2) := ⟨by decide +kernel, rfl⟩
theorem e_X9_go_33 : DC cX9_go 33 1 34 (.iload_n 1) := ⟨by decide +kernel, rfl⟩
theorem e_X9_go_34 : DJ cX9_go 34 54 37 (.if_icmp .ge) := DJ.mk 20 (by decide +kernel) (by decide) rfl
theorem e_X9_go_54 : DC cX9_go 54 1 55 (.aload_n 0) := ⟨by decide +kernel, rfl⟩
theorem e_X9_go_55 : DC cX9_go 55 3 58 (.getfield 16) := ⟨by decide +kernel, rfl⟩
theorem e_X9_go_58 : DC cX9_go 58 3 61 (.getfield 94) := ⟨by decide +kernel, rfl⟩
theorem e_X9_go_61 : DC cX9_go 61 1 62 (.ireturn) := ⟨by decide +kernel, rfl⟩
theorem e_X9_go_37 : DC cX9_go 37 1 38 (.aload_n 0) := ⟨by decide +kernel, rfl⟩
theorem e_X9_go_38 : DC cX9_go 38 3 41 (.invokevirtual 97) := ⟨by decide +kernel, rfl⟩
theorem e_X9_go_41 : DC cX9_go 41 1 42 (.aload_n 0) := ⟨by decide +kernel, rfl⟩
theorem e_X9_go_42 : DC cX9_go 42 3 45 (.getfield 16) := ⟨by decide +kernel, rfl⟩
theorem e_X9_go_45 : DC cX9_go 45 3 48 (.invokevirtual 100) := ⟨by decide +kernel, rfl⟩
theorem e_X9_go_48 : DC cX9_go 48 3 51 (.iinc 2 1) := ⟨by decide +kernel, rfl⟩
theorem e_X9_go_51 : DJ cX9_go 51 32 54 .goto := DJ.mk (-19) (by decide +kernel) (by decide) rfl
theorem e_X9_go_0 : DC cX9_go 0 1 1 (.iload_n 1) := ⟨by decide +kernel, rfl⟩
theorem e_X9_go_1 : DC cX9_go 1 1 2 (.iconst 1) := ⟨by decide +kernel, rfl⟩
theorem e_X9_go_2 : DJ cX9_go 2 11 5 (.if_icmp .lt) := DJ.mk 9 (by decide +kernel) (by decide) rfl
theorem e_X9_go_11 : DC cX9_go 11 1 12 (.iconst (-1)) := ⟨by decide +kernel, rfl⟩
theorem e_X9_go_12 : DC cX9_go 12 1 13 (.ireturn) := ⟨by decide +kernel, rfl⟩
theorem e_X9_go_5 : DC cX9_go 5 1 6 (.iload_n 1) := ⟨by decide +kernel, rfl⟩
theorem e_X9_go_6 : DC cX9_go 6 2 8 (.bipush 12) := ⟨by decide +kernel, rfl⟩
theorem e_X9_go_8 : DJ cX9_go 8 13 11 (.if_icmp .le) := DJ.mk 5 (by decide +kernel) (by decide) rfl
theorem e_X9_go_13 : DC cX9_go 13 1 14 (.aload_n 0) := ⟨by decide +kernel, rfl⟩
theorem e_X9_go_14 : DC cX9_go 14 3 17 (.getfield 16) := ⟨by decide +kernel, rfl⟩
theorem e_X9_go_17 : DC cX9_go 17 3 20 (.getfield 94) := ⟨by decide +kernel, rfl⟩
theorem e_X9_go_20 : DC cX9_go 20 1 21 (.iload_n 1) := ⟨by decide +kernel, rfl⟩
theorem e_X9_go_21 : DC cX9_go 21 1 22 (.iadd) := ⟨by decide +kernel, rfl⟩
theorem e_X9_go_22 : DC cX9_go 22 2 24 (.bipush 99) := ⟨by decide +kernel, rfl⟩
theorem e_X9_go_24 : DJ cX9_go 24 30 27 (.if_icmp .le) := DJ.mk 6 (by decide +kernel) (by decide) rfl
theorem e_X9_go_30 : DC cX9_go 30 1 31 (.iconst 0) := ⟨by decide +kernel, rfl⟩
theorem e_X9_go_31 : DC cX9_go 31 1 32 (.istore_n 2) := ⟨by decide +kernel, rfl⟩
theorem e_X9_peak_44 : DC cX9_peak 44 2 46 (.iload 6) := ⟨by decide +kernel, rfl⟩
theorem e_X9_peak_46 : DC cX9_peak 46 1 47 (.iload_n 3) := ⟨by decide +kernel, rfl⟩
theorem e_X9_peak_47 : DJ cX9_peak 47 85 50 (.if_icmp .ge) := DJ.mk 38 (by decide +kernel) (by decide) rfl
theorem e_X9_peak_85 : DC cX9_peak 85 2 87 (.aload 4) := ⟨by decide +kernel, rfl⟩
theorem e_X9_peak_87 : DC cX9_peak 87 3 90 (.invokevirtual 314) := ⟨by decide +kernel, rfl⟩
theorem cb_X1_isZero : CB yX1_isZero cX1_isZero 1 (some .boolean) 0 := ⟨tb_in 1264 (by decide +kernel) (by decide +kernel), tb_in 4 (by decide +kernel) (by decide +kernel), by decide +kernel⟩
theorem ml_X9_314 : Cond.methodLink RX9 314 yX1_isZero ∈ tb := tb_in 1261 (by decide +kernel) (by decide +kernel)
theorem im_X1_isZero : Cond.instanceMethod yX1_isZero ∈ tb := tb_in 1262 (by decide +kernel) (by decide +kernel)
theorem se_X1_isZero : Cond.selects (yX1_isZero).cls yX1_isZero yX1_isZero ∈ tb := tb_in 1263 (by decide +kernel) (by decide +kernel)
theorem e_X9_peak_90 : DJ cX9_peak 90 97 93 (.ifCond .eq) := DJ.mk 7 (by decide +kernel) (by decide) rfl
theorem e_X9_peak_93 : DC cX9_peak 93 3 96 (.ldc2_w 318) := ⟨by decide +kernel, rfl⟩
theorem kc_X9_318 : Cond.constantLong RX9 318 (-2) ∈ tb := tb_in 1265 (by decide +kernel) (by decide +kernel)
theorem e_X9_peak_96 : DC cX9_peak 96 1 97 (.lreturn) := ⟨by decide +kernel, rfl⟩
theorem e_X9_peak_50 : DC cX9_peak 50 1 51 (.aload_n 2) := ⟨by decide +kernel, rfl⟩
theorem e_X9_peak_51 : DC cX9_peak 51 3 54 (.invokevirtual 100) := ⟨by decide +kernel, rfl⟩
theorem e_X9_peak_54 : DC cX9_peak 54 1 55 (.aload_n 2) := ⟨by decide +kernel, rfl⟩
theorem e_X9_peak_55 : DC cX9_peak 55 3 58 (.getfield 327) := ⟨by decide +kernel, rfl⟩
theorem fl_X9_327 : FL RX9 327 1 5 := ⟨RX2, TX2, 13, rfl, by decide, uw_1, tb_in 235 (by decide +kernel) (by decide +kernel), rfl⟩
theorem e_X9_peak_58 : DC cX9_peak 58 2 60 (.aload 4) := ⟨by decide +kernel, rfl⟩
theorem e_X9_peak_60 : DC cX9_peak 60 3 63 (.invokevirtual 330) := ⟨by decide +kernel, rfl⟩
theorem cb_X1_isAbove : CB yX1_isAbove cX1_isAbove 2 (some .boolean) 1 := ⟨tb_in 1280 (by decide +kernel) (by decide +kernel), tb_in 4 (by decide +kernel) (by decide +kernel), by decide +kernel⟩
theorem ml_X9_330 : Cond.methodLink RX9 330 yX1_isAbove ∈ tb := tb_in 1277 (by decide +kernel) (by decide +kernel)
theorem im_X1_isAbove : Cond.instanceMethod yX1_isAbove ∈ tb := tb_in 1278 (by decide +kernel) (by decide +kernel)
theorem se_X1_isAbove : Cond.selects (yX1_isAbove).cls yX1_isAbove yX1_isAbove ∈ tb := tb_in 1279 (by decide +kernel) (by decide +kernel)
theorem e_X9_peak_63 : DJ cX9_peak 63 79 66 (.ifCond .eq) := DJ.mk 16 (by decide +kernel) (by decide) rfl
theorem e_X9_peak_79 : DC cX9_peak 79 3 82 (.iinc 6 1) := ⟨by decide +kernel, rfl⟩
theorem e_X9_peak_82 : DJ cX9_peak 82 44 85 .goto := DJ.mk (-38) (by decide +kernel) (by decide) rfl
theorem e_X9_peak_0 : DC cX9_peak 0 1 1 (.iload_n 1) := ⟨by decide +kernel, rfl⟩
theorem e_X9_peak_1 : DJ cX9_peak 1 9 4 (.ifCond .lt) := DJ.mk 8 (by decide +kernel) (by decide) rfl
theorem e_X9_peak_9 : DC cX9_peak 9 3 12 (.ldc2_w 149) := ⟨by decide +kernel, rfl⟩
theorem e_X9_peak_12 : DC cX9_peak 12 1 13 (.lreturn) := ⟨by decide +kernel, rfl⟩
theorem e_X9_peak_4 : DC cX9_peak 4 1 5 (.iload_n 1) := ⟨by decide +kernel, rfl⟩
theorem e_X9_peak_5 : DC cX9_peak 5 1 6 (.iconst 1) := ⟨by decide +kernel, rfl⟩
theorem e_X9_peak_6 : DJ cX9_peak 6 13 9 (.if_icmp .le) := DJ.mk 7 (by decide +kernel) (by decide) rfl
theorem e_X9_peak_13 : DC cX9_peak 13 1 14 (.aload_n 0) := ⟨by decide +kernel, rfl⟩
theorem e_X9_peak_14 : DC cX9_peak 14 1 15 (.iconst 0) := ⟨by decide +kernel, rfl⟩
theorem e_X9_peak_15 : DC cX9_peak 15 3 18 (.invokevirtual 271) := ⟨by decide +kernel, rfl⟩
theorem e_X9_peak_18 : DC cX9_peak 18 1 19 (.astore_n 2) := ⟨by decide +kernel, rfl⟩
theorem e_X9_peak_19 : DC cX9_peak 19 1 20 (.aload_n 0) := ⟨by decide +kernel, rfl⟩
theorem e_X9_peak_20 : DC cX9_peak 20 2 22 (.bipush 72) := ⟨by decide +kernel, rfl⟩
theorem e_X9_peak_22 : DC cX9_peak 22 3 25 (.invokevirtual 324) := ⟨by decide +kernel, rfl⟩
theorem e_X9_peak_25 : DC cX9_peak 25 1 26 (.istore_n 3) := ⟨by decide +kernel, rfl⟩
theorem e_X9_peak_26 : DC cX9_peak 26 1 27 (.aload_n 0) := ⟨by decide +kernel, rfl⟩
theorem e_X9_peak_27 : DC cX9_peak 27 3 30 (.getfield 42) := ⟨by decide +kernel, rfl⟩
theorem e_X9_peak_30 : DC cX9_peak 30 2 32 (.astore 4) := ⟨by decide +kernel, rfl⟩
theorem e_X9_peak_32 : DC cX9_peak 32 2 34 (.aload 4) := ⟨by decide +kernel, rfl⟩
theorem e_X9_peak_34 : DC cX9_peak 34 1 35 (.lconst 0) := ⟨by decide +kernel, rfl⟩
theorem e_X9_peak_35 : DC cX9_peak 35 3 38 (.invokevirtual 305) := ⟨by decide +kernel, rfl⟩
theorem ml_X9_305 : Cond.methodLink RX9 305 yX1_set ∈ tb := tb_in 1255 (by decide +kernel) (by decide +kernel)
theorem e_X9_peak_38 : DC cX9_peak 38 1 39 (.iconst 0) := ⟨by decide +kernel, rfl⟩
theorem e_X9_peak_39 : DC cX9_peak 39 2 41 (.istore 5) := ⟨by decide +kernel, rfl⟩
theorem e_X9_peak_41 : DC cX9_peak 41 1 42 (.iconst 0) := ⟨by decide +kernel, rfl⟩
theorem e_X9_peak_42 : DC cX9_peak 42 2 44 (.istore 6) := ⟨by decide +kernel, rfl⟩
theorem e_X9_cash_40 : DC cX9_cash 40 2 42 (.iload 7) := ⟨by decide +kernel, rfl⟩
theorem e_X9_cash_42 : DC cX9_cash 42 2 44 (.iload 4) := ⟨by decide +kernel, rfl⟩
theorem e_X9_cash_44 : DJ cX9_cash 44 75 47 (.if_icmp .ge) := DJ.mk 31 (by decide +kernel) (by decide) rfl
theorem e_X9_cash_75 : DC cX9_cash 75 2 77 (.lload 5) := ⟨by decide +kernel, rfl⟩
theorem e_X9_cash_77 : DC cX9_cash 77 1 78 (.lreturn) := ⟨by decide +kernel, rfl⟩
theorem e_X9_cash_47 : DC cX9_cash 47 1 48 (.aload_n 3) := ⟨by decide +kernel, rfl⟩
theorem e_X9_cash_48 : DC cX9_cash 48 3 51 (.invokevirtual 100) := ⟨by decide +kernel, rfl⟩
theorem e_X9_cash_51 : DC cX9_cash 51 2 53 (.iload 7) := ⟨by decide +kernel, rfl⟩
theorem e_X9_cash_53 : DC cX9_cash 53 1 54 (.iload_n 1) := ⟨by decide +kernel, rfl⟩
theorem e_X9_cash_54 : DJ cX9_cash 54 69 57 (.if_icmp .lt) := DJ.mk 15 (by decide +kernel) (by decide) rfl
theorem e_X9_cash_69 : DC cX9_cash 69 3 72 (.iinc 7 1) := ⟨by decide +kernel, rfl⟩
theorem e_X9_cash_72 : DJ cX9_cash 72 40 75 .goto := DJ.mk (-32) (by decide +kernel) (by decide) rfl
theorem e_X9_cash_57 : DC cX9_cash 57 2 59 (.lload 5) := ⟨by decide +kernel, rfl⟩
theorem e_X9_cash_59 : DC cX9_cash 59 1 60 (.aload_n 3) := ⟨by decide +kernel, rfl⟩
theorem e_X9_cash_60 : DC cX9_cash 60 3 63 (.getfield 327) := ⟨by decide +kernel, rfl⟩
theorem e_X9_cash_63 : DC cX9_cash 63 3 66 (.invokevirtual 157) := ⟨by decide +kernel, rfl⟩
theorem e_X9_cash_66 : DC cX9_cash 66 1 67 (.ladd) := ⟨by decide +kernel, rfl⟩
theorem e_X9_cash_67 : DC cX9_cash 67 2 69 (.lstore 5) := ⟨by decide +kernel, rfl⟩
theorem e_X9_cash_0 : DC cX9_cash 0 1 1 (.iload_n 1) := ⟨by decide +kernel, rfl⟩
theorem e_X9_cash_1 : DJ cX9_cash 1 15 4 (.ifCond .lt) := DJ.mk 14 (by decide +kernel) (by decide) rfl
theorem e_X9_cash_15 : DC cX9_cash 15 3 18 (.ldc2_w 149) := ⟨by decide +kernel, rfl⟩
theorem e_X9_cash_18 : DC cX9_cash 18 1 19 (.lreturn) := ⟨by decide +kernel, rfl⟩
theorem e_X9_cash_4 : DC cX9_cash 4 1 5 (.iload_n 2) := ⟨by decide +kernel, rfl⟩
theorem e_X9_cash_5 : DC cX9_cash 5 2 7 (.bipush 72) := ⟨by decide +kernel, rfl⟩
theorem e_X9_cash_7 : DJ cX9_cash 7 15 10 (.if_icmp .ge) := DJ.mk 8 (by decide +kernel) (by decide) rfl
theorem e_X9_cash_10 : DC cX9_cash 10 1 11 (.iload_n 1) := ⟨by decide +kernel, rfl⟩
theorem e_X9_cash_11 : DC cX9_cash 11 1 12 (.iload_n 2) := ⟨by decide +kernel, rfl⟩
theorem e_X9_cash_12 : DJ cX9_cash 12 19 15 (.if_icmp .le) := DJ.mk 7 (by decide +kernel) (by decide) rfl
theorem e_X9_cash_19 : DC cX9_cash 19 1 20 (.aload_n 0) := ⟨by decide +kernel, rfl⟩
theorem e_X9_cash_20 : DC cX9_cash 20 1 21 (.iconst 0) := ⟨by decide +kernel, rfl⟩
theorem e_X9_cash_21 : DC cX9_cash 21 3 24 (.invokevirtual 271) := ⟨by decide +kernel, rfl⟩
theorem e_X9_cash_24 : DC cX9_cash 24 1 25 (.astore_n 3) := ⟨by decide +kernel, rfl⟩
theorem e_X9_cash_25 : DC cX9_cash 25 1 26 (.aload_n 0) := ⟨by decide +kernel, rfl⟩
theorem e_X9_cash_26 : DC cX9_cash 26 1 27 (.iload_n 2) := ⟨by decide +kernel, rfl⟩
theorem e_X9_cash_27 : DC cX9_cash 27 1 28 (.iconst 1) := ⟨by decide +kernel, rfl⟩
theorem e_X9_cash_28 : DC cX9_cash 28 1 29 (.iadd) := ⟨by decide +kernel, rfl⟩
theorem e_X9_cash_29 : DC cX9_cash 29 3 32 (.invokevirtual 324) := ⟨by decide +kernel, rfl⟩
theorem e_X9_cash_32 : DC cX9_cash 32 2 34 (.istore 4) := ⟨by decide +kernel, rfl⟩
theorem e_X9_cash_34 : DC cX9_cash 34 1 35 (.lconst 0) := ⟨by decide +kernel, rfl⟩
theorem e_X9_cash_35 : DC cX9_cash 35 2 37 (.lstore 5) := ⟨by decide +kernel, rfl⟩
theorem e_X9_cash_37 : DC cX9_cash 37 1 38 (.iconst 0) := ⟨by decide +kernel, rfl⟩
theorem e_X9_cash_38 : DC cX9_cash 38 2 40 (.istore 7) := ⟨by decide +kernel, rfl⟩
theorem e_X9_chance_92 : DC cX9_chance 92 2 94 (.iload 11) := ⟨by decide +kernel, rfl⟩
theorem e_X9_chance_94 : DC cX9_chance 94 1 95 (.iload_n 2) := ⟨by decide +kernel, rfl⟩
theorem e_X9_chance_95 : DJ cX9_chance 95 181 98 (.if_icmp .ge) := DJ.mk 86 (by decide +kernel) (by decide) rfl
theorem e_X9_chance_181 : DC cX9_chance 181 1 182 (.iload_n 3) := ⟨by decide +kernel, rfl⟩
theorem e_X9_chance_182 : decode cX9_chance 182 = .ok (.lookupswitch 35 #[(0, 26), (1, 29)], 26) := by decide +kernel
theorem e_X9_chance_208 : DC cX9_chance 208 2 210 (.lload 9) := ⟨by decide +kernel, rfl⟩
theorem e_X9_chance_210 : DC cX9_chance 210 1 211 (.lreturn) := ⟨by decide +kernel, rfl⟩
theorem e_X9_chance_211 : DC cX9_chance 211 2 213 (.aload 7) := ⟨by decide +kernel, rfl⟩
theorem e_X9_chance_213 : DC cX9_chance 213 3 216 (.invokevirtual 157) := ⟨by decide +kernel, rfl⟩
theorem e_X9_chance_216 : DC cX9_chance 216 1 217 (.lreturn) := ⟨by decide +kernel, rfl⟩
theorem e_X9_chance_217 : DC cX9_chance 217 2 219 (.aload 8) := ⟨by decide +kernel, rfl⟩
theorem e_X9_chance_219 : DC cX9_chance 219 3 222 (.invokevirtual 157) := ⟨by decide +kernel, rfl⟩
theorem e_X9_chance_222 : DC cX9_chance 222 1 223 (.lreturn) := ⟨by decide +kernel, rfl⟩
theorem e_X9_chance_98 : DC cX9_chance 98 1 99 (.aload_n 0) := ⟨by decide +kernel, rfl⟩
theorem e_X9_chance_99 : DC cX9_chance 99 1 100 (.iconst 0) := ⟨by decide +kernel, rfl⟩
theorem e_X9_chance_100 : DC cX9_chance 100 3 103 (.invokevirtual 271) := ⟨by decide +kernel, rfl⟩
theorem e_X9_chance_103 : DC cX9_chance 103 2 105 (.astore 12) := ⟨by decide +kernel, rfl⟩
theorem e_X9_chance_105 : DC cX9_chance 105 2 107 (.aload 12) := ⟨by decide +kernel, rfl⟩
theorem e_X9_chance_107 : DC cX9_chance 107 2 109 (.lload 4) := ⟨by decide +kernel, rfl⟩
theorem e_X9_chance_109 : DC cX9_chance 109 3 112 (.invokevirtual 364) := ⟨by decide +kernel, rfl⟩
theorem cb_X2_yearByChance : CB yX2_yearByChance cX2_yearByChance 7 (some .long) 1 := ⟨tb_in 1342 (by decide +kernel) (by decide +kernel), tb_in 2 (by decide +kernel) (by decide +kernel), by decide +kernel⟩
theorem ml_X9_364 : Cond.methodLink RX9 364 yX2_yearByChance ∈ tb := tb_in 1339 (by decide +kernel) (by decide +kernel)
theorem im_X2_yearByChance : Cond.instanceMethod yX2_yearByChance ∈ tb := tb_in 1340 (by decide +kernel) (by decide +kernel)
theorem se_X2_yearByChance : Cond.selects (yX2_yearByChance).cls yX2_yearByChance yX2_yearByChance ∈ tb := tb_in 1341 (by decide +kernel) (by decide +kernel)
theorem e_X9_chance_112 : DC cX9_chance 112 2 114 (.lstore 4) := ⟨by decide +kernel, rfl⟩
theorem e_X9_chance_114 : DC cX9_chance 114 2 116 (.aload 12) := ⟨by decide +kernel, rfl⟩
theorem e_X9_chance_116 : DC cX9_chance 116 2 118 (.aload 6) := ⟨by decide +kernel, rfl⟩
theorem e_X9_chance_118 : DC cX9_chance 118 3 121 (.invokevirtual 278) := ⟨by decide +kernel, rfl⟩
theorem e_X9_chance_121 : DC cX9_chance 121 2 123 (.lload 9) := ⟨by decide +kernel, rfl⟩
theorem e_X9_chance_123 : DC cX9_chance 123 2 125 (.aload 6) := ⟨by decide +kernel, rfl⟩
theorem e_X9_chance_125 : DC cX9_chance 125 3 128 (.invokevirtual 157) := ⟨by decide +kernel, rfl⟩
theorem e_X9_chance_128 : DC cX9_chance 128 1 129 (.ladd) := ⟨by decide +kernel, rfl⟩
theorem e_X9_chance_129 : DC cX9_chance 129 2 131 (.lstore 9) := ⟨by decide +kernel, rfl⟩
theorem e_X9_chance_131 : DC cX9_chance 131 2 133 (.iload 11) := ⟨by decide +kernel, rfl⟩
theorem e_X9_chance_133 : DJ cX9_chance 133 146 136 (.ifCond .eq) := DJ.mk 13 (by decide +kernel) (by decide) rfl
theorem e_X9_chance_146 : DC cX9_chance 146 2 148 (.aload 7) := ⟨by decide +kernel, rfl⟩
theorem e_X9_chance_148 : DC cX9_chance 148 2 150 (.aload 6) := ⟨by decide +kernel, rfl⟩
theorem e_X9_chance_150 : DC cX9_chance 150 3 153 (.invokevirtual 284) := ⟨by decide +kernel, rfl⟩
theorem cb_X1_copyFrom : CB yX1_copyFrom cX1_copyFrom 2 none 1 := ⟨tb_in 958 (by decide +kernel) (by decide +kernel), tb_in 4 (by decide +kernel) (by decide +kernel), by decide +kernel⟩
theorem ml_X9_284 : Cond.methodLink RX9 284 yX1_copyFrom ∈ tb := tb_in 1234 (by decide +kernel) (by decide +kernel)
theorem im_X1_copyFrom : Cond.instanceMethod yX1_copyFrom ∈ tb := tb_in 956 (by decide +kernel) (by decide +kernel)
theorem se_X1_copyFrom : Cond.selects (yX1_copyFrom).cls yX1_copyFrom yX1_copyFrom ∈ tb := tb_in 957 (by decide +kernel) (by decide +kernel)
theorem e_X9_chance_153 : DC cX9_chance 153 2 155 (.iload 11) := ⟨by decide +kernel, rfl⟩
theorem e_X9_chance_155 : DJ cX9_chance 155 168 158 (.ifCond .eq) := DJ.mk 13 (by decide +kernel) (by decide) rfl
theorem e_X9_chance_168 : DC cX9_chance 168 2 170 (.aload 8) := ⟨by decide +kernel, rfl⟩
theorem e_X9_chance_170 : DC cX9_chance 170 2 172 (.aload 6) := ⟨by decide +kernel, rfl⟩
theorem e_X9_chance_172 : DC cX9_chance 172 3 175 (.invokevirtual 284) := ⟨by decide +kernel, rfl⟩
theorem e_X9_chance_175 : DC cX9_chance 175 3 178 (.iinc 11 1) := ⟨by decide +kernel, rfl⟩
theorem e_X9_chance_178 : DJ cX9_chance 178 92 181 .goto := DJ.mk (-86) (by decide +kernel) (by decide) rfl
theorem e_X9_chance_158 : DC cX9_chance 158 2 160 (.aload 8) := ⟨by decide +kernel, rfl⟩
theorem e_X9_chance_160 : DC cX9_chance 160 2 162 (.aload 6) := ⟨by decide +kernel, rfl⟩
theorem e_X9_chance_162 : DC cX9_chance 162 3 165 (.invokevirtual 330) := ⟨by decide +kernel, rfl⟩
theorem e_X9_chance_165 : DJ cX9_chance 165 175 168 (.ifCond .eq) := DJ.mk 10 (by decide +kernel) (by decide) rfl
theorem e_X9_chance_136 : DC cX9_chance 136 2 138 (.aload 6) := ⟨by decide +kernel, rfl⟩
theorem e_X9_chance_138 : DC cX9_chance 138 2 140 (.aload 7) := ⟨by decide +kernel, rfl⟩
theorem e_X9_chance_140 : DC cX9_chance 140 3 143 (.invokevirtual 330) := ⟨by decide +kernel, rfl⟩
theorem e_X9_chance_143 : DJ cX9_chance 143 153 146 (.ifCond .eq) := DJ.mk 10 (by decide +kernel) (by decide) rfl
theorem e_X9_chance_0 : DC cX9_chance 0 1 1 (.iload_n 1) := ⟨by decide +kernel, rfl⟩
theorem e_X9_chance_1 : DC cX9_chance 1 1 2 (.iconst (-1)) := ⟨by decide +kernel, rfl⟩
theorem e_X9_chance_2 : DJ cX9_chance 2 25 5 (.if_icmp .lt) := DJ.mk 23 (by decide +kernel) (by decide) rfl
theorem e_X9_chance_25 : DC cX9_chance 25 3 28 (.ldc2_w 149) := ⟨by decide +kernel, rfl⟩
theorem e_X9_chance_28 : DC cX9_chance 28 1 29 (.lreturn) := ⟨by decide +kernel, rfl⟩
theorem e_X9_chance_5 : DC cX9_chance 5 1 6 (.iload_n 2) := ⟨by decide +kernel, rfl⟩
theorem e_X9_chance_6 : DC cX9_chance 6 1 7 (.iconst 1) := ⟨by decide +kernel, rfl⟩
theorem e_X9_chance_7 : DJ cX9_chance 7 25 10 (.if_icmp .lt) := DJ.mk 18 (by decide +kernel) (by decide) rfl
theorem e_X9_chance_10 : DC cX9_chance 10 1 11 (.iload_n 2) := ⟨by decide +kernel, rfl⟩
theorem e_X9_chance_11 : DC cX9_chance 11 2 13 (.bipush 10) := ⟨by decide +kernel, rfl⟩
theorem e_X9_chance_13 : DJ cX9_chance 13 25 16 (.if_icmp .gt) := DJ.mk 12 (by decide +kernel) (by decide) rfl
theorem e_X9_chance_16 : DC cX9_chance 16 1 17 (.iload_n 3) := ⟨by decide +kernel, rfl⟩
theorem e_X9_chance_17 : DJ cX9_chance 17 25 20 (.ifCond .lt) := DJ.mk 8 (by decide +kernel) (by decide) rfl
theorem e_X9_chance_20 : DC cX9_chance 20 1 21 (.iload_n 3) := ⟨by decide +kernel, rfl⟩
theorem e_X9_chance_21 : DC cX9_chance 21 1 22 (.iconst 2) := ⟨by decide +kernel, rfl⟩
theorem e_X9_chance_22 : DJ cX9_chance 22 29 25 (.if_icmp .le) := DJ.mk 7 (by decide +kernel) (by decide) rfl
theorem e_X9_chance_29 : DC cX9_chance 29 1 30 (.aload_n 0) := ⟨by decide +kernel, rfl⟩
theorem e_X9_chance_30 : DC cX9_chance 30 3 33 (.getfield 16) := ⟨by decide +kernel, rfl⟩
theorem e_X9_chance_33 : DC cX9_chance 33 3 36 (.getfield 94) := ⟨by decide +kernel, rfl⟩
theorem e_X9_chance_36 : DC cX9_chance 36 2 38 (.bipush 12) := ⟨by decide +kernel, rfl⟩
theorem e_X9_chance_38 : DC cX9_chance 38 1 39 (.iadd) := ⟨by decide +kernel, rfl⟩
theorem e_X9_chance_39 : DC cX9_chance 39 2 41 (.bipush 99) := ⟨by decide +kernel, rfl⟩
theorem e_X9_chance_41 : DJ cX9_chance 41 48 44 (.if_icmp .le) := DJ.mk 7 (by decide +kernel) (by decide) rfl
theorem e_X9_chance_48 : DC cX9_chance 48 1 49 (.iload_n 1) := ⟨by decide +kernel, rfl⟩
theorem e_X9_chance_49 : DC cX9_chance 49 1 50 (.iconst (-1)) := ⟨by decide +kernel, rfl⟩
theorem e_X9_chance_50 : DJ cX9_chance 50 64 53 (.if_icmp .ne) := DJ.mk 14 (by decide +kernel) (by decide) rfl
theorem e_X9_chance_64 : DC cX9_chance 64 1 65 (.iload_n 1) := ⟨by decide +kernel, rfl⟩
theorem e_X9_chance_65 : DC cX9_chance 65 1 66 (.i2l) := ⟨by decide +kernel, rfl⟩
theorem e_X9_chance_66 : DC cX9_chance 66 2 68 (.lstore 4) := ⟨by decide +kernel, rfl⟩
theorem e_X9_chance_68 : DC cX9_chance 68 1 69 (.aload_n 0) := ⟨by decide +kernel, rfl⟩
theorem e_X9_chance_69 : DC cX9_chance 69 3 72 (.getfield 42) := ⟨by decide +kernel, rfl⟩
theorem e_X9_chance_72 : DC cX9_chance 72 2 74 (.astore 6) := ⟨by decide +kernel, rfl⟩
theorem e_X9_chance_74 : DC cX9_chance 74 1 75 (.aload_n 0) := ⟨by decide +kernel, rfl⟩
theorem e_X9_chance_75 : DC cX9_chance 75 3 78 (.getfield 46) := ⟨by decide +kernel, rfl⟩
theorem fl_X9_46 : FL RX9 46 7 11 := ⟨RX9, TX9, 13, rfl, by decide, uw_7, tb_in 341 (by decide +kernel) (by decide +kernel), rfl⟩
theorem e_X9_chance_78 : DC cX9_chance 78 2 80 (.astore 7) := ⟨by decide +kernel, rfl⟩
theorem e_X9_chance_80 : DC cX9_chance 80 1 81 (.aload_n 0) := ⟨by decide +kernel, rfl⟩
theorem e_X9_chance_81 : DC cX9_chance 81 3 84 (.getfield 49) := ⟨by decide +kernel, rfl⟩
theorem fl_X9_49 : FL RX9 49 7 12 := ⟨RX9, TX9, 13, rfl, by decide, uw_7, tb_in 342 (by decide +kernel) (by decide +kernel), rfl⟩
theorem e_X9_chance_84 : DC cX9_chance 84 2 86 (.astore 8) := ⟨by decide +kernel, rfl⟩
theorem e_X9_chance_86 : DC cX9_chance 86 1 87 (.lconst 0) := ⟨by decide +kernel, rfl⟩
theorem e_X9_chance_87 : DC cX9_chance 87 2 89 (.lstore 9) := ⟨by decide +kernel, rfl⟩
theorem e_X9_chance_89 : DC cX9_chance 89 1 90 (.iconst 0) := ⟨by decide +kernel, rfl⟩
theorem e_X9_chance_90 : DC cX9_chance 90 2 92 (.istore 11) := ⟨by decide +kernel, rfl⟩
theorem e_X9_chance_53 : DC cX9_chance 53 1 54 (.aload_n 0) := ⟨by decide +kernel, rfl⟩
theorem e_X9_chance_54 : DC cX9_chance 54 3 57 (.getfield 16) := ⟨by decide +kernel, rfl⟩
theorem e_X9_chance_57 : DC cX9_chance 57 3 60 (.getfield 361) := ⟨by decide +kernel, rfl⟩
theorem fl_X9_361 : FL RX9 361 1 12 := ⟨RX2, TX2, 13, rfl, by decide, uw_1, tb_in 250 (by decide +kernel) (by decide +kernel), rfl⟩
theorem e_X9_chance_60 : DC cX9_chance 60 1 61 (.i2l) := ⟨by decide +kernel, rfl⟩
theorem e_X9_chance_61 : DJ cX9_chance 61 66 64 .goto := DJ.mk 5 (by decide +kernel) (by decide) rfl
theorem e_X9_putOnTape_0 : DC cX9_putOnTape 0 2 2 (.bipush 24) := ⟨by decide +kernel, rfl⟩
theorem e_X9_putOnTape_2 : DC cX9_putOnTape 2 1 3 (.istore_n 2) := ⟨by decide +kernel, rfl⟩
theorem e_X9_putOnTape_3 : DC cX9_putOnTape 3 1 4 (.iload_n 2) := ⟨by decide +kernel, rfl⟩
theorem e_X9_putOnTape_4 : DJ cX9_putOnTape 4 46 7 (.ifCond .lt) := DJ.mk 42 (by decide +kernel) (by decide) rfl
theorem e_X9_putOnTape_7 : DC cX9_putOnTape 7 1 8 (.aload_n 0) := ⟨by decide +kernel, rfl⟩
theorem e_X9_putOnTape_8 : DC cX9_putOnTape 8 3 11 (.getfield 52) := ⟨by decide +kernel, rfl⟩
theorem e_X9_putOnTape_11 : DC cX9_putOnTape 11 3 14 (.sipush 700) := ⟨by decide +kernel, rfl⟩
theorem e_X9_putOnTape_14 : DJ cX9_putOnTape 14 46 17 (.if_icmp .ge) := DJ.mk 32 (by decide +kernel) (by decide) rfl
theorem e_X9_putOnTape_17 : DC cX9_putOnTape 17 1 18 (.aload_n 0) := ⟨by decide +kernel, rfl⟩
theorem e_X9_putOnTape_18 : DC cX9_putOnTape 18 3 21 (.getfield 9) := ⟨by decide +kernel, rfl⟩
theorem e_X9_putOnTape_21 : DC cX9_putOnTape 21 1 22 (.aload_n 0) := ⟨by decide +kernel, rfl⟩
theorem e_X9_putOnTape_22 : DC cX9_putOnTape 22 3 25 (.getfield 52) := ⟨by decide +kernel, rfl⟩
theorem e_X9_putOnTape_25 : DC cX9_putOnTape 25 1 26 (.iload_n 1) := ⟨by decide +kernel, rfl⟩
theorem e_X9_putOnTape_26 : DC cX9_putOnTape 26 1 27 (.iload_n 2) := ⟨by decide +kernel, rfl⟩
theorem e_X9_putOnTape_27 : DC cX9_putOnTape 27 1 28 (.ishr) := ⟨by decide +kernel, rfl⟩
theorem e_X9_putOnTape_28 : DC cX9_putOnTape 28 1 29 (.i2b) := ⟨by decide +kernel, rfl⟩
theorem e_X9_putOnTape_29 : DC cX9_putOnTape 29 1 30 (.bastore) := ⟨by decide +kernel, rfl⟩
theorem e_X9_putOnTape_30 : DC cX9_putOnTape 30 1 31 (.aload_n 0) := ⟨by decide +kernel, rfl⟩
theorem e_X9_putOnTape_31 : DC cX9_putOnTape 31 1 32 (.dup) := ⟨by decide +kernel, rfl⟩
theorem e_X9_putOnTape_32 : DC cX9_putOnTape 32 3 35 (.getfield 52) := ⟨by decide +kernel, rfl⟩
theorem e_X9_putOnTape_35 : DC cX9_putOnTape 35 1 36 (.iconst 1) := ⟨by decide +kernel, rfl⟩
theorem e_X9_putOnTape_36 : DC cX9_putOnTape 36 1 37 (.iadd) := ⟨by decide +kernel, rfl⟩
theorem e_X9_putOnTape_37 : DC cX9_putOnTape 37 3 40 (.putfield 52) := ⟨by decide +kernel, rfl⟩
theorem fp_X9_52 : FP RX9 52 7 1 false .int := ⟨RX9, TX9, 13, tyX9, rfl, by decide, uw_7, tb_in 331 (by decide +kernel) (by decide +kernel), rfl, rfl, by decide +kernel, tyX9_ok, nmX9⟩
theorem e_X9_putOnTape_40 : DC cX9_putOnTape 40 3 43 (.iinc 2 (-8)) := ⟨by decide +kernel, rfl⟩
theorem e_X9_putOnTape_43 : DJ cX9_putOnTape 43 3 46 .goto := DJ.mk (-40) (by decide +kernel) (by decide) rfl
theorem e_X9_putOnTape_46 : DC cX9_putOnTape 46 1 47 (.return_) := ⟨by decide +kernel, rfl⟩
theorem e_X9_feed_0 : DC cX9_feed 0 1 1 (.aload_n 0) := ⟨by decide +kernel, rfl⟩
theorem e_X9_feed_1 : DC cX9_feed 1 3 4 (.getfield 52) := ⟨by decide +kernel, rfl⟩
theorem e_X9_feed_4 : DC cX9_feed 4 2 6 (.bipush 20) := ⟨by decide +kernel, rfl⟩
theorem e_X9_feed_6 : DC cX9_feed 6 1 7 (.iadd) := ⟨by decide +kernel, rfl⟩
theorem e_X9_feed_7 : DC cX9_feed 7 3 10 (.sipush 700) := ⟨by decide +kernel, rfl⟩
theorem e_X9_feed_10 : DJ cX9_feed 10 15 13 (.if_icmp .le) := DJ.mk 5 (by decide +kernel) (by decide) rfl
theorem e_X9_feed_15 : DC cX9_feed 15 1 16 (.aload_n 0) := ⟨by decide +kernel, rfl⟩
theorem e_X9_feed_16 : DC cX9_feed 16 1 17 (.iload_n 1) := ⟨by decide +kernel, rfl⟩
theorem e_X9_feed_17 : DC cX9_feed 17 3 20 (.invokevirtual 56) := ⟨by decide +kernel, rfl⟩
theorem cb_X9_putOnTape : CB yX9_putOnTape cX9_putOnTape 3 none 1 := ⟨tb_in 377 (by decide +kernel) (by decide +kernel), tb_in 1 (by decide +kernel) (by decide +kernel), by decide +kernel⟩
theorem ml_X9_56 : Cond.methodLink RX9 56 yX9_putOnTape ∈ tb := tb_in 374 (by decide +kernel) (by decide +kernel)
theorem im_X9_putOnTape : Cond.instanceMethod yX9_putOnTape ∈ tb := tb_in 376 (by decide +kernel) (by decide +kernel)
theorem se_X9_putOnTape : Cond.selects (yX9_putOnTape).cls yX9_putOnTape yX9_putOnTape ∈ tb := tb_sel 0 (by decide +kernel) (by decide +kernel)
theorem e_X9_feed_20 : DC cX9_feed 20 1 21 (.aload_n 0) := ⟨by decide +kernel, rfl⟩
theorem e_X9_feed_21 : DC cX9_feed 21 1 22 (.iload_n 2) := ⟨by decide +kernel, rfl⟩
theorem e_X9_feed_22 : DC cX9_feed 22 3 25 (.invokevirtual 56) := ⟨by decide +kernel, rfl⟩
theorem e_X9_feed_25 : DC cX9_feed 25 1 26 (.aload_n 0) := ⟨by decide +kernel, rfl⟩
theorem e_X9_feed_26 : DC cX9_feed 26 1 27 (.iload_n 3) := ⟨by decide +kernel, rfl⟩
theorem e_X9_feed_27 : DC cX9_feed 27 3 30 (.invokevirtual 56) := ⟨by decide +kernel, rfl⟩
theorem e_X9_feed_30 : DC cX9_feed 30 1 31 (.aload_n 0) := ⟨by decide +kernel, rfl⟩
theorem e_X9_feed_31 : DC cX9_feed 31 2 33 (.iload 4) := ⟨by decide +kernel, rfl⟩
theorem e_X9_feed_33 : DC cX9_feed 33 3 36 (.invokevirtual 56) := ⟨by decide +kernel, rfl⟩
theorem e_X9_feed_36 : DC cX9_feed 36 1 37 (.aload_n 0) := ⟨by decide +kernel, rfl⟩
theorem e_X9_feed_37 : DC cX9_feed 37 2 39 (.iload 5) := ⟨by decide +kernel, rfl⟩
theorem e_X9_feed_39 : DC cX9_feed 39 3 42 (.invokevirtual 56) := ⟨by decide +kernel, rfl⟩
theorem e_X9_feed_42 : DC cX9_feed 42 1 43 (.aload_n 0) := ⟨by decide +kernel, rfl⟩
theorem e_X9_feed_43 : DC cX9_feed 43 3 46 (.getfield 52) := ⟨by decide +kernel, rfl⟩
theorem e_X9_feed_46 : DC cX9_feed 46 1 47 (.ireturn) := ⟨by decide +kernel, rfl⟩
set_option maxRecDepth 20000 in
theorem lp_Lgo0 {V : VX} {X : MX} {N : Nat} {σ : Mem} {Post : Option Value → Mem → Prop} (F : Fx V X yX9_go cX9_go 3 (some .int) (rmd 4 0 0)) (hQ : Rt V X 0 0 N Post) {b k : Nat} (hk : k ≤ 12) (hp : ∀ τ : Mem, (∀ q : Nat, b + 1457 ≤ q → τ q = σ q) → Post (some (.int (nI k))) τ) : ∀ (n i : Nat) (τ : Mem) , i ≤ k → k - i < n → LG V τ b i i 0 → (∀ q : Nat, b + 1457 ≤ q → τ q = σ q) → Wm V X 3 N τ 0 0 32 [(2, .int (nI i)), (0, .ref b), (1, .int (nI k))] [] := by
  intro n
  induction n with
  | zero => intro i τ  h1 h2; exact absurd h2 (by omega)
  | succ n ih =>
    intro i τ  h1 h2 hL hfr
    obtain ⟨o121, pr121, f1_121, f2_121, f3_121, e1_121, e2_121, ps_121⟩ := hL
    refine m_iload_n F rfl e_X9_go_32 ?_
    refine m_iload_n F rfl e_X9_go_33 ?_
    refine m_icmp_ge F e_X9_go_34 (fun q34 => ?_) (fun q34 => ?_)
    · have c34 : i ≥ k := (nI_leI (a := k) (b := i) (by omega) (by omega)).mp q34
      have hi9 : i = k := by omega
      subst hi9
      refine m_aload_n F rfl e_X9_go_54 ?_
      refine m_get F e_X9_go_55 fl_X9_16 o121 rfl ?_
      refine m_get F e_X9_go_58 fl_X9_94 e1_121.head rfl ?_
      exact m_iret F hQ e_X9_go_61 (hp _ (fun q h1 => (hfr q h1)))
    · have c34 : i < k := by have hh := mt (nI_leI (a := k) (b := i) (by omega) (by omega)).mpr q34; omega
      refine m_aload_n F rfl e_X9_go_37 ?_
      refine m_callV F e_X9_go_38 (k_remember0 (x_l X) V _ _ b i i 0 ⟨o121, pr121, f1_121, f2_121, f3_121, e1_121, e2_121, ps_121⟩ (by omega)) cb_X9_remember ml_X9_97 im_X9_remember se_X9_remember o121 rfl rfl (rest := []) rfl (Nat.le_of_ble_eq_true rfl) ⟨Nat.le_of_ble_eq_true rfl, Nat.le_of_ble_eq_true rfl⟩ ⟨Nat.le_of_ble_eq_true rfl, Nat.le_of_ble_eq_true rfl⟩ (k' := 0) (z' := 0) (N' := N) rfl rfl rfl (fun r τ122 hp => ?_)
      obtain ⟨rfl, lg123, hf124⟩ := hp
      have fr125 : ∀ q : Nat, b + 1457 ≤ q → τ122 q = σ q := fun q h1 => (hf124 q (Or.inl h1)).trans (hfr q h1)
      obtain ⟨o126, pr126, f1_126, f2_126, f3_126, e1_126, e2_126, ps_126⟩ := lg123
      refine m_aload_n F rfl e_X9_go_41 ?_
      refine m_get F e_X9_go_42 fl_X9_16 o126 rfl ?_
      refine m_callV F e_X9_go_45 (k_period0 (x_l X) V _ _ (b + 2) i e1_126 (by omega)) cb_X2_periodGoesBy ml_X9_100 im_X2_periodGoesBy se_X2_periodGoesBy e1_126.head rfl rfl (rest := []) rfl (Nat.le_of_ble_eq_true rfl) ⟨Nat.le_of_ble_eq_true rfl, Nat.le_of_ble_eq_true rfl⟩ ⟨Nat.le_of_ble_eq_true rfl, Nat.le_of_ble_eq_true rfl⟩ (k' := 0) (z' := 0) (N' := N) rfl rfl rfl (fun r τ127 hp => ?_)
      obtain ⟨rfl, eb128, hf129⟩ := hp
      have g130 : τ127 b = some (ob 7 [.ref (b + 1), .int 0, .ref (b + 2), .ref (b + 65), .ref (b + 128), .ref (b + 130), .int 0, .ref (b + 193), .int 0, .int (nI (i + 1)), .ref (b + 194), .ref (b + 195), .ref (b + 196)]) := (hf129 b (by omega)).trans o126
      have g131 : τ127 (b + 193) = some (aR 6 V 20 (pfB b)) := (hf129 (b + 193) (by omega)).trans pr126
      have g132 : τ127 (b + 194) = some (ob 0 [.long 0, .long 0]) := (hf129 (b + 194) (by omega)).trans f1_126
      have g133 : τ127 (b + 195) = some (ob 0 [.long 0, .long 0]) := (hf129 (b + 195) (by omega)).trans f2_126
      have g134 : τ127 (b + 196) = some (ob 0 [.long 0, .long 0]) := (hf129 (b + 196) (by omega)).trans f3_126
      have eb135 : EB V τ127 (b + 65) 0 := e2_126.keep (fun x g1 g2 => (hf129 x (by omega)).trans rfl)
      have pst136 : ∀ j, j < 20 → ∃ pj, EB V τ127 (b + 197 + 63 * j) pj := fun j hj => (ps_126 j hj).elim (fun pj h9 => ⟨pj, h9.keep (fun x g1 g2 => (hf129 x (by omega)).trans rfl)⟩)
      have fr137 : ∀ q : Nat, b + 1457 ≤ q → τ127 q = σ q := fun q h1 => (hf129 q (by omega)).trans (fr125 q h1)
      refine m_iinc F (v := nI (i + 1)) (lv' := [(2, .int (nI (i + 1))), (0, .ref b), (1, .int (nI k))]) e_X9_go_48 rfl (nI_add i 1) (by decide) rfl ?_
      refine m_goto F e_X9_go_51 ?_
      exact ih (i + 1) _ (by omega) (by omega) ⟨g130, g131, g132, g133, g134, eb128, eb135, pst136⟩ (fun q h1 => (fr137 q h1))
set_option maxRecDepth 20000 in
theorem ldg_go (l : Launch) (V : VX) (N : Nat) (σ : Mem) (b : Nat) (x : Int32) (hZ : LLz V σ b) : Ct l V yX9_go cX9_go 3 (some .int) 4 0 0 N σ [.ref b, .int x] (fun r τ => r = some (.int (if x < 1 ∨ 12 < x then -1 else x)) ∧ ∀ q : Nat, b + 1457 ≤ q → τ q = σ q) := by
  refine Ct.of (by decide) (Nat.le_of_ble_eq_true rfl) [(0, .ref b), (1, .int x)] rfl (fun X hX F hQ => ?_)
  obtain ⟨a0, a1, a2, a3, a4, a5, a6, a7, b0, b1, b2, b3⟩ := hZ
  have e1 := b0.eb
  have e2 := b1.eb
  have e3 := b2.eb
  have pst : ∀ j, j < 20 → ∃ pj, EB V σ (b + 197 + 63 * j) pj := fun j hj => ⟨0, (b3 j hj).eb⟩
  refine m_iload_n F rfl e_X9_go_0 ?_
  refine m_iconst F (v := 1) (by decide) e_X9_go_1 ?_
  refine m_icmp_lt F e_X9_go_2 (fun q2 => ?_) (fun q2 => ?_)
  · refine m_iconst F (v := (-1)) (by decide) e_X9_go_11 ?_
    exact m_iret F hQ e_X9_go_12 (⟨by rw [if_pos (Or.inl q2)], fun q h1 => rfl⟩)
  · refine m_iload_n F rfl e_X9_go_5 ?_
    refine m_bipush F (v := 12) (by decide) e_X9_go_6 ?_
    refine m_icmp_le F e_X9_go_8 (fun q8 => ?_) (fun q8 => ?_)
    · obtain ⟨k, hk1, hk, ek⟩ := rng1 (x := x) (M := 12) (n := 12) (by decide) q2 q8
      subst ek
      refine m_aload_n F rfl e_X9_go_13 ?_
      refine m_get F e_X9_go_14 fl_X9_16 a0 rfl ?_
      refine m_get F e_X9_go_17 fl_X9_94 e1.head rfl ?_
      refine m_iload_n F rfl e_X9_go_20 ?_
      refine m_iadd F e_X9_go_21 ?_
      refine Wm.topE (w := nI (0 + k)) (nI_add 0 k) ?_
      refine m_bipush F (v := 99) (by decide) e_X9_go_22 ?_
      refine m_icmp_le F e_X9_go_24 (fun q24 => ?_) (fun q24 => ?_)
      · have c24 : (0 + k) ≤ 99 := (nI_leI (a := (0 + k)) (b := 99) (by omega) (by omega)).mp q24
        refine m_iconst F (v := 0) (by decide) e_X9_go_30 ?_
        refine m_istore_n F (lv' := [(2, .int 0), (0, .ref b), (1, .int (nI k))]) e_X9_go_31 (by decide) rfl ?_
        exact lp_Lgo0 F hQ hk (fun τ h9 => ⟨by rw [if_neg (fun h => h.elim q2 (fun h => absurd q8 (Int32.not_le.mpr h)))], h9⟩) (k + 1) 0 _ (by omega) (by omega) ⟨a0, a4, a5, a6, a7, e1, e2, pst⟩ (fun q h1 => rfl)
      · have c24 : (0 + k) > 99 := by have hh := mt (nI_leI (a := (0 + k)) (b := 99) (by omega) (by omega)).mpr q24; omega
        exfalso; omega
    · refine m_iconst F (v := (-1)) (by decide) e_X9_go_11 ?_
      exact m_iret F hQ e_X9_go_12 (⟨by rw [if_pos (Or.inr (Int32.not_le.mp q8))], fun q h1 => rfl⟩)
set_option maxRecDepth 20000 in
theorem lp_Lpeak0 {V : VX} {X : MX} {N : Nat} {σ : Mem} {Post : Option Value → Mem → Prop} (F : Fx V X yX9_peak cX9_peak 7 (some .long) (rmd 4 0 0)) (hQ : Rt V X 0 0 N Post) {b : Nat} {x : Int32} (hp : ∀ τ : Mem, (∀ q : Nat, b + 1457 ≤ q → τ q = σ q) → Post (some (.long (-2))) τ) : ∀ (n i : Nat) (τ : Mem) , i ≤ 72 → 72 - i < n → LG V τ b 0 0 i → (∀ q : Nat, b + 1457 ≤ q → τ q = σ q) → Wm V X 7 N τ 0 0 44 [(6, .int (nI i)), (0, .ref b), (1, .int x), (2, .ref (b + 65)), (3, .int (nI 72)), (4, .ref (b + 194)), (5, .int 0)] [] := by
  intro n
  induction n with
  | zero => intro i τ  h1 h2; exact absurd h2 (by omega)
  | succ n ih =>
    intro i τ  h1 h2 hL hfr
    obtain ⟨o138, pr138, f1_138, f2_138, f3_138, e1_138, e2_138, ps_138⟩ := hL
    refine m_iload F rfl e_X9_peak_44 ?_
    refine m_iload_n F rfl e_X9_peak_46 ?_
    refine m_icmp_ge F e_X9_peak_47 (fun q47 => ?_) (fun q47 => ?_)
    · have c47 : i ≥ 72 := (nI_leI (a := 72) (b := i) (by omega) (by omega)).mp q47
      have hi9 : i = 72 := by omega
      subst hi9
      refine m_aload F rfl e_X9_peak_85 ?_
      refine m_callV F e_X9_peak_87 (k_isZero0 (x_l X) V _ _ (b + 194) f1_138) cb_X1_isZero ml_X9_314 im_X1_isZero se_X1_isZero f1_138 rfl rfl (rest := []) rfl (Nat.le_of_ble_eq_true rfl) ⟨Nat.le_of_ble_eq_true rfl, Nat.le_of_ble_eq_true rfl⟩ ⟨Nat.le_of_ble_eq_true rfl, Nat.le_of_ble_eq_true rfl⟩ (k' := 0) (z' := 0) (N' := N) rfl rfl rfl (fun r τ hp => ?_)
      obtain ⟨rfl, hτ⟩ := hp
      rw [hτ]
      clear hτ
      refine m_if_eq F e_X9_peak_90 (fun q => absurd q (by decide)) (fun _ => ?_)
      refine m_ldc2 F kc_X9_318 e_X9_peak_93 ?_
      exact m_lret F hQ e_X9_peak_96 (hp _ (fun q h1 => (hfr q h1)))
    · have c47 : i < 72 := by have hh := mt (nI_leI (a := 72) (b := i) (by omega) (by omega)).mpr q47; omega
      refine m_aload_n F rfl e_X9_peak_50 ?_
      refine m_callV F e_X9_peak_51 (k_period0 (x_l X) V _ _ (b + 65) i e2_138 (by omega)) cb_X2_periodGoesBy ml_X9_100 im_X2_periodGoesBy se_X2_periodGoesBy e2_138.head rfl rfl (rest := []) rfl (Nat.le_of_ble_eq_true rfl) ⟨Nat.le_of_ble_eq_true rfl, Nat.le_of_ble_eq_true rfl⟩ ⟨Nat.le_of_ble_eq_true rfl, Nat.le_of_ble_eq_true rfl⟩ (k' := 0) (z' := 0) (N' := N) rfl rfl rfl (fun r τ139 hp => ?_)
      obtain ⟨rfl, eb140, hf141⟩ := hp
      have g142 : τ139 b = some (ob 7 [.ref (b + 1), .int 0, .ref (b + 2), .ref (b + 65), .ref (b + 128), .ref (b + 130), .int 0, .ref (b + 193), .int 0, .int (nI 0), .ref (b + 194), .ref (b + 195), .ref (b + 196)]) := (hf141 b (by omega)).trans o138
      have g143 : τ139 (b + 193) = some (aR 6 V 20 (pfB b)) := (hf141 (b + 193) (by omega)).trans pr138
      have g144 : τ139 (b + 194) = some (ob 0 [.long 0, .long 0]) := (hf141 (b + 194) (by omega)).trans f1_138
      have g145 : τ139 (b + 195) = some (ob 0 [.long 0, .long 0]) := (hf141 (b + 195) (by omega)).trans f2_138
      have g146 : τ139 (b + 196) = some (ob 0 [.long 0, .long 0]) := (hf141 (b + 196) (by omega)).trans f3_138
      have eb147 : EB V τ139 (b + 2) 0 := e1_138.keep (fun x g1 g2 => (hf141 x (by omega)).trans rfl)
      have pst148 : ∀ j, j < 20 → ∃ pj, EB V τ139 (b + 197 + 63 * j) pj := fun j hj => (ps_138 j hj).elim (fun pj h9 => ⟨pj, h9.keep (fun x g1 g2 => (hf141 x (by omega)).trans rfl)⟩)
      have fr149 : ∀ q : Nat, b + 1457 ≤ q → τ139 q = σ q := fun q h1 => (hf141 q (by omega)).trans (hfr q h1)
      refine m_aload_n F rfl e_X9_peak_54 ?_
      refine m_get F e_X9_peak_55 fl_X9_327 eb140.head rfl ?_
      refine m_aload F rfl e_X9_peak_58 ?_
      refine m_callV F e_X9_peak_60 (k_isAbove0 (x_l X) V _ _ (b + 73) (b + 194) eb140.paid g144) cb_X1_isAbove ml_X9_330 im_X1_isAbove se_X1_isAbove eb140.paid rfl rfl (rest := []) rfl (Nat.le_of_ble_eq_true rfl) ⟨Nat.le_of_ble_eq_true rfl, Nat.le_of_ble_eq_true rfl⟩ ⟨Nat.le_of_ble_eq_true rfl, Nat.le_of_ble_eq_true rfl⟩ (k' := 0) (z' := 0) (N' := N) rfl rfl rfl (fun r τ hp => ?_)
      obtain ⟨rfl, hτ⟩ := hp
      rw [hτ]
      clear hτ
      refine m_if_eq F e_X9_peak_63 (fun _ => ?_) (fun q => absurd (by decide) q)
      refine m_iinc F (v := nI (i + 1)) (lv' := [(6, .int (nI (i + 1))), (0, .ref b), (1, .int x), (2, .ref (b + 65)), (3, .int (nI 72)), (4, .ref (b + 194)), (5, .int 0)]) e_X9_peak_79 rfl (nI_add i 1) (by decide) rfl ?_
      refine m_goto F e_X9_peak_82 ?_
      exact ih (i + 1) _ (by omega) (by omega) ⟨g142, g143, g144, g145, g146, eb147, eb140, pst148⟩ (fun q h1 => (fr149 q h1))
set_option maxRecDepth 20000 in
theorem ldg_peak (l : Launch) (V : VX) (N : Nat) (σ : Mem) (b : Nat) (x : Int32) (hZ : LLz V σ b) : Ct l V yX9_peak cX9_peak 7 (some .long) 4 0 0 N σ [.ref b, .int x] (fun r τ => r = some (.long (if x < 0 ∨ 1 < x then -1 else -2)) ∧ ∀ q : Nat, b + 1457 ≤ q → τ q = σ q) := by
  refine Ct.of (by decide) (Nat.le_of_ble_eq_true rfl) [(0, .ref b), (1, .int x)] rfl (fun X hX F hQ => ?_)
  obtain ⟨a0, a1, a2, a3, a4, a5, a6, a7, b0, b1, b2, b3⟩ := hZ
  have e1 := b0.eb
  have e2 := b1.eb
  have e3 := b2.eb
  have pst : ∀ j, j < 20 → ∃ pj, EB V σ (b + 197 + 63 * j) pj := fun j hj => ⟨0, (b3 j hj).eb⟩
  refine m_iload_n F rfl e_X9_peak_0 ?_
  refine m_if_lt F e_X9_peak_1 (fun q1 => ?_) (fun q1 => ?_)
  · refine m_ldc2 F kc_X9_149 e_X9_peak_9 ?_
    exact m_lret F hQ e_X9_peak_12 (⟨by rw [if_pos (Or.inl q1)], fun q h1 => rfl⟩)
  · refine m_iload_n F rfl e_X9_peak_4 ?_
    refine m_iconst F (v := 1) (by decide) e_X9_peak_5 ?_
    refine m_icmp_le F e_X9_peak_6 (fun q6 => ?_) (fun q6 => ?_)
    · refine m_aload_n F rfl e_X9_peak_13 ?_
      refine m_iconst F (v := 0) (by decide) e_X9_peak_14 ?_
      refine m_callV F e_X9_peak_15 (k_bookIn0 (x_l X) V _ _ b 0 0 0 0 ⟨a0, a4, a5, a6, a7, e1, e2, pst⟩ (by omega)) cb_X9_bookIn ml_X9_271 im_X9_bookIn se_X9_bookIn a0 rfl rfl (rest := []) rfl (Nat.le_of_ble_eq_true rfl) ⟨Nat.le_of_ble_eq_true rfl, Nat.le_of_ble_eq_true rfl⟩ ⟨Nat.le_of_ble_eq_true rfl, Nat.le_of_ble_eq_true rfl⟩ (k' := 0) (z' := 0) (N' := N) rfl rfl rfl (fun r τ150 hp => ?_)
      obtain ⟨rfl, lg151, hf152⟩ := hp
      have fr153 : ∀ q : Nat, b + 1457 ≤ q → τ150 q = σ q := fun q h1 => (hf152 q h1).trans rfl
      obtain ⟨o154, pr154, f1_154, f2_154, f3_154, e1_154, e2_154, ps_154⟩ := lg151
      refine m_astore_n F (lv' := [(2, .ref (b + 65)), (0, .ref b), (1, .int x)]) e_X9_peak_18 (by decide) rfl ?_
      refine m_aload_n F rfl e_X9_peak_19 ?_
      refine m_bipush F (v := 72) (by decide) e_X9_peak_20 ?_
      refine m_callV F e_X9_peak_22 (k_coming0 (x_l X) V _ _ b 0 0 0 72 ⟨o154, pr154, f1_154, f2_154, f3_154, e1_154, e2_154, ps_154⟩ (by omega)) cb_X9_coming ml_X9_324 im_X9_coming se_X9_coming o154 rfl rfl (rest := []) rfl (Nat.le_of_ble_eq_true rfl) ⟨Nat.le_of_ble_eq_true rfl, Nat.le_of_ble_eq_true rfl⟩ ⟨Nat.le_of_ble_eq_true rfl, Nat.le_of_ble_eq_true rfl⟩ (k' := 0) (z' := 0) (N' := N) rfl rfl rfl (fun r τ hp => ?_)
      obtain ⟨rfl, hτ⟩ := hp
      rw [hτ]
      clear hτ
      refine m_istore_n F (lv' := [(3, .int (nI 72)), (2, .ref (b + 65)), (0, .ref b), (1, .int x)]) e_X9_peak_25 (by decide) rfl ?_
      refine m_aload_n F rfl e_X9_peak_26 ?_
      refine m_get F e_X9_peak_27 fl_X9_42 o154 rfl ?_
      refine m_astore F (lv' := [(4, .ref (b + 194)), (3, .int (nI 72)), (2, .ref (b + 65)), (0, .ref b), (1, .int x)]) e_X9_peak_30 (by decide) rfl ?_
      refine m_aload F rfl e_X9_peak_32 ?_
      refine m_lconst F (v := 0) (by decide) e_X9_peak_34 ?_
      refine m_callV F e_X9_peak_35 (k_set0 (x_l X) V _ _ (b + 194) 0 0 f1_154) cb_X1_set ml_X9_305 im_X1_set se_X1_set f1_154 rfl rfl (rest := []) rfl (Nat.le_of_ble_eq_true rfl) ⟨Nat.le_of_ble_eq_true rfl, Nat.le_of_ble_eq_true rfl⟩ ⟨Nat.le_of_ble_eq_true rfl, Nat.le_of_ble_eq_true rfl⟩ (k' := 0) (z' := 0) (N' := N) rfl rfl rfl (fun r τ hp => ?_)
      obtain ⟨rfl, rfl⟩ := hp
      refine m_iconst F (v := 0) (by decide) e_X9_peak_38 ?_
      refine m_istore F (lv' := [(5, .int 0), (4, .ref (b + 194)), (3, .int (nI 72)), (2, .ref (b + 65)), (0, .ref b), (1, .int x)]) e_X9_peak_39 (by decide) rfl ?_
      refine m_iconst F (v := 0) (by decide) e_X9_peak_41 ?_
      refine m_istore F (lv' := [(6, .int 0), (5, .int 0), (4, .ref (b + 194)), (3, .int (nI 72)), (2, .ref (b + 65)), (0, .ref b), (1, .int x)]) e_X9_peak_42 (by decide) rfl ?_
      refine Wm.lvsub (lv' := [(6, .int 0), (0, .ref b), (1, .int x), (2, .ref (b + 65)), (3, .int (nI 72)), (4, .ref (b + 194)), (5, .int 0)]) ?_ [0, 5, 6, 4, 3, 2, 1] rfl
      exact lp_Lpeak0 F hQ (fun τ h9 => ⟨by rw [if_neg (fun h => h.elim q1 (fun h => absurd q6 (Int32.not_le.mpr h)))], h9⟩) 73 0 _ (by omega) (by omega) ⟨(ru_ne (by omega) o154), (ru_ne (by omega) pr154), ru_eq, (ru_ne (by omega) f2_154), (ru_ne (by omega) f3_154), e1_154.keep (fun x g1 g2 => (ru_ne (by omega) rfl)), e2_154.keep (fun x g1 g2 => (ru_ne (by omega) rfl)), (fun j hj => (ps_154 j hj).elim (fun pj h9 => ⟨pj, h9.keep (fun x g1 g2 => (ru_ne (by omega) rfl))⟩))⟩ (fun q h1 => (ru_ne (by omega) (fr153 q h1)))
    · refine m_ldc2 F kc_X9_149 e_X9_peak_9 ?_
      exact m_lret F hQ e_X9_peak_12 (⟨by rw [if_pos (Or.inr (Int32.not_le.mp q6))], fun q h1 => rfl⟩)
set_option maxRecDepth 20000 in
theorem lp_Lcash0 {V : VX} {X : MX} {N : Nat} {σ : Mem} {Post : Option Value → Mem → Prop} (F : Fx V X yX9_cash cX9_cash 8 (some .long) (rmd 4 0 0)) (hQ : Rt V X 0 0 N Post) {b u v : Nat} (hu : u ≤ 71) (hv : v ≤ 71) (hp : ∀ τ : Mem, (∀ q : Nat, b + 1457 ≤ q → τ q = σ q) → Post (some (.long 0)) τ) : ∀ (n i : Nat) (τ : Mem) , i ≤ v + 1 → v + 1 - i < n → LG V τ b 0 0 i → (∀ q : Nat, b + 1457 ≤ q → τ q = σ q) → Wm V X 8 N τ 0 0 40 [(7, .int (nI i)), (0, .ref b), (1, .int (nI u)), (2, .int (nI v)), (3, .ref (b + 65)), (4, .int (nI (v + 1))), (5, .long 0)] [] := by
  intro n
  induction n with
  | zero => intro i τ  h1 h2; exact absurd h2 (by omega)
  | succ n ih =>
    intro i τ  h1 h2 hL hfr
    obtain ⟨o155, pr155, f1_155, f2_155, f3_155, e1_155, e2_155, ps_155⟩ := hL
    refine m_iload F rfl e_X9_cash_40 ?_
    refine m_iload F rfl e_X9_cash_42 ?_
    refine m_icmp_ge F e_X9_cash_44 (fun q44 => ?_) (fun q44 => ?_)
    · have c44 : i ≥ (v + 1) := (nI_leI (a := (v + 1)) (b := i) (by omega) (by omega)).mp q44
      refine m_lload F rfl e_X9_cash_75 ?_
      exact m_lret F hQ e_X9_cash_77 (hp _ (fun q h1 => (hfr q h1)))
    · have c44 : i < (v + 1) := by have hh := mt (nI_leI (a := (v + 1)) (b := i) (by omega) (by omega)).mpr q44; omega
      refine m_aload_n F rfl e_X9_cash_47 ?_
      refine m_callV F e_X9_cash_48 (k_period0 (x_l X) V _ _ (b + 65) i e2_155 (by omega)) cb_X2_periodGoesBy ml_X9_100 im_X2_periodGoesBy se_X2_periodGoesBy e2_155.head rfl rfl (rest := []) rfl (Nat.le_of_ble_eq_true rfl) ⟨Nat.le_of_ble_eq_true rfl, Nat.le_of_ble_eq_true rfl⟩ ⟨Nat.le_of_ble_eq_true rfl, Nat.le_of_ble_eq_true rfl⟩ (k' := 0) (z' := 0) (N' := N) rfl rfl rfl (fun r τ156 hp => ?_)
      obtain ⟨rfl, eb157, hf158⟩ := hp
      have g159 : τ156 b = some (ob 7 [.ref (b + 1), .int 0, .ref (b + 2), .ref (b + 65), .ref (b + 128), .ref (b + 130), .int 0, .ref (b + 193), .int 0, .int (nI 0), .ref (b + 194), .ref (b + 195), .ref (b + 196)]) := (hf158 b (by omega)).trans o155
      have g160 : τ156 (b + 193) = some (aR 6 V 20 (pfB b)) := (hf158 (b + 193) (by omega)).trans pr155
      have g161 : τ156 (b + 194) = some (ob 0 [.long 0, .long 0]) := (hf158 (b + 194) (by omega)).trans f1_155
      have g162 : τ156 (b + 195) = some (ob 0 [.long 0, .long 0]) := (hf158 (b + 195) (by omega)).trans f2_155
      have g163 : τ156 (b + 196) = some (ob 0 [.long 0, .long 0]) := (hf158 (b + 196) (by omega)).trans f3_155
      have eb164 : EB V τ156 (b + 2) 0 := e1_155.keep (fun x g1 g2 => (hf158 x (by omega)).trans rfl)
      have pst165 : ∀ j, j < 20 → ∃ pj, EB V τ156 (b + 197 + 63 * j) pj := fun j hj => (ps_155 j hj).elim (fun pj h9 => ⟨pj, h9.keep (fun x g1 g2 => (hf158 x (by omega)).trans rfl)⟩)
      have fr166 : ∀ q : Nat, b + 1457 ≤ q → τ156 q = σ q := fun q h1 => (hf158 q (by omega)).trans (hfr q h1)
      refine m_iload F rfl e_X9_cash_51 ?_
      refine m_iload_n F rfl e_X9_cash_53 ?_
      refine m_icmp_lt F e_X9_cash_54 (fun q54 => ?_) (fun q54 => ?_)
      · have c54 : i < u := (nI_ltI (a := i) (b := u) (by omega) (by omega)).mp q54
        refine m_iinc F (v := nI (i + 1)) (lv' := [(7, .int (nI (i + 1))), (0, .ref b), (1, .int (nI u)), (2, .int (nI v)), (3, .ref (b + 65)), (4, .int (nI (v + 1))), (5, .long 0)]) e_X9_cash_69 rfl (nI_add i 1) (by decide) rfl ?_
        refine m_goto F e_X9_cash_72 ?_
        exact ih (i + 1) _ (by omega) (by omega) ⟨g159, g160, g161, g162, g163, eb164, eb157, pst165⟩ (fun q h1 => (fr166 q h1))
      · have c54 : i ≥ u := by have hh := mt (nI_ltI (a := i) (b := u) (by omega) (by omega)).mpr q54; omega
        refine m_lload F rfl e_X9_cash_57 ?_
        refine m_aload_n F rfl e_X9_cash_59 ?_
        refine m_get F e_X9_cash_60 fl_X9_327 eb157.head rfl ?_
        refine m_callV F e_X9_cash_63 (k_asLong0 (x_l X) V _ _ (b + 73) eb157.paid) cb_X1_asLong ml_X9_157 im_X1_asLong se_X1_asLong eb157.paid rfl rfl (rest := [.long 0]) rfl (Nat.le_of_ble_eq_true rfl) ⟨Nat.le_of_ble_eq_true rfl, Nat.le_of_ble_eq_true rfl⟩ ⟨Nat.le_of_ble_eq_true rfl, Nat.le_of_ble_eq_true rfl⟩ (k' := 0) (z' := 0) (N' := N) rfl rfl rfl (fun r τ hp => ?_)
        obtain ⟨rfl, hτ⟩ := hp
        rw [hτ]
        clear hτ
        refine m_ladd F e_X9_cash_66 ?_
        refine Wm.toplE (w := 0) (by decide) ?_
        refine m_lstore F (lv' := [(5, .long 0), (7, .int (nI i)), (0, .ref b), (1, .int (nI u)), (2, .int (nI v)), (3, .ref (b + 65)), (4, .int (nI (v + 1)))]) e_X9_cash_67 (by decide) rfl ?_
        refine m_iinc F (v := nI (i + 1)) (lv' := [(7, .int (nI (i + 1))), (5, .long 0), (0, .ref b), (1, .int (nI u)), (2, .int (nI v)), (3, .ref (b + 65)), (4, .int (nI (v + 1)))]) e_X9_cash_69 rfl (nI_add i 1) (by decide) rfl ?_
        refine m_goto F e_X9_cash_72 ?_
        refine Wm.lvsub (lv' := [(7, .int (nI (i + 1))), (0, .ref b), (1, .int (nI u)), (2, .int (nI v)), (3, .ref (b + 65)), (4, .int (nI (v + 1))), (5, .long 0)]) ?_ [0, 2, 3, 4, 5, 6, 1] rfl
        exact ih (i + 1) _ (by omega) (by omega) ⟨g159, g160, g161, g162, g163, eb164, eb157, pst165⟩ (fun q h1 => (fr166 q h1))
set_option maxRecDepth 20000 in
theorem ldg_cash (l : Launch) (V : VX) (N : Nat) (σ : Mem) (b : Nat) (x y : Int32) (hZ : LLz V σ b) : Ct l V yX9_cash cX9_cash 8 (some .long) 4 0 0 N σ [.ref b, .int x, .int y] (fun r τ => r = some (.long (if x < 0 ∨ 71 < y ∨ y < x then -1 else 0)) ∧ ∀ q : Nat, b + 1457 ≤ q → τ q = σ q) := by
  refine Ct.of (by decide) (Nat.le_of_ble_eq_true rfl) [(0, .ref b), (1, .int x), (2, .int y)] rfl (fun X hX F hQ => ?_)
  obtain ⟨a0, a1, a2, a3, a4, a5, a6, a7, b0, b1, b2, b3⟩ := hZ
  have e1 := b0.eb
  have e2 := b1.eb
  have e3 := b2.eb
  have pst : ∀ j, j < 20 → ∃ pj, EB V σ (b + 197 + 63 * j) pj := fun j hj => ⟨0, (b3 j hj).eb⟩
  refine m_iload_n F rfl e_X9_cash_0 ?_
  refine m_if_lt F e_X9_cash_1 (fun q1 => ?_) (fun q1 => ?_)
  · refine m_ldc2 F kc_X9_149 e_X9_cash_15 ?_
    exact m_lret F hQ e_X9_cash_18 (⟨by rw [if_pos (Or.inl q1)], fun q h1 => rfl⟩)
  · refine m_iload_n F rfl e_X9_cash_4 ?_
    refine m_bipush F (v := 72) (by decide) e_X9_cash_5 ?_
    refine m_icmp_ge F e_X9_cash_7 (fun q7 => ?_) (fun q7 => ?_)
    · refine m_ldc2 F kc_X9_149 e_X9_cash_15 ?_
      exact m_lret F hQ e_X9_cash_18 (⟨by rw [if_pos (Or.inr (Or.inl (le72.mp q7)))], fun q h1 => rfl⟩)
    · refine m_iload_n F rfl e_X9_cash_10 ?_
      refine m_iload_n F rfl e_X9_cash_11 ?_
      refine m_icmp_le F e_X9_cash_12 (fun q12 => ?_) (fun q12 => ?_)
      · have hy0 : ¬ y < 0 := fun h => q1 (Int32.lt_of_le_of_lt q12 h)
        have hy71 : y ≤ 71 := Int32.not_lt.mp (fun h => q7 (le72.mpr h))
        obtain ⟨v, hv, ev⟩ := nI_of2 (x := y) (M := 71) (n := 71) (by decide) hy0 hy71
        obtain ⟨u, hu, eu⟩ := nI_of2 (x := x) (M := 71) (n := 71) (by decide) q1 (Int32.le_trans q12 hy71)
        subst ev; subst eu
        refine m_aload_n F rfl e_X9_cash_19 ?_
        refine m_iconst F (v := 0) (by decide) e_X9_cash_20 ?_
        refine m_callV F e_X9_cash_21 (k_bookIn0 (x_l X) V _ _ b 0 0 0 0 ⟨a0, a4, a5, a6, a7, e1, e2, pst⟩ (by omega)) cb_X9_bookIn ml_X9_271 im_X9_bookIn se_X9_bookIn a0 rfl rfl (rest := []) rfl (Nat.le_of_ble_eq_true rfl) ⟨Nat.le_of_ble_eq_true rfl, Nat.le_of_ble_eq_true rfl⟩ ⟨Nat.le_of_ble_eq_true rfl, Nat.le_of_ble_eq_true rfl⟩ (k' := 0) (z' := 0) (N' := N) rfl rfl rfl (fun r τ167 hp => ?_)
        obtain ⟨rfl, lg168, hf169⟩ := hp
        have fr170 : ∀ q : Nat, b + 1457 ≤ q → τ167 q = σ q := fun q h1 => (hf169 q h1).trans rfl
        obtain ⟨o171, pr171, f1_171, f2_171, f3_171, e1_171, e2_171, ps_171⟩ := lg168
        refine m_astore_n F (lv' := [(3, .ref (b + 65)), (0, .ref b), (1, .int (nI u)), (2, .int (nI v))]) e_X9_cash_24 (by decide) rfl ?_
        refine m_aload_n F rfl e_X9_cash_25 ?_
        refine m_iload_n F rfl e_X9_cash_26 ?_
        refine m_iconst F (v := 1) (by decide) e_X9_cash_27 ?_
        refine m_iadd F e_X9_cash_28 ?_
        refine Wm.topE (w := nI (v + 1)) (nI_add v 1) ?_
        refine m_callV F e_X9_cash_29 (k_coming0 (x_l X) V _ _ b 0 0 0 (v + 1) ⟨o171, pr171, f1_171, f2_171, f3_171, e1_171, e2_171, ps_171⟩ (by omega)) cb_X9_coming ml_X9_324 im_X9_coming se_X9_coming o171 rfl rfl (rest := []) rfl (Nat.le_of_ble_eq_true rfl) ⟨Nat.le_of_ble_eq_true rfl, Nat.le_of_ble_eq_true rfl⟩ ⟨Nat.le_of_ble_eq_true rfl, Nat.le_of_ble_eq_true rfl⟩ (k' := 0) (z' := 0) (N' := N) rfl rfl rfl (fun r τ hp => ?_)
        obtain ⟨rfl, hτ⟩ := hp
        rw [hτ]
        clear hτ
        refine m_istore F (lv' := [(4, .int (nI (v + 1))), (3, .ref (b + 65)), (0, .ref b), (1, .int (nI u)), (2, .int (nI v))]) e_X9_cash_32 (by decide) rfl ?_
        refine m_lconst F (v := 0) (by decide) e_X9_cash_34 ?_
        refine m_lstore F (lv' := [(5, .long 0), (4, .int (nI (v + 1))), (3, .ref (b + 65)), (0, .ref b), (1, .int (nI u)), (2, .int (nI v))]) e_X9_cash_35 (by decide) rfl ?_
        refine m_iconst F (v := 0) (by decide) e_X9_cash_37 ?_
        refine m_istore F (lv' := [(7, .int 0), (5, .long 0), (4, .int (nI (v + 1))), (3, .ref (b + 65)), (0, .ref b), (1, .int (nI u)), (2, .int (nI v))]) e_X9_cash_38 (by decide) rfl ?_
        refine Wm.lvsub (lv' := [(7, .int 0), (0, .ref b), (1, .int (nI u)), (2, .int (nI v)), (3, .ref (b + 65)), (4, .int (nI (v + 1))), (5, .long 0)]) ?_ [0, 4, 5, 6, 3, 2, 1] rfl
        exact lp_Lcash0 F hQ hu hv (fun τ h9 => ⟨by rw [if_neg (fun h => h.elim q1 (fun h => h.elim (fun h => q7 (le72.mpr h)) (fun h => absurd q12 (Int32.not_le.mpr h))))], h9⟩) (v + 2) 0 _ (by omega) (by omega) ⟨o171, pr171, f1_171, f2_171, f3_171, e1_171, e2_171, ps_171⟩ (fun q h1 => (fr170 q h1))
      · refine m_ldc2 F kc_X9_149 e_X9_cash_15 ?_
        exact m_lret F hQ e_X9_cash_18 (⟨by rw [if_pos (Or.inr (Or.inr (Int32.not_le.mp q12)))], fun q h1 => rfl⟩)
set_option maxRecDepth 20000 in
theorem lp_Lchance0 {V : VX} {X : MX} {N : Nat} {σ : Mem} {Post : Option Value → Mem → Prop} (F : Fx V X yX9_chance cX9_chance 13 (some .long) (rmd 4 0 0)) (hQ : Rt V X 0 0 N Post) {b k : Nat} {x z : Int32} (hk : k ≤ 10) (hp : ∀ τ : Mem, (∀ q : Nat, b + 1457 ≤ q → τ q = σ q) → Post (some (.long 0)) τ) : ∀ (n i : Nat) (τ : Mem) (la : Int64) (ps : Nat), i ≤ k → k - i < n → LG V τ b 0 0 ps → (∀ q : Nat, b + 1457 ≤ q → τ q = σ q) → Wm V X 13 N τ 0 0 92 [(11, .int (nI i)), (0, .ref b), (1, .int x), (2, .int (nI k)), (3, .int z), (4, .long la), (6, .ref (b + 194)), (7, .ref (b + 195)), (8, .ref (b + 196)), (9, .long 0)] [] := by
  intro n
  induction n with
  | zero => intro i τ la ps h1 h2; exact absurd h2 (by omega)
  | succ n ih =>
    intro i τ la ps h1 h2 hL hfr
    obtain ⟨o172, pr172, f1_172, f2_172, f3_172, e1_172, e2_172, ps_172⟩ := hL
    refine m_iload F rfl e_X9_chance_92 ?_
    refine m_iload_n F rfl e_X9_chance_94 ?_
    refine m_icmp_ge F e_X9_chance_95 (fun q95 => ?_) (fun q95 => ?_)
    · have c95 : i ≥ k := (nI_leI (a := k) (b := i) (by omega) (by omega)).mp q95
      have hi9 : i = k := by omega
      subst hi9
      refine m_iload_n F rfl e_X9_chance_181 ?_
      by_cases hx0 : z = 0
      · refine m_lookup F e_X9_chance_182 (by decide) (off := 26) (by rw [hx0]; decide) (tgt := 208) (by decide) ?_
        refine m_lload F rfl e_X9_chance_208 ?_
        exact m_lret F hQ e_X9_chance_210 (hp _ (fun q h1 => (hfr q h1)))
      by_cases hx1 : z = 1
      · refine m_lookup F e_X9_chance_182 (by decide) (off := 29) (by rw [hx1]; decide) (tgt := 211) (by decide) ?_
        refine m_aload F rfl e_X9_chance_211 ?_
        refine m_callV F e_X9_chance_213 (k_asLong0 (x_l X) V _ _ (b + 195) f2_172) cb_X1_asLong ml_X9_157 im_X1_asLong se_X1_asLong f2_172 rfl rfl (rest := []) rfl (Nat.le_of_ble_eq_true rfl) ⟨Nat.le_of_ble_eq_true rfl, Nat.le_of_ble_eq_true rfl⟩ ⟨Nat.le_of_ble_eq_true rfl, Nat.le_of_ble_eq_true rfl⟩ (k' := 0) (z' := 0) (N' := N) rfl rfl rfl (fun r τ hp => ?_)
        obtain ⟨rfl, hτ⟩ := hp
        rw [hτ]
        clear hτ
        exact m_lret F hQ e_X9_chance_216 (hp _ (fun q h1 => (hfr q h1)))
      refine m_lookup F e_X9_chance_182 (by decide) (off := 35) ((lv_osw hx0 (by decide)).trans ((lv_osw hx1 (by decide)).trans (rfl))) (tgt := 217) (by decide) ?_
      refine m_aload F rfl e_X9_chance_217 ?_
      refine m_callV F e_X9_chance_219 (k_asLong0 (x_l X) V _ _ (b + 196) f3_172) cb_X1_asLong ml_X9_157 im_X1_asLong se_X1_asLong f3_172 rfl rfl (rest := []) rfl (Nat.le_of_ble_eq_true rfl) ⟨Nat.le_of_ble_eq_true rfl, Nat.le_of_ble_eq_true rfl⟩ ⟨Nat.le_of_ble_eq_true rfl, Nat.le_of_ble_eq_true rfl⟩ (k' := 0) (z' := 0) (N' := N) rfl rfl rfl (fun r τ hp => ?_)
      obtain ⟨rfl, hτ⟩ := hp
      rw [hτ]
      clear hτ
      exact m_lret F hQ e_X9_chance_222 (hp _ (fun q h1 => (hfr q h1)))
    · have c95 : i < k := by have hh := mt (nI_leI (a := k) (b := i) (by omega) (by omega)).mpr q95; omega
      refine m_aload_n F rfl e_X9_chance_98 ?_
      refine m_iconst F (v := 0) (by decide) e_X9_chance_99 ?_
      refine m_callV F e_X9_chance_100 (k_bookIn0 (x_l X) V _ _ b 0 0 ps 0 ⟨o172, pr172, f1_172, f2_172, f3_172, e1_172, e2_172, ps_172⟩ (by omega)) cb_X9_bookIn ml_X9_271 im_X9_bookIn se_X9_bookIn o172 rfl rfl (rest := []) rfl (Nat.le_of_ble_eq_true rfl) ⟨Nat.le_of_ble_eq_true rfl, Nat.le_of_ble_eq_true rfl⟩ ⟨Nat.le_of_ble_eq_true rfl, Nat.le_of_ble_eq_true rfl⟩ (k' := 0) (z' := 0) (N' := N) rfl rfl rfl (fun r τ173 hp => ?_)
      obtain ⟨rfl, lg174, hf175⟩ := hp
      have fr176 : ∀ q : Nat, b + 1457 ≤ q → τ173 q = σ q := fun q h1 => (hf175 q h1).trans (hfr q h1)
      obtain ⟨o177, pr177, f1_177, f2_177, f3_177, e1_177, e2_177, ps_177⟩ := lg174
      refine m_astore F (lv' := [(12, .ref (b + 65)), (11, .int (nI i)), (0, .ref b), (1, .int x), (2, .int (nI k)), (3, .int z), (4, .long la), (6, .ref (b + 194)), (7, .ref (b + 195)), (8, .ref (b + 196)), (9, .long 0)]) e_X9_chance_103 (by decide) rfl ?_
      refine m_aload F rfl e_X9_chance_105 ?_
      refine m_lload F rfl e_X9_chance_107 ?_
      refine m_callV F e_X9_chance_109 (k_year0 (x_l X) V _ _ (b + 65) 0 la e2_177 (by omega)) cb_X2_yearByChance ml_X9_364 im_X2_yearByChance se_X2_yearByChance e2_177.head rfl rfl (rest := []) rfl (Nat.le_of_ble_eq_true rfl) ⟨Nat.le_of_ble_eq_true rfl, Nat.le_of_ble_eq_true rfl⟩ ⟨Nat.le_of_ble_eq_true rfl, Nat.le_of_ble_eq_true rfl⟩ (k' := 0) (z' := 0) (N' := N) rfl rfl rfl (fun r τ178 hp => ?_)
      obtain ⟨z181, rfl, eb179, hf180⟩ := hp
      have g182 : τ178 b = some (ob 7 [.ref (b + 1), .int 0, .ref (b + 2), .ref (b + 65), .ref (b + 128), .ref (b + 130), .int 0, .ref (b + 193), .int 0, .int (nI 0), .ref (b + 194), .ref (b + 195), .ref (b + 196)]) := (hf180 b (by omega)).trans o177
      have g183 : τ178 (b + 193) = some (aR 6 V 20 (pfB b)) := (hf180 (b + 193) (by omega)).trans pr177
      have g184 : τ178 (b + 194) = some (ob 0 [.long 0, .long 0]) := (hf180 (b + 194) (by omega)).trans f1_177
      have g185 : τ178 (b + 195) = some (ob 0 [.long 0, .long 0]) := (hf180 (b + 195) (by omega)).trans f2_177
      have g186 : τ178 (b + 196) = some (ob 0 [.long 0, .long 0]) := (hf180 (b + 196) (by omega)).trans f3_177
      have eb187 : EB V τ178 (b + 2) 0 := e1_177.keep (fun x g1 g2 => (hf180 x (by omega)).trans rfl)
      have pst188 : ∀ j, j < 20 → ∃ pj, EB V τ178 (b + 197 + 63 * j) pj := fun j hj => (ps_177 j hj).elim (fun pj h9 => ⟨pj, h9.keep (fun x g1 g2 => (hf180 x (by omega)).trans rfl)⟩)
      have fr189 : ∀ q : Nat, b + 1457 ≤ q → τ178 q = σ q := fun q h1 => (hf180 q (by omega)).trans (fr176 q h1)
      refine m_lstore F (lv' := [(4, .long z181), (12, .ref (b + 65)), (11, .int (nI i)), (0, .ref b), (1, .int x), (2, .int (nI k)), (3, .int z), (6, .ref (b + 194)), (7, .ref (b + 195)), (8, .ref (b + 196)), (9, .long 0)]) e_X9_chance_112 (by decide) rfl ?_
      refine m_aload F rfl e_X9_chance_114 ?_
      refine m_aload F rfl e_X9_chance_116 ?_
      refine m_callV F e_X9_chance_118 (k_countAll0 (x_l X) V _ _ (b + 65) 12 (b + 194) eb179 (by omega) g184) cb_X2_countAllOwed ml_X9_278 im_X2_countAllOwed se_X2_countAllOwed eb179.head rfl rfl (rest := []) rfl (Nat.le_of_ble_eq_true rfl) ⟨Nat.le_of_ble_eq_true rfl, Nat.le_of_ble_eq_true rfl⟩ ⟨Nat.le_of_ble_eq_true rfl, Nat.le_of_ble_eq_true rfl⟩ (k' := 0) (z' := 0) (N' := N) rfl rfl rfl (fun r τ hp => ?_)
      obtain ⟨rfl, rfl⟩ := hp
      refine m_lload F rfl e_X9_chance_121 ?_
      refine m_aload F rfl e_X9_chance_123 ?_
      refine m_callV F e_X9_chance_125 (k_asLong0 (x_l X) V _ _ (b + 194) ru_eq) cb_X1_asLong ml_X9_157 im_X1_asLong se_X1_asLong ru_eq rfl rfl (rest := [.long 0]) rfl (Nat.le_of_ble_eq_true rfl) ⟨Nat.le_of_ble_eq_true rfl, Nat.le_of_ble_eq_true rfl⟩ ⟨Nat.le_of_ble_eq_true rfl, Nat.le_of_ble_eq_true rfl⟩ (k' := 0) (z' := 0) (N' := N) rfl rfl rfl (fun r τ hp => ?_)
      obtain ⟨rfl, rfl⟩ := hp
      refine m_ladd F e_X9_chance_128 ?_
      refine Wm.toplE (w := 0) (by decide) ?_
      refine m_lstore F (lv' := [(9, .long 0), (4, .long z181), (12, .ref (b + 65)), (11, .int (nI i)), (0, .ref b), (1, .int x), (2, .int (nI k)), (3, .int z), (6, .ref (b + 194)), (7, .ref (b + 195)), (8, .ref (b + 196))]) e_X9_chance_129 (by decide) rfl ?_
      refine m_iload F rfl e_X9_chance_131 ?_
      refine m_if_eq F e_X9_chance_133 (fun q133 => ?_) (fun q133 => ?_)
      · have c133 : i = 0 := (nI_eq (a := i) (b := 0) (by omega) (by omega)).mp q133
        refine m_aload F rfl e_X9_chance_146 ?_
        refine m_aload F rfl e_X9_chance_148 ?_
        refine m_callV F e_X9_chance_150 (k_Acopy0 (x_l X) V _ _ (b + 195) (b + 194) (ru_ne (by omega) g185) ru_eq) cb_X1_copyFrom ml_X9_284 im_X1_copyFrom se_X1_copyFrom (ru_ne (by omega) g185) rfl rfl (rest := []) rfl (Nat.le_of_ble_eq_true rfl) ⟨Nat.le_of_ble_eq_true rfl, Nat.le_of_ble_eq_true rfl⟩ ⟨Nat.le_of_ble_eq_true rfl, Nat.le_of_ble_eq_true rfl⟩ (k' := 0) (z' := 0) (N' := N) rfl rfl rfl (fun r τ hp => ?_)
        obtain ⟨rfl, rfl⟩ := hp
        refine m_iload F rfl e_X9_chance_153 ?_
        refine m_if_eq F e_X9_chance_155 (fun q155 => ?_) (fun q155 => ?_)
        · have c155 : i = 0 := (nI_eq (a := i) (b := 0) (by omega) (by omega)).mp q155
          refine m_aload F rfl e_X9_chance_168 ?_
          refine m_aload F rfl e_X9_chance_170 ?_
          refine m_callV F e_X9_chance_172 (k_Acopy0 (x_l X) V _ _ (b + 196) (b + 194) (ru_ne (by omega) g186) ru_eq) cb_X1_copyFrom ml_X9_284 im_X1_copyFrom se_X1_copyFrom (ru_ne (by omega) g186) rfl rfl (rest := []) rfl (Nat.le_of_ble_eq_true rfl) ⟨Nat.le_of_ble_eq_true rfl, Nat.le_of_ble_eq_true rfl⟩ ⟨Nat.le_of_ble_eq_true rfl, Nat.le_of_ble_eq_true rfl⟩ (k' := 0) (z' := 0) (N' := N) rfl rfl rfl (fun r τ hp => ?_)
          obtain ⟨rfl, rfl⟩ := hp
          refine m_iinc F (v := nI (i + 1)) (lv' := [(11, .int (nI (i + 1))), (9, .long 0), (4, .long z181), (12, .ref (b + 65)), (0, .ref b), (1, .int x), (2, .int (nI k)), (3, .int z), (6, .ref (b + 194)), (7, .ref (b + 195)), (8, .ref (b + 196))]) e_X9_chance_175 rfl (nI_add i 1) (by decide) rfl ?_
          refine m_goto F e_X9_chance_178 ?_
          refine Wm.lvsub (lv' := [(11, .int (nI (i + 1))), (0, .ref b), (1, .int x), (2, .int (nI k)), (3, .int z), (4, .long z181), (6, .ref (b + 194)), (7, .ref (b + 195)), (8, .ref (b + 196)), (9, .long 0)]) ?_ [0, 4, 5, 6, 7, 2, 8, 9, 10, 1] rfl
          exact ih (i + 1) _ _ _ (by omega) (by omega) ⟨(ru_ne (by omega) g182), (ru_ne (by omega) g183), ru_eq, (ru_ne (by omega) g185), (ru_ne (by omega) g186), eb187.keep (fun x g1 g2 => (ru_ne (by omega) rfl)), eb179.keep (fun x g1 g2 => (ru_ne (by omega) rfl)), (fun j hj => (pst188 j hj).elim (fun pj h9 => ⟨pj, h9.keep (fun x g1 g2 => (ru_ne (by omega) rfl))⟩))⟩ (fun q h1 => (ru_ne (by omega) (fr189 q h1)))
        · have c155 : i ≠ 0 := by have hh := mt (nI_eq (a := i) (b := 0) (by omega) (by omega)).mpr q155; omega
          refine m_aload F rfl e_X9_chance_158 ?_
          refine m_aload F rfl e_X9_chance_160 ?_
          refine m_callV F e_X9_chance_162 (k_isAbove0 (x_l X) V _ _ (b + 196) (b + 194) (ru_ne (by omega) g186) ru_eq) cb_X1_isAbove ml_X9_330 im_X1_isAbove se_X1_isAbove (ru_ne (by omega) g186) rfl rfl (rest := []) rfl (Nat.le_of_ble_eq_true rfl) ⟨Nat.le_of_ble_eq_true rfl, Nat.le_of_ble_eq_true rfl⟩ ⟨Nat.le_of_ble_eq_true rfl, Nat.le_of_ble_eq_true rfl⟩ (k' := 0) (z' := 0) (N' := N) rfl rfl rfl (fun r τ hp => ?_)
          obtain ⟨rfl, rfl⟩ := hp
          refine m_if_eq F e_X9_chance_165 (fun _ => ?_) (fun q => absurd (by decide) q)
          refine m_iinc F (v := nI (i + 1)) (lv' := [(11, .int (nI (i + 1))), (9, .long 0), (4, .long z181), (12, .ref (b + 65)), (0, .ref b), (1, .int x), (2, .int (nI k)), (3, .int z), (6, .ref (b + 194)), (7, .ref (b + 195)), (8, .ref (b + 196))]) e_X9_chance_175 rfl (nI_add i 1) (by decide) rfl ?_
          refine m_goto F e_X9_chance_178 ?_
          refine Wm.lvsub (lv' := [(11, .int (nI (i + 1))), (0, .ref b), (1, .int x), (2, .int (nI k)), (3, .int z), (4, .long z181), (6, .ref (b + 194)), (7, .ref (b + 195)), (8, .ref (b + 196)), (9, .long 0)]) ?_ [0, 4, 5, 6, 7, 2, 8, 9, 10, 1] rfl
          exact ih (i + 1) _ _ _ (by omega) (by omega) ⟨(ru_ne (by omega) g182), (ru_ne (by omega) g183), ru_eq, (ru_ne (by omega) g185), (ru_ne (by omega) g186), eb187.keep (fun x g1 g2 => (ru_ne (by omega) rfl)), eb179.keep (fun x g1 g2 => (ru_ne (by omega) rfl)), (fun j hj => (pst188 j hj).elim (fun pj h9 => ⟨pj, h9.keep (fun x g1 g2 => (ru_ne (by omega) rfl))⟩))⟩ (fun q h1 => (ru_ne (by omega) (fr189 q h1)))
      · have c133 : i ≠ 0 := by have hh := mt (nI_eq (a := i) (b := 0) (by omega) (by omega)).mpr q133; omega
        refine m_aload F rfl e_X9_chance_136 ?_
        refine m_aload F rfl e_X9_chance_138 ?_
        refine m_callV F e_X9_chance_140 (k_isAbove0 (x_l X) V _ _ (b + 194) (b + 195) ru_eq (ru_ne (by omega) g185)) cb_X1_isAbove ml_X9_330 im_X1_isAbove se_X1_isAbove ru_eq rfl rfl (rest := []) rfl (Nat.le_of_ble_eq_true rfl) ⟨Nat.le_of_ble_eq_true rfl, Nat.le_of_ble_eq_true rfl⟩ ⟨Nat.le_of_ble_eq_true rfl, Nat.le_of_ble_eq_true rfl⟩ (k' := 0) (z' := 0) (N' := N) rfl rfl rfl (fun r τ hp => ?_)
        obtain ⟨rfl, rfl⟩ := hp
        refine m_if_eq F e_X9_chance_143 (fun _ => ?_) (fun q => absurd (by decide) q)
        refine m_iload F rfl e_X9_chance_153 ?_
        refine m_if_eq F e_X9_chance_155 (fun q155 => ?_) (fun q155 => ?_)
        · have c155 : i = 0 := (nI_eq (a := i) (b := 0) (by omega) (by omega)).mp q155
          refine m_aload F rfl e_X9_chance_168 ?_
          refine m_aload F rfl e_X9_chance_170 ?_
          refine m_callV F e_X9_chance_172 (k_Acopy0 (x_l X) V _ _ (b + 196) (b + 194) (ru_ne (by omega) g186) ru_eq) cb_X1_copyFrom ml_X9_284 im_X1_copyFrom se_X1_copyFrom (ru_ne (by omega) g186) rfl rfl (rest := []) rfl (Nat.le_of_ble_eq_true rfl) ⟨Nat.le_of_ble_eq_true rfl, Nat.le_of_ble_eq_true rfl⟩ ⟨Nat.le_of_ble_eq_true rfl, Nat.le_of_ble_eq_true rfl⟩ (k' := 0) (z' := 0) (N' := N) rfl rfl rfl (fun r τ hp => ?_)
          obtain ⟨rfl, rfl⟩ := hp
          refine m_iinc F (v := nI (i + 1)) (lv' := [(11, .int (nI (i + 1))), (9, .long 0), (4, .long z181), (12, .ref (b + 65)), (0, .ref b), (1, .int x), (2, .int (nI k)), (3, .int z), (6, .ref (b + 194)), (7, .ref (b + 195)), (8, .ref (b + 196))]) e_X9_chance_175 rfl (nI_add i 1) (by decide) rfl ?_
          refine m_goto F e_X9_chance_178 ?_
          refine Wm.lvsub (lv' := [(11, .int (nI (i + 1))), (0, .ref b), (1, .int x), (2, .int (nI k)), (3, .int z), (4, .long z181), (6, .ref (b + 194)), (7, .ref (b + 195)), (8, .ref (b + 196)), (9, .long 0)]) ?_ [0, 4, 5, 6, 7, 2, 8, 9, 10, 1] rfl
          exact ih (i + 1) _ _ _ (by omega) (by omega) ⟨(ru_ne (by omega) g182), (ru_ne (by omega) g183), ru_eq, (ru_ne (by omega) g185), (ru_ne (by omega) g186), eb187.keep (fun x g1 g2 => (ru_ne (by omega) rfl)), eb179.keep (fun x g1 g2 => (ru_ne (by omega) rfl)), (fun j hj => (pst188 j hj).elim (fun pj h9 => ⟨pj, h9.keep (fun x g1 g2 => (ru_ne (by omega) rfl))⟩))⟩ (fun q h1 => (ru_ne (by omega) (fr189 q h1)))
        · have c155 : i ≠ 0 := by have hh := mt (nI_eq (a := i) (b := 0) (by omega) (by omega)).mpr q155; omega
          refine m_aload F rfl e_X9_chance_158 ?_
          refine m_aload F rfl e_X9_chance_160 ?_
          refine m_callV F e_X9_chance_162 (k_isAbove0 (x_l X) V _ _ (b + 196) (b + 194) (ru_ne (by omega) g186) ru_eq) cb_X1_isAbove ml_X9_330 im_X1_isAbove se_X1_isAbove (ru_ne (by omega) g186) rfl rfl (rest := []) rfl (Nat.le_of_ble_eq_true rfl) ⟨Nat.le_of_ble_eq_true rfl, Nat.le_of_ble_eq_true rfl⟩ ⟨Nat.le_of_ble_eq_true rfl, Nat.le_of_ble_eq_true rfl⟩ (k' := 0) (z' := 0) (N' := N) rfl rfl rfl (fun r τ hp => ?_)
          obtain ⟨rfl, rfl⟩ := hp
          refine m_if_eq F e_X9_chance_165 (fun _ => ?_) (fun q => absurd (by decide) q)
          refine m_iinc F (v := nI (i + 1)) (lv' := [(11, .int (nI (i + 1))), (9, .long 0), (4, .long z181), (12, .ref (b + 65)), (0, .ref b), (1, .int x), (2, .int (nI k)), (3, .int z), (6, .ref (b + 194)), (7, .ref (b + 195)), (8, .ref (b + 196))]) e_X9_chance_175 rfl (nI_add i 1) (by decide) rfl ?_
          refine m_goto F e_X9_chance_178 ?_
          refine Wm.lvsub (lv' := [(11, .int (nI (i + 1))), (0, .ref b), (1, .int x), (2, .int (nI k)), (3, .int z), (4, .long z181), (6, .ref (b + 194)), (7, .ref (b + 195)), (8, .ref (b + 196)), (9, .long 0)]) ?_ [0, 4, 5, 6, 7, 2, 8, 9, 10, 1] rfl
          exact ih (i + 1) _ _ _ (by omega) (by omega) ⟨(ru_ne (by omega) g182), (ru_ne (by omega) g183), ru_eq, (ru_ne (by omega) g185), (ru_ne (by omega) g186), eb187.keep (fun x g1 g2 => (ru_ne (by omega) rfl)), eb179.keep (fun x g1 g2 => (ru_ne (by omega) rfl)), (fun j hj => (pst188 j hj).elim (fun pj h9 => ⟨pj, h9.keep (fun x g1 g2 => (ru_ne (by omega) rfl))⟩))⟩ (fun q h1 => (ru_ne (by omega) (fr189 q h1)))
set_option maxRecDepth 20000 in
theorem ldg_chance (l : Launch) (V : VX) (N : Nat) (σ : Mem) (b : Nat) (x y z : Int32) (hZ : LLz V σ b) : Ct l V yX9_chance cX9_chance 13 (some .long) 4 0 0 N σ [.ref b, .int x, .int y, .int z] (fun r τ => r = some (.long (if x < -1 ∨ y < 1 ∨ 10 < y ∨ z < 0 ∨ 2 < z then -1 else 0)) ∧ ∀ q : Nat, b + 1457 ≤ q → τ q = σ q) := by
  refine Ct.of (by decide) (Nat.le_of_ble_eq_true rfl) [(0, .ref b), (1, .int x), (2, .int y), (3, .int z)] rfl (fun X hX F hQ => ?_)
  obtain ⟨a0, a1, a2, a3, a4, a5, a6, a7, b0, b1, b2, b3⟩ := hZ
  have e1 := b0.eb
  have e2 := b1.eb
  have e3 := b2.eb
  have pst : ∀ j, j < 20 → ∃ pj, EB V σ (b + 197 + 63 * j) pj := fun j hj => ⟨0, (b3 j hj).eb⟩
  refine m_iload_n F rfl e_X9_chance_0 ?_
  refine m_iconst F (v := (-1)) (by decide) e_X9_chance_1 ?_
  refine m_icmp_lt F e_X9_chance_2 (fun q2 => ?_) (fun q2 => ?_)
  · refine m_ldc2 F kc_X9_149 e_X9_chance_25 ?_
    exact m_lret F hQ e_X9_chance_28 (⟨by rw [if_pos (Or.inl q2)], fun q h1 => rfl⟩)
  · refine m_iload_n F rfl e_X9_chance_5 ?_
    refine m_iconst F (v := 1) (by decide) e_X9_chance_6 ?_
    refine m_icmp_lt F e_X9_chance_7 (fun q7 => ?_) (fun q7 => ?_)
    · refine m_ldc2 F kc_X9_149 e_X9_chance_25 ?_
      exact m_lret F hQ e_X9_chance_28 (⟨by rw [if_pos (Or.inr (Or.inl q7))], fun q h1 => rfl⟩)
    · refine m_iload_n F rfl e_X9_chance_10 ?_
      refine m_bipush F (v := 10) (by decide) e_X9_chance_11 ?_
      refine m_icmp_gt F e_X9_chance_13 (fun q13 => ?_) (fun q13 => ?_)
      · refine m_ldc2 F kc_X9_149 e_X9_chance_25 ?_
        exact m_lret F hQ e_X9_chance_28 (⟨by rw [if_pos (Or.inr (Or.inr (Or.inl q13)))], fun q h1 => rfl⟩)
      · refine m_iload_n F rfl e_X9_chance_16 ?_
        refine m_if_lt F e_X9_chance_17 (fun q17 => ?_) (fun q17 => ?_)
        · refine m_ldc2 F kc_X9_149 e_X9_chance_25 ?_
          exact m_lret F hQ e_X9_chance_28 (⟨by rw [if_pos (Or.inr (Or.inr (Or.inr (Or.inl q17))))], fun q h1 => rfl⟩)
        · refine m_iload_n F rfl e_X9_chance_20 ?_
          refine m_iconst F (v := 2) (by decide) e_X9_chance_21 ?_
          refine m_icmp_le F e_X9_chance_22 (fun q22 => ?_) (fun q22 => ?_)
          · obtain ⟨k, hk1, hk, ek⟩ := rng1 (x := y) (M := 10) (n := 10) (by decide) q7 (Int32.not_lt.mp q13)
            subst ek
            refine m_aload_n F rfl e_X9_chance_29 ?_
            refine m_get F e_X9_chance_30 fl_X9_16 a0 rfl ?_
            refine m_get F e_X9_chance_33 fl_X9_94 e1.head rfl ?_
            refine m_bipush F (v := 12) (by decide) e_X9_chance_36 ?_
            refine m_iadd F e_X9_chance_38 ?_
            refine Wm.topE (w := nI (0 + 12)) (nI_add 0 12) ?_
            refine m_bipush F (v := 99) (by decide) e_X9_chance_39 ?_
            refine m_icmp_le F e_X9_chance_41 (fun q41 => ?_) (fun q41 => ?_)
            · have c41 : (0 + 12) ≤ 99 := (nI_leI (a := (0 + 12)) (b := 99) (by omega) (by omega)).mp q41
              refine m_iload_n F rfl e_X9_chance_48 ?_
              refine m_iconst F (v := (-1)) (by decide) e_X9_chance_49 ?_
              refine m_icmp_ne F e_X9_chance_50 (fun q50 => ?_) (fun q50 => ?_)
              · refine m_iload_n F rfl e_X9_chance_64 ?_
                refine m_i2l F e_X9_chance_65 ?_
                refine m_lstore F (lv' := [(4, .long ((x).toInt64)), (0, .ref b), (1, .int x), (2, .int (nI k)), (3, .int z)]) e_X9_chance_66 (by decide) rfl ?_
                refine m_aload_n F rfl e_X9_chance_68 ?_
                refine m_get F e_X9_chance_69 fl_X9_42 a0 rfl ?_
                refine m_astore F (lv' := [(6, .ref (b + 194)), (4, .long ((x).toInt64)), (0, .ref b), (1, .int x), (2, .int (nI k)), (3, .int z)]) e_X9_chance_72 (by decide) rfl ?_
                refine m_aload_n F rfl e_X9_chance_74 ?_
                refine m_get F e_X9_chance_75 fl_X9_46 a0 rfl ?_
                refine m_astore F (lv' := [(7, .ref (b + 195)), (6, .ref (b + 194)), (4, .long ((x).toInt64)), (0, .ref b), (1, .int x), (2, .int (nI k)), (3, .int z)]) e_X9_chance_78 (by decide) rfl ?_
                refine m_aload_n F rfl e_X9_chance_80 ?_
                refine m_get F e_X9_chance_81 fl_X9_49 a0 rfl ?_
                refine m_astore F (lv' := [(8, .ref (b + 196)), (7, .ref (b + 195)), (6, .ref (b + 194)), (4, .long ((x).toInt64)), (0, .ref b), (1, .int x), (2, .int (nI k)), (3, .int z)]) e_X9_chance_84 (by decide) rfl ?_
                refine m_lconst F (v := 0) (by decide) e_X9_chance_86 ?_
                refine m_lstore F (lv' := [(9, .long 0), (8, .ref (b + 196)), (7, .ref (b + 195)), (6, .ref (b + 194)), (4, .long ((x).toInt64)), (0, .ref b), (1, .int x), (2, .int (nI k)), (3, .int z)]) e_X9_chance_87 (by decide) rfl ?_
                refine m_iconst F (v := 0) (by decide) e_X9_chance_89 ?_
                refine m_istore F (lv' := [(11, .int 0), (9, .long 0), (8, .ref (b + 196)), (7, .ref (b + 195)), (6, .ref (b + 194)), (4, .long ((x).toInt64)), (0, .ref b), (1, .int x), (2, .int (nI k)), (3, .int z)]) e_X9_chance_90 (by decide) rfl ?_
                refine Wm.lvsub (lv' := [(11, .int 0), (0, .ref b), (1, .int x), (2, .int (nI k)), (3, .int z), (4, .long ((x).toInt64)), (6, .ref (b + 194)), (7, .ref (b + 195)), (8, .ref (b + 196)), (9, .long 0)]) ?_ [0, 6, 7, 8, 9, 5, 4, 3, 2, 1] rfl
                exact lp_Lchance0 F hQ hk (fun τ h9 => ⟨by rw [if_neg (fun h => h.elim q2 (fun h => h.elim q7 (fun h => h.elim q13 (fun h => h.elim q17 (fun h => absurd q22 (Int32.not_le.mpr h))))))], h9⟩) (k + 1) 0 _ _ _ (by omega) (by omega) ⟨a0, a4, a5, a6, a7, e1, e2, pst⟩ (fun q h1 => rfl)
              · refine m_aload_n F rfl e_X9_chance_53 ?_
                refine m_get F e_X9_chance_54 fl_X9_16 a0 rfl ?_
                refine m_get F e_X9_chance_57 fl_X9_361 e1.head rfl ?_
                refine m_i2l F e_X9_chance_60 ?_
                refine Wm.toplE (w := 0) (by decide) ?_
                refine m_goto F e_X9_chance_61 ?_
                refine m_lstore F (lv' := [(4, .long 0), (0, .ref b), (1, .int x), (2, .int (nI k)), (3, .int z)]) e_X9_chance_66 (by decide) rfl ?_
                refine m_aload_n F rfl e_X9_chance_68 ?_
                refine m_get F e_X9_chance_69 fl_X9_42 a0 rfl ?_
                refine m_astore F (lv' := [(6, .ref (b + 194)), (4, .long 0), (0, .ref b), (1, .int x), (2, .int (nI k)), (3, .int z)]) e_X9_chance_72 (by decide) rfl ?_
                refine m_aload_n F rfl e_X9_chance_74 ?_
                refine m_get F e_X9_chance_75 fl_X9_46 a0 rfl ?_
                refine m_astore F (lv' := [(7, .ref (b + 195)), (6, .ref (b + 194)), (4, .long 0), (0, .ref b), (1, .int x), (2, .int (nI k)), (3, .int z)]) e_X9_chance_78 (by decide) rfl ?_
                refine m_aload_n F rfl e_X9_chance_80 ?_
                refine m_get F e_X9_chance_81 fl_X9_49 a0 rfl ?_
                refine m_astore F (lv' := [(8, .ref (b + 196)), (7, .ref (b + 195)), (6, .ref (b + 194)), (4, .long 0), (0, .ref b), (1, .int x), (2, .int (nI k)), (3, .int z)]) e_X9_chance_84 (by decide) rfl ?_
                refine m_lconst F (v := 0) (by decide) e_X9_chance_86 ?_
                refine m_lstore F (lv' := [(9, .long 0), (8, .ref (b + 196)), (7, .ref (b + 195)), (6, .ref (b + 194)), (4, .long 0), (0, .ref b), (1, .int x), (2, .int (nI k)), (3, .int z)]) e_X9_chance_87 (by decide) rfl ?_
                refine m_iconst F (v := 0) (by decide) e_X9_chance_89 ?_
                refine m_istore F (lv' := [(11, .int 0), (9, .long 0), (8, .ref (b + 196)), (7, .ref (b + 195)), (6, .ref (b + 194)), (4, .long 0), (0, .ref b), (1, .int x), (2, .int (nI k)), (3, .int z)]) e_X9_chance_90 (by decide) rfl ?_
                refine Wm.lvsub (lv' := [(11, .int 0), (0, .ref b), (1, .int x), (2, .int (nI k)), (3, .int z), (4, .long 0), (6, .ref (b + 194)), (7, .ref (b + 195)), (8, .ref (b + 196)), (9, .long 0)]) ?_ [0, 6, 7, 8, 9, 5, 4, 3, 2, 1] rfl
                exact lp_Lchance0 F hQ hk (fun τ h9 => ⟨by rw [if_neg (fun h => h.elim q2 (fun h => h.elim q7 (fun h => h.elim q13 (fun h => h.elim q17 (fun h => absurd q22 (Int32.not_le.mpr h))))))], h9⟩) (k + 1) 0 _ _ _ (by omega) (by omega) ⟨a0, a4, a5, a6, a7, e1, e2, pst⟩ (fun q h1 => rfl)
            · have c41 : (0 + 12) > 99 := by have hh := mt (nI_leI (a := (0 + 12)) (b := 99) (by omega) (by omega)).mpr q41; omega
              exfalso; omega
          · refine m_ldc2 F kc_X9_149 e_X9_chance_25 ?_
            exact m_lret F hQ e_X9_chance_28 (⟨by rw [if_pos (Or.inr (Or.inr (Or.inr (Or.inr (Int32.not_le.mp q22)))))], fun q h1 => rfl⟩)
set_option maxRecDepth 20000 in
theorem k_putOnTape0 (l : Launch) (V : VX) (N : Nat) (σ : Mem) (b t : Nat) (f : Nat → Int32) (v : Int32) (h_b : σ b = some (ob 7 [.ref (b + 1), .int (nI t), .ref (b + 2), .ref (b + 65), .ref (b + 128), .ref (b + 130), .int 0, .ref (b + 193), .int 0, .int 0, .ref (b + 194), .ref (b + 195), .ref (b + 196)])) (h_t : σ (b + 1) = some (aB V 700 f)) (ht : t ≤ 696) : Ct l V yX9_putOnTape cX9_putOnTape 3 none 0 0 0 N σ [.ref b, .int v] (fun r τ => r = none ∧ τ b = some (ob 7 [.ref (b + 1), .int (nI (t + 4)), .ref (b + 2), .ref (b + 65), .ref (b + 128), .ref (b + 130), .int 0, .ref (b + 193), .int 0, .int 0, .ref (b + 194), .ref (b + 195), .ref (b + 196)]) ∧ (∃ f2 : Nat → Int32, τ (b + 1) = some (aB V 700 f2)) ∧ ∀ q : Nat, q ≠ b → q ≠ b + 1 → τ q = σ q) := by
  refine Ct.of (by decide) (Nat.le_of_ble_eq_true rfl) [(0, .ref b), (1, .int v)] rfl (fun X hX F hQ => ?_)
  refine m_bipush F (v := 24) (by decide) e_X9_putOnTape_0 ?_
  refine m_istore_n F (lv' := [(2, .int 24), (0, .ref b), (1, .int v)]) e_X9_putOnTape_2 (by decide) rfl ?_
  refine m_iload_n F rfl e_X9_putOnTape_3 ?_
  refine m_if_lt F e_X9_putOnTape_4 (fun q => absurd q (by decide)) (fun _ => ?_)
  refine m_aload_n F rfl e_X9_putOnTape_7 ?_
  refine m_get F e_X9_putOnTape_8 fl_X9_52 h_b rfl ?_
  refine m_sipush F (v := 700) (by decide) e_X9_putOnTape_11 ?_
  refine m_icmp_ge F e_X9_putOnTape_14 (fun q14 => ?_) (fun q14 => ?_)
  · have c14 : t ≥ 700 := (nI_leI (a := 700) (b := t) (by omega) (by omega)).mp q14
    exfalso; omega
  · have c14 : t < 700 := by have hh := mt (nI_leI (a := 700) (b := t) (by omega) (by omega)).mpr q14; omega
    refine m_aload_n F rfl e_X9_putOnTape_17 ?_
    refine m_get F e_X9_putOnTape_18 fl_X9_9 h_b rfl ?_
    refine m_aload_n F rfl e_X9_putOnTape_21 ?_
    refine m_get F e_X9_putOnTape_22 fl_X9_52 h_b rfl ?_
    refine m_iload_n F rfl e_X9_putOnTape_25 ?_
    refine m_iload_n F rfl e_X9_putOnTape_26 ?_
    refine m_ishr F e_X9_putOnTape_27 ?_
    refine m_i2b F e_X9_putOnTape_28 ?_
    refine m_bast F (j := t) (x' := (v >>> (24 &&& 31)).toInt8.toInt32) e_X9_putOnTape_29 h_t (nI_clamp (by omega)) (vp_in_nI (by omega) (by omega)) (pk_nb ((v >>> (24 &&& 31)))) rfl rfl ?_
    refine m_aload_n F rfl e_X9_putOnTape_30 ?_
    refine m_dup F rfl e_X9_putOnTape_31 ?_
    refine m_get F e_X9_putOnTape_32 fl_X9_52 (ru_ne (by omega) h_b) rfl ?_
    refine m_iconst F (v := 1) (by decide) e_X9_putOnTape_35 ?_
    refine m_iadd F e_X9_putOnTape_36 ?_
    refine Wm.topE (w := nI (t + 1)) (nI_add t 1) ?_
    refine m_put F e_X9_putOnTape_37 fp_X9_52 (ru_ne (by omega) h_b) rfl rfl (Nat.le_of_ble_eq_true rfl) (fs' := [.ref (b + 1), .int (nI (t + 1)), .ref (b + 2), .ref (b + 65), .ref (b + 128), .ref (b + 130), .int 0, .ref (b + 193), .int 0, .int 0, .ref (b + 194), .ref (b + 195), .ref (b + 196)]) rfl rfl ?_
    refine m_iinc F (v := 16) (lv' := [(2, .int 16), (0, .ref b), (1, .int v)]) e_X9_putOnTape_40 rfl (by decide) (by decide) rfl ?_
    refine m_goto F e_X9_putOnTape_43 ?_
    refine m_iload_n F rfl e_X9_putOnTape_3 ?_
    refine m_if_lt F e_X9_putOnTape_4 (fun q => absurd q (by decide)) (fun _ => ?_)
    refine m_aload_n F rfl e_X9_putOnTape_7 ?_
    refine m_get F e_X9_putOnTape_8 fl_X9_52 ru_eq rfl ?_
    refine m_sipush F (v := 700) (by decide) e_X9_putOnTape_11 ?_
    refine m_icmp_ge F e_X9_putOnTape_14 (fun q14 => ?_) (fun q14 => ?_)
    · have c14 : (t + 1) ≥ 700 := (nI_leI (a := 700) (b := (t + 1)) (by omega) (by omega)).mp q14
      exfalso; omega
    · have c14 : (t + 1) < 700 := by have hh := mt (nI_leI (a := 700) (b := (t + 1)) (by omega) (by omega)).mpr q14; omega
      refine m_aload_n F rfl e_X9_putOnTape_17 ?_
      refine m_get F e_X9_putOnTape_18 fl_X9_9 ru_eq rfl ?_
      refine m_aload_n F rfl e_X9_putOnTape_21 ?_
      refine m_get F e_X9_putOnTape_22 fl_X9_52 ru_eq rfl ?_
      refine m_iload_n F rfl e_X9_putOnTape_25 ?_
      refine m_iload_n F rfl e_X9_putOnTape_26 ?_
      refine m_ishr F e_X9_putOnTape_27 ?_
      refine m_i2b F e_X9_putOnTape_28 ?_
      refine m_bast F (j := t + 1) (x' := (v >>> (16 &&& 31)).toInt8.toInt32) e_X9_putOnTape_29 (ru_ne (by omega) ru_eq) (nI_clamp (by omega)) (vp_in_nI (by omega) (by omega)) (pk_nb ((v >>> (16 &&& 31)))) rfl rfl ?_
      refine m_aload_n F rfl e_X9_putOnTape_30 ?_
      refine m_dup F rfl e_X9_putOnTape_31 ?_
      refine m_get F e_X9_putOnTape_32 fl_X9_52 (ru_ne (by omega) ru_eq) rfl ?_
      refine m_iconst F (v := 1) (by decide) e_X9_putOnTape_35 ?_
      refine m_iadd F e_X9_putOnTape_36 ?_
      refine Wm.topE (w := nI (t + 2)) (nI_add (t + 1) 1) ?_
      refine m_put F e_X9_putOnTape_37 fp_X9_52 (ru_ne (by omega) ru_eq) rfl rfl (Nat.le_of_ble_eq_true rfl) (fs' := [.ref (b + 1), .int (nI (t + 2)), .ref (b + 2), .ref (b + 65), .ref (b + 128), .ref (b + 130), .int 0, .ref (b + 193), .int 0, .int 0, .ref (b + 194), .ref (b + 195), .ref (b + 196)]) rfl rfl ?_
      refine m_iinc F (v := 8) (lv' := [(2, .int 8), (0, .ref b), (1, .int v)]) e_X9_putOnTape_40 rfl (by decide) (by decide) rfl ?_
      refine m_goto F e_X9_putOnTape_43 ?_
      refine m_iload_n F rfl e_X9_putOnTape_3 ?_
      refine m_if_lt F e_X9_putOnTape_4 (fun q => absurd q (by decide)) (fun _ => ?_)
      refine m_aload_n F rfl e_X9_putOnTape_7 ?_
      refine m_get F e_X9_putOnTape_8 fl_X9_52 ru_eq rfl ?_
      refine m_sipush F (v := 700) (by decide) e_X9_putOnTape_11 ?_
      refine m_icmp_ge F e_X9_putOnTape_14 (fun q14 => ?_) (fun q14 => ?_)
      · have c14 : (t + 2) ≥ 700 := (nI_leI (a := 700) (b := (t + 2)) (by omega) (by omega)).mp q14
        exfalso; omega
      · have c14 : (t + 2) < 700 := by have hh := mt (nI_leI (a := 700) (b := (t + 2)) (by omega) (by omega)).mpr q14; omega
        refine m_aload_n F rfl e_X9_putOnTape_17 ?_
        refine m_get F e_X9_putOnTape_18 fl_X9_9 ru_eq rfl ?_
        refine m_aload_n F rfl e_X9_putOnTape_21 ?_
        refine m_get F e_X9_putOnTape_22 fl_X9_52 ru_eq rfl ?_
        refine m_iload_n F rfl e_X9_putOnTape_25 ?_
        refine m_iload_n F rfl e_X9_putOnTape_26 ?_
        refine m_ishr F e_X9_putOnTape_27 ?_
        refine m_i2b F e_X9_putOnTape_28 ?_
        refine m_bast F (j := t + 2) (x' := (v >>> (8 &&& 31)).toInt8.toInt32) e_X9_putOnTape_29 (ru_ne (by omega) ru_eq) (nI_clamp (by omega)) (vp_in_nI (by omega) (by omega)) (pk_nb ((v >>> (8 &&& 31)))) rfl rfl ?_
        refine m_aload_n F rfl e_X9_putOnTape_30 ?_
        refine m_dup F rfl e_X9_putOnTape_31 ?_
        refine m_get F e_X9_putOnTape_32 fl_X9_52 (ru_ne (by omega) ru_eq) rfl ?_
        refine m_iconst F (v := 1) (by decide) e_X9_putOnTape_35 ?_
        refine m_iadd F e_X9_putOnTape_36 ?_
        refine Wm.topE (w := nI (t + 3)) (nI_add (t + 2) 1) ?_
        refine m_put F e_X9_putOnTape_37 fp_X9_52 (ru_ne (by omega) ru_eq) rfl rfl (Nat.le_of_ble_eq_true rfl) (fs' := [.ref (b + 1), .int (nI (t + 3)), .ref (b + 2), .ref (b + 65), .ref (b + 128), .ref (b + 130), .int 0, .ref (b + 193), .int 0, .int 0, .ref (b + 194), .ref (b + 195), .ref (b + 196)]) rfl rfl ?_
        refine m_iinc F (v := 0) (lv' := [(2, .int 0), (0, .ref b), (1, .int v)]) e_X9_putOnTape_40 rfl (by decide) (by decide) rfl ?_
        refine m_goto F e_X9_putOnTape_43 ?_
        refine m_iload_n F rfl e_X9_putOnTape_3 ?_
        refine m_if_lt F e_X9_putOnTape_4 (fun q => absurd q (by decide)) (fun _ => ?_)
        refine m_aload_n F rfl e_X9_putOnTape_7 ?_
        refine m_get F e_X9_putOnTape_8 fl_X9_52 ru_eq rfl ?_
        refine m_sipush F (v := 700) (by decide) e_X9_putOnTape_11 ?_
        refine m_icmp_ge F e_X9_putOnTape_14 (fun q14 => ?_) (fun q14 => ?_)
        · have c14 : (t + 3) ≥ 700 := (nI_leI (a := 700) (b := (t + 3)) (by omega) (by omega)).mp q14
          exfalso; omega
        · have c14 : (t + 3) < 700 := by have hh := mt (nI_leI (a := 700) (b := (t + 3)) (by omega) (by omega)).mpr q14; omega
          refine m_aload_n F rfl e_X9_putOnTape_17 ?_
          refine m_get F e_X9_putOnTape_18 fl_X9_9 ru_eq rfl ?_
          refine m_aload_n F rfl e_X9_putOnTape_21 ?_
          refine m_get F e_X9_putOnTape_22 fl_X9_52 ru_eq rfl ?_
          refine m_iload_n F rfl e_X9_putOnTape_25 ?_
          refine m_iload_n F rfl e_X9_putOnTape_26 ?_
          refine m_ishr F e_X9_putOnTape_27 ?_
          refine m_i2b F e_X9_putOnTape_28 ?_
          refine m_bast F (j := t + 3) (x' := (v >>> (0 &&& 31)).toInt8.toInt32) e_X9_putOnTape_29 (ru_ne (by omega) ru_eq) (nI_clamp (by omega)) (vp_in_nI (by omega) (by omega)) (pk_nb ((v >>> (0 &&& 31)))) rfl rfl ?_
          refine m_aload_n F rfl e_X9_putOnTape_30 ?_
          refine m_dup F rfl e_X9_putOnTape_31 ?_
          refine m_get F e_X9_putOnTape_32 fl_X9_52 (ru_ne (by omega) ru_eq) rfl ?_
          refine m_iconst F (v := 1) (by decide) e_X9_putOnTape_35 ?_
          refine m_iadd F e_X9_putOnTape_36 ?_
          refine Wm.topE (w := nI (t + 4)) (nI_add (t + 3) 1) ?_
          refine m_put F e_X9_putOnTape_37 fp_X9_52 (ru_ne (by omega) ru_eq) rfl rfl (Nat.le_of_ble_eq_true rfl) (fs' := [.ref (b + 1), .int (nI (t + 4)), .ref (b + 2), .ref (b + 65), .ref (b + 128), .ref (b + 130), .int 0, .ref (b + 193), .int 0, .int 0, .ref (b + 194), .ref (b + 195), .ref (b + 196)]) rfl rfl ?_
          refine m_iinc F (v := (-8)) (lv' := [(2, .int (-8)), (0, .ref b), (1, .int v)]) e_X9_putOnTape_40 rfl (by decide) (by decide) rfl ?_
          refine m_goto F e_X9_putOnTape_43 ?_
          refine m_iload_n F rfl e_X9_putOnTape_3 ?_
          refine m_if_lt F e_X9_putOnTape_4 (fun _ => ?_) (fun q => absurd (by decide) q)
          exact m_vret F hQ e_X9_putOnTape_46 (⟨rfl, ru_eq, ⟨_, (ru_ne (by omega) ru_eq)⟩, fun q h1 h2 => (ru_ne (by omega) (ru_ne (by omega) (ru_ne (by omega) (ru_ne (by omega) (ru_ne (by omega) (ru_ne (by omega) (ru_ne (by omega) (ru_ne (by omega) rfl))))))))⟩)
set_option maxRecDepth 20000 in
theorem ldg_feed (l : Launch) (V : VX) (N : Nat) (σ : Mem) (b : Nat) (x1 x2 x3 x4 x5 : Int32) (hZ : LLz V σ b) : Ct l V yX9_feed cX9_feed 6 (some .int) 1 0 0 N σ [.ref b, .int x1, .int x2, .int x3, .int x4, .int x5] (fun r τ => r = some (.int 20) ∧ ∀ q : Nat, b + 1457 ≤ q → τ q = σ q) := by
  refine Ct.of (by decide) (Nat.le_of_ble_eq_true rfl) [(0, .ref b), (1, .int x1), (2, .int x2), (3, .int x3), (4, .int x4), (5, .int x5)] rfl (fun X hX F hQ => ?_)
  obtain ⟨a0, a1, a2, a3, a4, a5, a6, a7, b0, b1, b2, b3⟩ := hZ
  have e1 := b0.eb
  have e2 := b1.eb
  have e3 := b2.eb
  have pst : ∀ j, j < 20 → ∃ pj, EB V σ (b + 197 + 63 * j) pj := fun j hj => ⟨0, (b3 j hj).eb⟩
  refine m_aload_n F rfl e_X9_feed_0 ?_
  refine m_get F e_X9_feed_1 fl_X9_52 a0 rfl ?_
  refine m_bipush F (v := 20) (by decide) e_X9_feed_4 ?_
  refine m_iadd F e_X9_feed_6 ?_
  refine Wm.topE (w := 20) (by decide) ?_
  refine m_sipush F (v := 700) (by decide) e_X9_feed_7 ?_
  refine m_icmp_le F e_X9_feed_10 (fun _ => ?_) (fun q => absurd (by decide) q)
  refine m_aload_n F rfl e_X9_feed_15 ?_
  refine m_iload_n F rfl e_X9_feed_16 ?_
  refine m_callV F e_X9_feed_17 (k_putOnTape0 (x_l X) V _ _ b 0 (fun _ => 0) x1 a0 a1 (by omega)) cb_X9_putOnTape ml_X9_56 im_X9_putOnTape se_X9_putOnTape a0 rfl rfl (rest := []) rfl (Nat.le_of_ble_eq_true rfl) ⟨Nat.le_of_ble_eq_true rfl, Nat.le_of_ble_eq_true rfl⟩ ⟨Nat.le_of_ble_eq_true rfl, Nat.le_of_ble_eq_true rfl⟩ (k' := 0) (z' := 0) (N' := N) rfl rfl rfl (fun r τ190 hp => ?_)
  obtain ⟨rfl, h191, ⟨f192, h193⟩, hf194⟩ := hp
  have fr195 : ∀ q : Nat, b + 1457 ≤ q → τ190 q = σ q := fun q h1 => (hf194 q (by omega) (by omega)).trans rfl
  refine m_aload_n F rfl e_X9_feed_20 ?_
  refine m_iload_n F rfl e_X9_feed_21 ?_
  refine m_callV F e_X9_feed_22 (k_putOnTape0 (x_l X) V _ _ b 4 f192 x2 h191 h193 (by omega)) cb_X9_putOnTape ml_X9_56 im_X9_putOnTape se_X9_putOnTape h191 rfl rfl (rest := []) rfl (Nat.le_of_ble_eq_true rfl) ⟨Nat.le_of_ble_eq_true rfl, Nat.le_of_ble_eq_true rfl⟩ ⟨Nat.le_of_ble_eq_true rfl, Nat.le_of_ble_eq_true rfl⟩ (k' := 0) (z' := 0) (N' := N) rfl rfl rfl (fun r τ196 hp => ?_)
  obtain ⟨rfl, h197, ⟨f198, h199⟩, hf200⟩ := hp
  have fr201 : ∀ q : Nat, b + 1457 ≤ q → τ196 q = σ q := fun q h1 => (hf200 q (by omega) (by omega)).trans (fr195 q h1)
  refine m_aload_n F rfl e_X9_feed_25 ?_
  refine m_iload_n F rfl e_X9_feed_26 ?_
  refine m_callV F e_X9_feed_27 (k_putOnTape0 (x_l X) V _ _ b 8 f198 x3 h197 h199 (by omega)) cb_X9_putOnTape ml_X9_56 im_X9_putOnTape se_X9_putOnTape h197 rfl rfl (rest := []) rfl (Nat.le_of_ble_eq_true rfl) ⟨Nat.le_of_ble_eq_true rfl, Nat.le_of_ble_eq_true rfl⟩ ⟨Nat.le_of_ble_eq_true rfl, Nat.le_of_ble_eq_true rfl⟩ (k' := 0) (z' := 0) (N' := N) rfl rfl rfl (fun r τ202 hp => ?_)
  obtain ⟨rfl, h203, ⟨f204, h205⟩, hf206⟩ := hp
  have fr207 : ∀ q : Nat, b + 1457 ≤ q → τ202 q = σ q := fun q h1 => (hf206 q (by omega) (by omega)).trans (fr201 q h1)
  refine m_aload_n F rfl e_X9_feed_30 ?_
  refine m_iload F rfl e_X9_feed_31 ?_
  refine m_callV F e_X9_feed_33 (k_putOnTape0 (x_l X) V _ _ b 12 f204 x4 h203 h205 (by omega)) cb_X9_putOnTape ml_X9_56 im_X9_putOnTape se_X9_putOnTape h203 rfl rfl (rest := []) rfl (Nat.le_of_ble_eq_true rfl) ⟨Nat.le_of_ble_eq_true rfl, Nat.le_of_ble_eq_true rfl⟩ ⟨Nat.le_of_ble_eq_true rfl, Nat.le_of_ble_eq_true rfl⟩ (k' := 0) (z' := 0) (N' := N) rfl rfl rfl (fun r τ208 hp => ?_)
  obtain ⟨rfl, h209, ⟨f210, h211⟩, hf212⟩ := hp
  have fr213 : ∀ q : Nat, b + 1457 ≤ q → τ208 q = σ q := fun q h1 => (hf212 q (by omega) (by omega)).trans (fr207 q h1)
  refine m_aload_n F rfl e_X9_feed_36 ?_
  refine m_iload F rfl e_X9_feed_37 ?_
  refine m_callV F e_X9_feed_39 (k_putOnTape0 (x_l X) V _ _ b 16 f210 x5 h209 h211 (by omega)) cb_X9_putOnTape ml_X9_56 im_X9_putOnTape se_X9_putOnTape h209 rfl rfl (rest := []) rfl (Nat.le_of_ble_eq_true rfl) ⟨Nat.le_of_ble_eq_true rfl, Nat.le_of_ble_eq_true rfl⟩ ⟨Nat.le_of_ble_eq_true rfl, Nat.le_of_ble_eq_true rfl⟩ (k' := 0) (z' := 0) (N' := N) rfl rfl rfl (fun r τ214 hp => ?_)
  obtain ⟨rfl, h215, ⟨f216, h217⟩, hf218⟩ := hp
  have fr219 : ∀ q : Nat, b + 1457 ≤ q → τ214 q = σ q := fun q h1 => (hf218 q (by omega) (by omega)).trans (fr213 q h1)
  refine m_aload_n F rfl e_X9_feed_42 ?_
  refine m_get F e_X9_feed_43 fl_X9_52 h215 rfl ?_
  exact m_iret F hQ e_X9_feed_46 (⟨rfl, fun q h1 => (fr219 q h1)⟩)
