theorem e_X1_set_0 : DC cX1_set 0 1 1 (.aload_n 0) := ⟨by decide +kernel, rfl⟩
theorem e_X1_set_1 : DC cX1_set 1 1 2 (.lload_n 1) := ⟨by decide +kernel, rfl⟩
theorem e_X1_set_2 : DC cX1_set 2 2 4 (.bipush 42) := ⟨by decide +kernel, rfl⟩
theorem e_X1_set_4 : DC cX1_set 4 1 5 (.lshr) := ⟨by decide +kernel, rfl⟩
theorem e_X1_set_5 : DC cX1_set 5 3 8 (.putfield 9) := ⟨by decide +kernel, rfl⟩
theorem fp_X1_9 : FP RX1 9 0 0 false .long := ⟨RX1, TX1, 2, tyX1, rfl, by decide, uw_0, tb_in 74 (by decide +kernel) (by decide +kernel), rfl, rfl, by decide +kernel, tyX1_ok, nmX1⟩
theorem e_X1_set_8 : DC cX1_set 8 1 9 (.aload_n 0) := ⟨by decide +kernel, rfl⟩
theorem e_X1_set_9 : DC cX1_set 9 1 10 (.lload_n 1) := ⟨by decide +kernel, rfl⟩
theorem e_X1_set_10 : DC cX1_set 10 3 13 (.ldc2_w 13) := ⟨by decide +kernel, rfl⟩
theorem kc_X1_13 : Cond.constantLong RX1 13 4398046511103 ∈ tb := tb_in 485 (by decide +kernel) (by decide +kernel)
theorem e_X1_set_13 : DC cX1_set 13 1 14 (.land) := ⟨by decide +kernel, rfl⟩
theorem e_X1_set_14 : DC cX1_set 14 3 17 (.putfield 15) := ⟨by decide +kernel, rfl⟩
theorem fp_X1_15 : FP RX1 15 0 1 false .long := ⟨RX1, TX1, 2, tyX1, rfl, by decide, uw_0, tb_in 76 (by decide +kernel) (by decide +kernel), rfl, rfl, by decide +kernel, tyX1_ok, nmX1⟩
theorem e_X1_set_17 : DC cX1_set 17 1 18 (.return_) := ⟨by decide +kernel, rfl⟩
theorem e_X1_asLong_0 : DC cX1_asLong 0 1 1 (.aload_n 0) := ⟨by decide +kernel, rfl⟩
theorem e_X1_asLong_1 : DC cX1_asLong 1 3 4 (.getfield 9) := ⟨by decide +kernel, rfl⟩
theorem fl_X1_9 : FL RX1 9 0 0 := ⟨RX1, TX1, 2, rfl, by decide, uw_0, tb_in 74 (by decide +kernel) (by decide +kernel), rfl⟩
theorem e_X1_asLong_4 : DC cX1_asLong 4 2 6 (.bipush 42) := ⟨by decide +kernel, rfl⟩
theorem e_X1_asLong_6 : DC cX1_asLong 6 1 7 (.lshl) := ⟨by decide +kernel, rfl⟩
theorem e_X1_asLong_7 : DC cX1_asLong 7 1 8 (.aload_n 0) := ⟨by decide +kernel, rfl⟩
theorem e_X1_asLong_8 : DC cX1_asLong 8 3 11 (.getfield 15) := ⟨by decide +kernel, rfl⟩
theorem fl_X1_15 : FL RX1 15 0 1 := ⟨RX1, TX1, 2, rfl, by decide, uw_0, tb_in 76 (by decide +kernel) (by decide +kernel), rfl⟩
theorem e_X1_asLong_11 : DC cX1_asLong 11 1 12 (.ladd) := ⟨by decide +kernel, rfl⟩
theorem e_X1_asLong_12 : DC cX1_asLong 12 1 13 (.lreturn) := ⟨by decide +kernel, rfl⟩
theorem e_X1_isZero_0 : DC cX1_isZero 0 1 1 (.aload_n 0) := ⟨by decide +kernel, rfl⟩
theorem e_X1_isZero_1 : DC cX1_isZero 1 3 4 (.getfield 9) := ⟨by decide +kernel, rfl⟩
theorem e_X1_isZero_4 : DC cX1_isZero 4 1 5 (.lconst 0) := ⟨by decide +kernel, rfl⟩
theorem e_X1_isZero_5 : DC cX1_isZero 5 1 6 (.lcmp) := ⟨by decide +kernel, rfl⟩
theorem e_X1_isZero_6 : DJ cX1_isZero 6 22 9 (.ifCond .ne) := DJ.mk 16 (by decide +kernel) (by decide) rfl
theorem e_X1_isZero_9 : DC cX1_isZero 9 1 10 (.aload_n 0) := ⟨by decide +kernel, rfl⟩
theorem e_X1_isZero_10 : DC cX1_isZero 10 3 13 (.getfield 15) := ⟨by decide +kernel, rfl⟩
theorem e_X1_isZero_13 : DC cX1_isZero 13 1 14 (.lconst 0) := ⟨by decide +kernel, rfl⟩
theorem e_X1_isZero_14 : DC cX1_isZero 14 1 15 (.lcmp) := ⟨by decide +kernel, rfl⟩
theorem e_X1_isZero_15 : DJ cX1_isZero 15 22 18 (.ifCond .ne) := DJ.mk 7 (by decide +kernel) (by decide) rfl
theorem e_X1_isZero_18 : DC cX1_isZero 18 1 19 (.iconst 1) := ⟨by decide +kernel, rfl⟩
theorem e_X1_isZero_19 : DJ cX1_isZero 19 23 22 .goto := DJ.mk 4 (by decide +kernel) (by decide) rfl
theorem e_X1_isZero_23 : DC cX1_isZero 23 1 24 (.ireturn) := ⟨by decide +kernel, rfl⟩
theorem e_X1_isGreaterShare_0 : DC cX1_isGreaterShare 0 1 1 (.aload_n 0) := ⟨by decide +kernel, rfl⟩
theorem e_X1_isGreaterShare_1 : DC cX1_isGreaterShare 1 3 4 (.getfield 15) := ⟨by decide +kernel, rfl⟩
theorem e_X1_isGreaterShare_4 : DC cX1_isGreaterShare 4 1 5 (.iload_n 3) := ⟨by decide +kernel, rfl⟩
theorem e_X1_isGreaterShare_5 : DC cX1_isGreaterShare 5 1 6 (.i2l) := ⟨by decide +kernel, rfl⟩
theorem e_X1_isGreaterShare_6 : DC cX1_isGreaterShare 6 1 7 (.lmul) := ⟨by decide +kernel, rfl⟩
theorem e_X1_isGreaterShare_7 : DC cX1_isGreaterShare 7 2 9 (.lstore 4) := ⟨by decide +kernel, rfl⟩
theorem e_X1_isGreaterShare_9 : DC cX1_isGreaterShare 9 1 10 (.aload_n 0) := ⟨by decide +kernel, rfl⟩
theorem e_X1_isGreaterShare_10 : DC cX1_isGreaterShare 10 3 13 (.getfield 9) := ⟨by decide +kernel, rfl⟩
theorem e_X1_isGreaterShare_13 : DC cX1_isGreaterShare 13 1 14 (.iload_n 3) := ⟨by decide +kernel, rfl⟩
theorem e_X1_isGreaterShare_14 : DC cX1_isGreaterShare 14 1 15 (.i2l) := ⟨by decide +kernel, rfl⟩
theorem e_X1_isGreaterShare_15 : DC cX1_isGreaterShare 15 1 16 (.lmul) := ⟨by decide +kernel, rfl⟩
theorem e_X1_isGreaterShare_16 : DC cX1_isGreaterShare 16 2 18 (.lload 4) := ⟨by decide +kernel, rfl⟩
theorem e_X1_isGreaterShare_18 : DC cX1_isGreaterShare 18 2 20 (.bipush 42) := ⟨by decide +kernel, rfl⟩
theorem e_X1_isGreaterShare_20 : DC cX1_isGreaterShare 20 1 21 (.lshr) := ⟨by decide +kernel, rfl⟩
theorem e_X1_isGreaterShare_21 : DC cX1_isGreaterShare 21 1 22 (.ladd) := ⟨by decide +kernel, rfl⟩
theorem e_X1_isGreaterShare_22 : DC cX1_isGreaterShare 22 2 24 (.lstore 6) := ⟨by decide +kernel, rfl⟩
theorem e_X1_isGreaterShare_24 : DC cX1_isGreaterShare 24 1 25 (.aload_n 2) := ⟨by decide +kernel, rfl⟩
theorem e_X1_isGreaterShare_25 : DC cX1_isGreaterShare 25 3 28 (.getfield 15) := ⟨by decide +kernel, rfl⟩
theorem e_X1_isGreaterShare_28 : DC cX1_isGreaterShare 28 1 29 (.iload_n 1) := ⟨by decide +kernel, rfl⟩
theorem e_X1_isGreaterShare_29 : DC cX1_isGreaterShare 29 1 30 (.i2l) := ⟨by decide +kernel, rfl⟩
theorem e_X1_isGreaterShare_30 : DC cX1_isGreaterShare 30 1 31 (.lmul) := ⟨by decide +kernel, rfl⟩
theorem e_X1_isGreaterShare_31 : DC cX1_isGreaterShare 31 2 33 (.lstore 8) := ⟨by decide +kernel, rfl⟩
theorem e_X1_isGreaterShare_33 : DC cX1_isGreaterShare 33 1 34 (.aload_n 2) := ⟨by decide +kernel, rfl⟩
theorem e_X1_isGreaterShare_34 : DC cX1_isGreaterShare 34 3 37 (.getfield 9) := ⟨by decide +kernel, rfl⟩
theorem e_X1_isGreaterShare_37 : DC cX1_isGreaterShare 37 1 38 (.iload_n 1) := ⟨by decide +kernel, rfl⟩
theorem e_X1_isGreaterShare_38 : DC cX1_isGreaterShare 38 1 39 (.i2l) := ⟨by decide +kernel, rfl⟩
theorem e_X1_isGreaterShare_39 : DC cX1_isGreaterShare 39 1 40 (.lmul) := ⟨by decide +kernel, rfl⟩
theorem e_X1_isGreaterShare_40 : DC cX1_isGreaterShare 40 2 42 (.lload 8) := ⟨by decide +kernel, rfl⟩
theorem e_X1_isGreaterShare_42 : DC cX1_isGreaterShare 42 2 44 (.bipush 42) := ⟨by decide +kernel, rfl⟩
theorem e_X1_isGreaterShare_44 : DC cX1_isGreaterShare 44 1 45 (.lshr) := ⟨by decide +kernel, rfl⟩
theorem e_X1_isGreaterShare_45 : DC cX1_isGreaterShare 45 1 46 (.ladd) := ⟨by decide +kernel, rfl⟩
theorem e_X1_isGreaterShare_46 : DC cX1_isGreaterShare 46 2 48 (.lstore 10) := ⟨by decide +kernel, rfl⟩
theorem e_X1_isGreaterShare_48 : DC cX1_isGreaterShare 48 2 50 (.lload 6) := ⟨by decide +kernel, rfl⟩
theorem e_X1_isGreaterShare_50 : DC cX1_isGreaterShare 50 2 52 (.lload 10) := ⟨by decide +kernel, rfl⟩
theorem e_X1_isGreaterShare_52 : DC cX1_isGreaterShare 52 1 53 (.lcmp) := ⟨by decide +kernel, rfl⟩
theorem e_X1_isGreaterShare_53 : DJ cX1_isGreaterShare 53 80 56 (.ifCond .gt) := DJ.mk 27 (by decide +kernel) (by decide) rfl
theorem e_X1_isGreaterShare_56 : DC cX1_isGreaterShare 56 2 58 (.lload 6) := ⟨by decide +kernel, rfl⟩
theorem e_X1_isGreaterShare_58 : DC cX1_isGreaterShare 58 2 60 (.lload 10) := ⟨by decide +kernel, rfl⟩
theorem e_X1_isGreaterShare_60 : DC cX1_isGreaterShare 60 1 61 (.lcmp) := ⟨by decide +kernel, rfl⟩
theorem e_X1_isGreaterShare_61 : DJ cX1_isGreaterShare 61 84 64 (.ifCond .ne) := DJ.mk 23 (by decide +kernel) (by decide) rfl
theorem e_X1_isGreaterShare_64 : DC cX1_isGreaterShare 64 2 66 (.lload 4) := ⟨by decide +kernel, rfl⟩
theorem e_X1_isGreaterShare_66 : DC cX1_isGreaterShare 66 3 69 (.ldc2_w 13) := ⟨by decide +kernel, rfl⟩
theorem e_X1_isGreaterShare_69 : DC cX1_isGreaterShare 69 1 70 (.land) := ⟨by decide +kernel, rfl⟩
theorem e_X1_isGreaterShare_70 : DC cX1_isGreaterShare 70 2 72 (.lload 8) := ⟨by decide +kernel, rfl⟩
theorem e_X1_isGreaterShare_72 : DC cX1_isGreaterShare 72 3 75 (.ldc2_w 13) := ⟨by decide +kernel, rfl⟩
theorem e_X1_isGreaterShare_75 : DC cX1_isGreaterShare 75 1 76 (.land) := ⟨by decide +kernel, rfl⟩
theorem e_X1_isGreaterShare_76 : DC cX1_isGreaterShare 76 1 77 (.lcmp) := ⟨by decide +kernel, rfl⟩
theorem e_X1_isGreaterShare_77 : DJ cX1_isGreaterShare 77 84 80 (.ifCond .le) := DJ.mk 7 (by decide +kernel) (by decide) rfl
theorem e_X1_isGreaterShare_84 : DC cX1_isGreaterShare 84 1 85 (.iconst 0) := ⟨by decide +kernel, rfl⟩
theorem e_X1_isGreaterShare_85 : DC cX1_isGreaterShare 85 1 86 (.ireturn) := ⟨by decide +kernel, rfl⟩
theorem e_X1_isAbove_0 : DC cX1_isAbove 0 1 1 (.aload_n 0) := ⟨by decide +kernel, rfl⟩
theorem e_X1_isAbove_1 : DC cX1_isAbove 1 1 2 (.iconst 1) := ⟨by decide +kernel, rfl⟩
theorem e_X1_isAbove_2 : DC cX1_isAbove 2 1 3 (.aload_n 1) := ⟨by decide +kernel, rfl⟩
theorem e_X1_isAbove_3 : DC cX1_isAbove 3 1 4 (.iconst 1) := ⟨by decide +kernel, rfl⟩
theorem e_X1_isAbove_4 : DC cX1_isAbove 4 3 7 (.invokevirtual 18) := ⟨by decide +kernel, rfl⟩
theorem cb_X1_isGreaterShare : CB yX1_isGreaterShare cX1_isGreaterShare 12 (some .boolean) 3 := ⟨tb_in 1250 (by decide +kernel) (by decide +kernel), tb_in 4 (by decide +kernel) (by decide +kernel), by decide +kernel⟩
theorem ml_X1_18 : Cond.methodLink RX1 18 yX1_isGreaterShare ∈ tb := tb_in 1281 (by decide +kernel) (by decide +kernel)
theorem im_X1_isGreaterShare : Cond.instanceMethod yX1_isGreaterShare ∈ tb := tb_in 1248 (by decide +kernel) (by decide +kernel)
theorem se_X1_isGreaterShare : Cond.selects (yX1_isGreaterShare).cls yX1_isGreaterShare yX1_isGreaterShare ∈ tb := tb_in 1249 (by decide +kernel) (by decide +kernel)
theorem e_X1_isAbove_7 : DC cX1_isAbove 7 1 8 (.ireturn) := ⟨by decide +kernel, rfl⟩
theorem e_X1_copyFrom_0 : DC cX1_copyFrom 0 1 1 (.aload_n 0) := ⟨by decide +kernel, rfl⟩
theorem e_X1_copyFrom_1 : DC cX1_copyFrom 1 1 2 (.aload_n 1) := ⟨by decide +kernel, rfl⟩
theorem e_X1_copyFrom_2 : DC cX1_copyFrom 2 3 5 (.getfield 9) := ⟨by decide +kernel, rfl⟩
theorem e_X1_copyFrom_5 : DC cX1_copyFrom 5 3 8 (.putfield 9) := ⟨by decide +kernel, rfl⟩
theorem e_X1_copyFrom_8 : DC cX1_copyFrom 8 1 9 (.aload_n 0) := ⟨by decide +kernel, rfl⟩
theorem e_X1_copyFrom_9 : DC cX1_copyFrom 9 1 10 (.aload_n 1) := ⟨by decide +kernel, rfl⟩
theorem e_X1_copyFrom_10 : DC cX1_copyFrom 10 3 13 (.getfield 15) := ⟨by decide +kernel, rfl⟩
theorem e_X1_copyFrom_13 : DC cX1_copyFrom 13 3 16 (.putfield 15) := ⟨by decide +kernel, rfl⟩
theorem e_X1_copyFrom_16 : DC cX1_copyFrom 16 1 17 (.return_) := ⟨by decide +kernel, rfl⟩
theorem e_X3_kept_0 : DC cX3_kept 0 1 1 (.aload_n 0) := ⟨by decide +kernel, rfl⟩
theorem e_X3_kept_1 : DC cX3_kept 1 3 4 (.getfield 18) := ⟨by decide +kernel, rfl⟩
theorem fl_X3_18 : FL RX3 18 2 2 := ⟨RX3, TX3, 3, rfl, by decide, uw_2, tb_in 56 (by decide +kernel) (by decide +kernel), rfl⟩
theorem e_X3_kept_4 : DC cX3_kept 4 2 6 (.bipush 40) := ⟨by decide +kernel, rfl⟩
theorem e_X3_kept_6 : DC cX3_kept 6 3 9 (.invokestatic 34) := ⟨by decide +kernel, rfl⟩
theorem ml_X3_34 : Cond.methodLink RX3 34 Lib.Math.min.name ∈ tb := tb_in 1086 (by decide +kernel) (by decide +kernel)
theorem sm_min : Cond.static Lib.Math.min.name ∈ tb := tb_in 398 (by decide +kernel) (by decide +kernel)
theorem ini_math : Cond.initialized "java/lang/Math" ∈ tb := tb_in 11 (by decide +kernel) (by decide +kernel)
theorem co_min : Cond.code Lib.Math.min.name Lib.Math.min.code 2 (some .int) ∈ tb := tb_in 399 (by decide +kernel) (by decide +kernel)
theorem e_X3_kept_9 : DC cX3_kept 9 1 10 (.ireturn) := ⟨by decide +kernel, rfl⟩
theorem e_X3_copyFrom_0 : DC cX3_copyFrom 0 1 1 (.aload_n 0) := ⟨by decide +kernel, rfl⟩
theorem e_X3_copyFrom_1 : DC cX3_copyFrom 1 1 2 (.aload_n 1) := ⟨by decide +kernel, rfl⟩
theorem e_X3_copyFrom_2 : DC cX3_copyFrom 2 3 5 (.getfield 18) := ⟨by decide +kernel, rfl⟩
theorem e_X3_copyFrom_5 : DC cX3_copyFrom 5 3 8 (.putfield 18) := ⟨by decide +kernel, rfl⟩
theorem fp_X3_18 : FP RX3 18 2 2 false .int := ⟨RX3, TX3, 3, tyX3, rfl, by decide, uw_2, tb_in 56 (by decide +kernel) (by decide +kernel), rfl, rfl, by decide +kernel, tyX3_ok, nmX3⟩
theorem e_X3_copyFrom_8 : DC cX3_copyFrom 8 1 9 (.aload_n 1) := ⟨by decide +kernel, rfl⟩
theorem e_X3_copyFrom_9 : DC cX3_copyFrom 9 3 12 (.getfield 11) := ⟨by decide +kernel, rfl⟩
theorem fl_X3_11 : FL RX3 11 2 0 := ⟨RX3, TX3, 3, rfl, by decide, uw_2, tb_in 53 (by decide +kernel) (by decide +kernel), rfl⟩
theorem e_X3_copyFrom_12 : DC cX3_copyFrom 12 1 13 (.iconst 0) := ⟨by decide +kernel, rfl⟩
theorem e_X3_copyFrom_13 : DC cX3_copyFrom 13 1 14 (.aload_n 0) := ⟨by decide +kernel, rfl⟩
theorem e_X3_copyFrom_14 : DC cX3_copyFrom 14 3 17 (.getfield 11) := ⟨by decide +kernel, rfl⟩
theorem e_X3_copyFrom_17 : DC cX3_copyFrom 17 1 18 (.iconst 0) := ⟨by decide +kernel, rfl⟩
theorem e_X3_copyFrom_18 : DC cX3_copyFrom 18 3 21 (.sipush 360) := ⟨by decide +kernel, rfl⟩
theorem e_X3_copyFrom_21 : DC cX3_copyFrom 21 3 24 (.invokestatic 28) := ⟨by decide +kernel, rfl⟩
theorem ac_X3_28 : AC RX3 28 := ⟨tb_in 950 (by decide +kernel) (by decide +kernel), tb_in 620 (by decide +kernel) (by decide +kernel), tb_in 619 (by decide +kernel) (by decide +kernel), tb_in 23 (by decide +kernel) (by decide +kernel)⟩
theorem e_X3_copyFrom_24 : DC cX3_copyFrom 24 1 25 (.aload_n 1) := ⟨by decide +kernel, rfl⟩
theorem e_X3_copyFrom_25 : DC cX3_copyFrom 25 3 28 (.getfield 15) := ⟨by decide +kernel, rfl⟩
theorem fl_X3_15 : FL RX3 15 2 1 := ⟨RX3, TX3, 3, rfl, by decide, uw_2, tb_in 54 (by decide +kernel) (by decide +kernel), rfl⟩
theorem e_X3_copyFrom_28 : DC cX3_copyFrom 28 1 29 (.iconst 0) := ⟨by decide +kernel, rfl⟩
theorem e_X3_copyFrom_29 : DC cX3_copyFrom 29 1 30 (.aload_n 0) := ⟨by decide +kernel, rfl⟩
theorem e_X3_copyFrom_30 : DC cX3_copyFrom 30 3 33 (.getfield 15) := ⟨by decide +kernel, rfl⟩
theorem e_X3_copyFrom_33 : DC cX3_copyFrom 33 1 34 (.iconst 0) := ⟨by decide +kernel, rfl⟩
theorem e_X3_copyFrom_34 : DC cX3_copyFrom 34 2 36 (.bipush 6) := ⟨by decide +kernel, rfl⟩
theorem e_X3_copyFrom_36 : DC cX3_copyFrom 36 3 39 (.invokestatic 28) := ⟨by decide +kernel, rfl⟩
theorem e_X3_copyFrom_39 : DC cX3_copyFrom 39 1 40 (.return_) := ⟨by decide +kernel, rfl⟩
theorem e_X2_periodGoesBy_0 : DC cX2_periodGoesBy 0 1 1 (.aload_n 0) := ⟨by decide +kernel, rfl⟩
theorem e_X2_periodGoesBy_1 : DC cX2_periodGoesBy 1 3 4 (.getfield 40) := ⟨by decide +kernel, rfl⟩
theorem fl_X2_40 : FL RX2 40 1 5 := ⟨RX2, TX2, 13, rfl, by decide, uw_1, tb_in 234 (by decide +kernel) (by decide +kernel), rfl⟩
theorem e_X2_periodGoesBy_4 : DC cX2_periodGoesBy 4 1 5 (.lconst 0) := ⟨by decide +kernel, rfl⟩
theorem e_X2_periodGoesBy_5 : DC cX2_periodGoesBy 5 3 8 (.invokevirtual 132) := ⟨by decide +kernel, rfl⟩
theorem cb_X1_set : CB yX1_set cX1_set 3 none 1 := ⟨tb_in 484 (by decide +kernel) (by decide +kernel), tb_in 4 (by decide +kernel) (by decide +kernel), by decide +kernel⟩
theorem ml_X2_132 : Cond.methodLink RX2 132 yX1_set ∈ tb := tb_in 973 (by decide +kernel) (by decide +kernel)
theorem im_X1_set : Cond.instanceMethod yX1_set ∈ tb := tb_in 482 (by decide +kernel) (by decide +kernel)
theorem se_X1_set : Cond.selects (yX1_set).cls yX1_set yX1_set ∈ tb := tb_in 483 (by decide +kernel) (by decide +kernel)
theorem e_X2_periodGoesBy_8 : DC cX2_periodGoesBy 8 1 9 (.aload_n 0) := ⟨by decide +kernel, rfl⟩
theorem e_X2_periodGoesBy_9 : DC cX2_periodGoesBy 9 3 12 (.getfield 68) := ⟨by decide +kernel, rfl⟩
theorem fl_X2_68 : FL RX2 68 1 11 := ⟨RX2, TX2, 13, rfl, by decide, uw_1, tb_in 246 (by decide +kernel) (by decide +kernel), rfl⟩
theorem e_X2_periodGoesBy_12 : DC cX2_periodGoesBy 12 2 14 (.bipush 99) := ⟨by decide +kernel, rfl⟩
theorem e_X2_periodGoesBy_14 : DJ cX2_periodGoesBy 14 18 17 (.if_icmp .lt) := DJ.mk 4 (by decide +kernel) (by decide) rfl
theorem e_X2_periodGoesBy_18 : DC cX2_periodGoesBy 18 1 19 (.iconst 0) := ⟨by decide +kernel, rfl⟩
theorem e_X2_periodGoesBy_19 : DC cX2_periodGoesBy 19 1 20 (.istore_n 1) := ⟨by decide +kernel, rfl⟩
theorem e_X2_periodGoesBy_20 : DC cX2_periodGoesBy 20 1 21 (.iload_n 1) := ⟨by decide +kernel, rfl⟩
theorem e_X2_periodGoesBy_21 : DC cX2_periodGoesBy 21 1 22 (.aload_n 0) := ⟨by decide +kernel, rfl⟩
theorem e_X2_periodGoesBy_22 : DC cX2_periodGoesBy 22 3 25 (.getfield 58) := ⟨by decide +kernel, rfl⟩
theorem fl_X2_58 : FL RX2 58 1 8 := ⟨RX2, TX2, 13, rfl, by decide, uw_1, tb_in 238 (by decide +kernel) (by decide +kernel), rfl⟩
theorem e_X2_periodGoesBy_25 : DJ cX2_periodGoesBy 25 123 28 (.if_icmp .ge) := DJ.mk 98 (by decide +kernel) (by decide) rfl
theorem e_X2_periodGoesBy_123 : DC cX2_periodGoesBy 123 1 124 (.aload_n 0) := ⟨by decide +kernel, rfl⟩
theorem e_X2_periodGoesBy_124 : DC cX2_periodGoesBy 124 1 125 (.dup) := ⟨by decide +kernel, rfl⟩
theorem e_X2_periodGoesBy_125 : DC cX2_periodGoesBy 125 3 128 (.getfield 68) := ⟨by decide +kernel, rfl⟩
theorem e_X2_periodGoesBy_128 : DC cX2_periodGoesBy 128 1 129 (.iconst 1) := ⟨by decide +kernel, rfl⟩
theorem e_X2_periodGoesBy_129 : DC cX2_periodGoesBy 129 1 130 (.iadd) := ⟨by decide +kernel, rfl⟩
theorem e_X2_periodGoesBy_130 : DC cX2_periodGoesBy 130 3 133 (.putfield 68) := ⟨by decide +kernel, rfl⟩
theorem fp_X2_68 : FP RX2 68 1 11 false .int := ⟨RX2, TX2, 13, tyX2, rfl, by decide, uw_1, tb_in 246 (by decide +kernel) (by decide +kernel), rfl, rfl, by decide +kernel, tyX2_ok, nmX2⟩
theorem e_X2_periodGoesBy_133 : DC cX2_periodGoesBy 133 1 134 (.return_) := ⟨by decide +kernel, rfl⟩
theorem e_X2_leaseNamed_0 : DC cX2_leaseNamed 0 1 1 (.iconst 0) := ⟨by decide +kernel, rfl⟩
theorem e_X2_leaseNamed_1 : DC cX2_leaseNamed 1 1 2 (.istore_n 2) := ⟨by decide +kernel, rfl⟩
theorem e_X2_leaseNamed_2 : DC cX2_leaseNamed 2 1 3 (.iload_n 2) := ⟨by decide +kernel, rfl⟩
theorem e_X2_leaseNamed_3 : DC cX2_leaseNamed 3 1 4 (.aload_n 0) := ⟨by decide +kernel, rfl⟩
theorem e_X2_leaseNamed_4 : DC cX2_leaseNamed 4 3 7 (.getfield 58) := ⟨by decide +kernel, rfl⟩
theorem e_X2_leaseNamed_7 : DJ cX2_leaseNamed 7 31 10 (.if_icmp .ge) := DJ.mk 24 (by decide +kernel) (by decide) rfl
theorem e_X2_leaseNamed_31 : DC cX2_leaseNamed 31 1 32 (.iconst (-1)) := ⟨by decide +kernel, rfl⟩
theorem e_X2_leaseNamed_32 : DC cX2_leaseNamed 32 1 33 (.ireturn) := ⟨by decide +kernel, rfl⟩
theorem e_X2_findRates_0 : DC cX2_findRates 0 1 1 (.iconst 0) := ⟨by decide +kernel, rfl⟩
theorem e_X2_findRates_1 : DC cX2_findRates 1 1 2 (.istore_n 2) := ⟨by decide +kernel, rfl⟩
theorem e_X2_findRates_2 : DC cX2_findRates 2 1 3 (.iload_n 2) := ⟨by decide +kernel, rfl⟩
theorem e_X2_findRates_3 : DC cX2_findRates 3 1 4 (.aload_n 0) := ⟨by decide +kernel, rfl⟩
theorem e_X2_findRates_4 : DC cX2_findRates 4 3 7 (.getfield 58) := ⟨by decide +kernel, rfl⟩
theorem e_X2_findRates_7 : DJ cX2_findRates 7 64 10 (.if_icmp .ge) := DJ.mk 57 (by decide +kernel) (by decide) rfl
theorem e_X2_findRates_64 : DC cX2_findRates 64 1 65 (.return_) := ⟨by decide +kernel, rfl⟩
theorem e_X2_runningLeases_0 : DC cX2_runningLeases 0 1 1 (.iconst 0) := ⟨by decide +kernel, rfl⟩
theorem e_X2_runningLeases_1 : DC cX2_runningLeases 1 1 2 (.istore_n 1) := ⟨by decide +kernel, rfl⟩
theorem e_X2_runningLeases_2 : DC cX2_runningLeases 2 1 3 (.iconst 0) := ⟨by decide +kernel, rfl⟩
theorem e_X2_runningLeases_3 : DC cX2_runningLeases 3 1 4 (.istore_n 2) := ⟨by decide +kernel, rfl⟩
theorem e_X2_runningLeases_4 : DC cX2_runningLeases 4 1 5 (.iload_n 2) := ⟨by decide +kernel, rfl⟩
theorem e_X2_runningLeases_5 : DC cX2_runningLeases 5 1 6 (.aload_n 0) := ⟨by decide +kernel, rfl⟩
theorem e_X2_runningLeases_6 : DC cX2_runningLeases 6 3 9 (.getfield 58) := ⟨by decide +kernel, rfl⟩
theorem e_X2_runningLeases_9 : DJ cX2_runningLeases 9 34 12 (.if_icmp .ge) := DJ.mk 25 (by decide +kernel) (by decide) rfl
theorem e_X2_runningLeases_34 : DC cX2_runningLeases 34 1 35 (.iload_n 1) := ⟨by decide +kernel, rfl⟩
theorem e_X2_runningLeases_35 : DC cX2_runningLeases 35 1 36 (.ireturn) := ⟨by decide +kernel, rfl⟩
theorem e_X2_canTake_0 : DC cX2_canTake 0 1 1 (.iload_n 1) := ⟨by decide +kernel, rfl⟩
theorem e_X2_canTake_1 : DJ cX2_canTake 1 35 4 (.ifCond .lt) := DJ.mk 34 (by decide +kernel) (by decide) rfl
theorem e_X2_canTake_35 : DC cX2_canTake 35 1 36 (.iconst 0) := ⟨by decide +kernel, rfl⟩
theorem e_X2_canTake_36 : DC cX2_canTake 36 1 37 (.ireturn) := ⟨by decide +kernel, rfl⟩
theorem e_X2_canTake_4 : DC cX2_canTake 4 1 5 (.iload_n 1) := ⟨by decide +kernel, rfl⟩
theorem e_X2_canTake_5 : DC cX2_canTake 5 1 6 (.aload_n 0) := ⟨by decide +kernel, rfl⟩
theorem e_X2_canTake_6 : DC cX2_canTake 6 3 9 (.getfield 62) := ⟨by decide +kernel, rfl⟩
theorem fl_X2_62 : FL RX2 62 1 9 := ⟨RX2, TX2, 13, rfl, by decide, uw_1, tb_in 241 (by decide +kernel) (by decide +kernel), rfl⟩
theorem e_X2_canTake_9 : DJ cX2_canTake 9 35 12 (.if_icmp .ge) := DJ.mk 26 (by decide +kernel) (by decide) rfl
theorem e_X2_countAllOwed_0 : DC cX2_countAllOwed 0 1 1 (.aload_n 1) := ⟨by decide +kernel, rfl⟩
theorem e_X2_countAllOwed_1 : DC cX2_countAllOwed 1 1 2 (.lconst 0) := ⟨by decide +kernel, rfl⟩
theorem e_X2_countAllOwed_2 : DC cX2_countAllOwed 2 3 5 (.invokevirtual 132) := ⟨by decide +kernel, rfl⟩
theorem e_X2_countAllOwed_5 : DC cX2_countAllOwed 5 1 6 (.iconst 0) := ⟨by decide +kernel, rfl⟩
theorem e_X2_countAllOwed_6 : DC cX2_countAllOwed 6 1 7 (.istore_n 2) := ⟨by decide +kernel, rfl⟩
theorem e_X2_countAllOwed_7 : DC cX2_countAllOwed 7 1 8 (.iload_n 2) := ⟨by decide +kernel, rfl⟩
theorem e_X2_countAllOwed_8 : DC cX2_countAllOwed 8 1 9 (.aload_n 0) := ⟨by decide +kernel, rfl⟩
theorem e_X2_countAllOwed_9 : DC cX2_countAllOwed 9 3 12 (.getfield 58) := ⟨by decide +kernel, rfl⟩
theorem e_X2_countAllOwed_12 : DJ cX2_countAllOwed 12 34 15 (.if_icmp .ge) := DJ.mk 22 (by decide +kernel) (by decide) rfl
theorem e_X2_countAllOwed_34 : DC cX2_countAllOwed 34 1 35 (.return_) := ⟨by decide +kernel, rfl⟩
theorem e_X2_indexNow_0 : DC cX2_indexNow 0 1 1 (.aload_n 0) := ⟨by decide +kernel, rfl⟩
theorem e_X2_indexNow_1 : DC cX2_indexNow 1 3 4 (.getfield 68) := ⟨by decide +kernel, rfl⟩
theorem e_X2_indexNow_4 : DJ cX2_indexNow 4 28 7 (.ifCond .lt) := DJ.mk 24 (by decide +kernel) (by decide) rfl
theorem e_X2_indexNow_7 : DC cX2_indexNow 7 1 8 (.aload_n 0) := ⟨by decide +kernel, rfl⟩
theorem e_X2_indexNow_8 : DC cX2_indexNow 8 3 11 (.getfield 68) := ⟨by decide +kernel, rfl⟩
theorem e_X2_indexNow_11 : DC cX2_indexNow 11 2 13 (.bipush 99) := ⟨by decide +kernel, rfl⟩
theorem e_X2_indexNow_13 : DJ cX2_indexNow 13 28 16 (.if_icmp .gt) := DJ.mk 15 (by decide +kernel) (by decide) rfl
theorem e_X2_indexNow_16 : DC cX2_indexNow 16 1 17 (.aload_n 0) := ⟨by decide +kernel, rfl⟩
theorem e_X2_indexNow_17 : DC cX2_indexNow 17 3 20 (.getfield 23) := ⟨by decide +kernel, rfl⟩
theorem e_X2_indexNow_20 : DC cX2_indexNow 20 1 21 (.aload_n 0) := ⟨by decide +kernel, rfl⟩
theorem e_X2_indexNow_21 : DC cX2_indexNow 21 3 24 (.getfield 68) := ⟨by decide +kernel, rfl⟩
theorem e_X2_indexNow_24 : DC cX2_indexNow 24 1 25 (.iaload) := ⟨by decide +kernel, rfl⟩
theorem e_X2_indexNow_25 : DJ cX2_indexNow 25 31 28 .goto := DJ.mk 6 (by decide +kernel) (by decide) rfl
theorem e_X2_indexNow_31 : DC cX2_indexNow 31 1 32 (.ireturn) := ⟨by decide +kernel, rfl⟩
theorem e_X2_changeIndex_45 : DC cX2_changeIndex 45 1 46 (.iload_n 3) := ⟨by decide +kernel, rfl⟩
theorem e_X2_changeIndex_46 : DC cX2_changeIndex 46 1 47 (.iload_n 2) := ⟨by decide +kernel, rfl⟩
theorem e_X2_changeIndex_47 : DJ cX2_changeIndex 47 69 50 (.if_icmp .ge) := DJ.mk 22 (by decide +kernel) (by decide) rfl
theorem e_X2_changeIndex_69 : DC cX2_changeIndex 69 1 70 (.return_) := ⟨by decide +kernel, rfl⟩
theorem e_X2_changeIndex_50 : DC cX2_changeIndex 50 1 51 (.iload_n 3) := ⟨by decide +kernel, rfl⟩
theorem e_X2_changeIndex_51 : DC cX2_changeIndex 51 2 53 (.bipush 99) := ⟨by decide +kernel, rfl⟩
theorem e_X2_changeIndex_53 : DJ cX2_changeIndex 53 69 56 (.if_icmp .gt) := DJ.mk 16 (by decide +kernel) (by decide) rfl
theorem e_X2_changeIndex_56 : DC cX2_changeIndex 56 1 57 (.aload_n 0) := ⟨by decide +kernel, rfl⟩
theorem e_X2_changeIndex_57 : DC cX2_changeIndex 57 3 60 (.getfield 23) := ⟨by decide +kernel, rfl⟩
theorem e_X2_changeIndex_60 : DC cX2_changeIndex 60 1 61 (.iload_n 3) := ⟨by decide +kernel, rfl⟩
theorem e_X2_changeIndex_61 : DC cX2_changeIndex 61 1 62 (.iload_n 1) := ⟨by decide +kernel, rfl⟩
theorem e_X2_changeIndex_62 : DC cX2_changeIndex 62 1 63 (.iastore) := ⟨by decide +kernel, rfl⟩
theorem e_X2_changeIndex_63 : DC cX2_changeIndex 63 3 66 (.iinc 3 1) := ⟨by decide +kernel, rfl⟩
theorem e_X2_changeIndex_66 : DJ cX2_changeIndex 66 45 69 .goto := DJ.mk (-21) (by decide +kernel) (by decide) rfl
theorem e_X2_changeIndex_0 : DC cX2_changeIndex 0 2 2 (.bipush 100) := ⟨by decide +kernel, rfl⟩
theorem e_X2_changeIndex_2 : DC cX2_changeIndex 2 1 3 (.istore_n 2) := ⟨by decide +kernel, rfl⟩
theorem e_X2_changeIndex_3 : DC cX2_changeIndex 3 1 4 (.aload_n 0) := ⟨by decide +kernel, rfl⟩
theorem e_X2_changeIndex_4 : DC cX2_changeIndex 4 3 7 (.getfield 65) := ⟨by decide +kernel, rfl⟩
theorem fl_X2_65 : FL RX2 65 1 10 := ⟨RX2, TX2, 13, rfl, by decide, uw_1, tb_in 244 (by decide +kernel) (by decide +kernel), rfl⟩
theorem e_X2_changeIndex_7 : DC cX2_changeIndex 7 1 8 (.iconst 1) := ⟨by decide +kernel, rfl⟩
theorem e_X2_changeIndex_8 : DC cX2_changeIndex 8 1 9 (.isub) := ⟨by decide +kernel, rfl⟩
theorem e_X2_changeIndex_9 : DC cX2_changeIndex 9 1 10 (.istore_n 3) := ⟨by decide +kernel, rfl⟩
theorem e_X2_changeIndex_10 : DC cX2_changeIndex 10 1 11 (.iload_n 3) := ⟨by decide +kernel, rfl⟩
theorem e_X2_changeIndex_11 : DJ cX2_changeIndex 11 40 14 (.ifCond .lt) := DJ.mk 29 (by decide +kernel) (by decide) rfl
theorem e_X2_changeIndex_40 : DC cX2_changeIndex 40 1 41 (.aload_n 0) := ⟨by decide +kernel, rfl⟩
theorem e_X2_changeIndex_41 : DC cX2_changeIndex 41 3 44 (.getfield 68) := ⟨by decide +kernel, rfl⟩
theorem e_X2_changeIndex_44 : DC cX2_changeIndex 44 1 45 (.istore_n 3) := ⟨by decide +kernel, rfl⟩
theorem e_X2_copyFrom_0 : DC cX2_copyFrom 0 1 1 (.aload_n 0) := ⟨by decide +kernel, rfl⟩
theorem e_X2_copyFrom_1 : DC cX2_copyFrom 1 1 2 (.aload_n 1) := ⟨by decide +kernel, rfl⟩
theorem e_X2_copyFrom_2 : DC cX2_copyFrom 2 3 5 (.getfield 58) := ⟨by decide +kernel, rfl⟩
theorem e_X2_copyFrom_5 : DC cX2_copyFrom 5 3 8 (.putfield 58) := ⟨by decide +kernel, rfl⟩
theorem fp_X2_58 : FP RX2 58 1 8 false .int := ⟨RX2, TX2, 13, tyX2, rfl, by decide, uw_1, tb_in 238 (by decide +kernel) (by decide +kernel), rfl, rfl, by decide +kernel, tyX2_ok, nmX2⟩
theorem e_X2_copyFrom_8 : DC cX2_copyFrom 8 1 9 (.aload_n 0) := ⟨by decide +kernel, rfl⟩
theorem e_X2_copyFrom_9 : DC cX2_copyFrom 9 1 10 (.aload_n 1) := ⟨by decide +kernel, rfl⟩
theorem e_X2_copyFrom_10 : DC cX2_copyFrom 10 3 13 (.getfield 62) := ⟨by decide +kernel, rfl⟩
theorem e_X2_copyFrom_13 : DC cX2_copyFrom 13 3 16 (.putfield 62) := ⟨by decide +kernel, rfl⟩
theorem fp_X2_62 : FP RX2 62 1 9 false .int := ⟨RX2, TX2, 13, tyX2, rfl, by decide, uw_1, tb_in 241 (by decide +kernel) (by decide +kernel), rfl, rfl, by decide +kernel, tyX2_ok, nmX2⟩
theorem e_X2_copyFrom_16 : DC cX2_copyFrom 16 1 17 (.aload_n 0) := ⟨by decide +kernel, rfl⟩
theorem e_X2_copyFrom_17 : DC cX2_copyFrom 17 1 18 (.aload_n 1) := ⟨by decide +kernel, rfl⟩
theorem e_X2_copyFrom_18 : DC cX2_copyFrom 18 3 21 (.getfield 65) := ⟨by decide +kernel, rfl⟩
theorem e_X2_copyFrom_21 : DC cX2_copyFrom 21 3 24 (.putfield 65) := ⟨by decide +kernel, rfl⟩
theorem fp_X2_65 : FP RX2 65 1 10 false .int := ⟨RX2, TX2, 13, tyX2, rfl, by decide, uw_1, tb_in 244 (by decide +kernel) (by decide +kernel), rfl, rfl, by decide +kernel, tyX2_ok, nmX2⟩
theorem e_X2_copyFrom_24 : DC cX2_copyFrom 24 1 25 (.aload_n 0) := ⟨by decide +kernel, rfl⟩
theorem e_X2_copyFrom_25 : DC cX2_copyFrom 25 1 26 (.aload_n 1) := ⟨by decide +kernel, rfl⟩
theorem e_X2_copyFrom_26 : DC cX2_copyFrom 26 3 29 (.getfield 68) := ⟨by decide +kernel, rfl⟩
theorem e_X2_copyFrom_29 : DC cX2_copyFrom 29 3 32 (.putfield 68) := ⟨by decide +kernel, rfl⟩
theorem e_X2_copyFrom_32 : DC cX2_copyFrom 32 1 33 (.aload_n 0) := ⟨by decide +kernel, rfl⟩
theorem e_X2_copyFrom_33 : DC cX2_copyFrom 33 1 34 (.aload_n 1) := ⟨by decide +kernel, rfl⟩
theorem e_X2_copyFrom_34 : DC cX2_copyFrom 34 3 37 (.getfield 71) := ⟨by decide +kernel, rfl⟩
theorem fl_X2_71 : FL RX2 71 1 12 := ⟨RX2, TX2, 13, rfl, by decide, uw_1, tb_in 248 (by decide +kernel) (by decide +kernel), rfl⟩
theorem e_X2_copyFrom_37 : DC cX2_copyFrom 37 3 40 (.putfield 71) := ⟨by decide +kernel, rfl⟩
theorem fp_X2_71 : FP RX2 71 1 12 false .int := ⟨RX2, TX2, 13, tyX2, rfl, by decide, uw_1, tb_in 248 (by decide +kernel) (by decide +kernel), rfl, rfl, by decide +kernel, tyX2_ok, nmX2⟩
theorem e_X2_copyFrom_40 : DC cX2_copyFrom 40 1 41 (.aload_n 1) := ⟨by decide +kernel, rfl⟩
theorem e_X2_copyFrom_41 : DC cX2_copyFrom 41 3 44 (.getfield 23) := ⟨by decide +kernel, rfl⟩
theorem e_X2_copyFrom_44 : DC cX2_copyFrom 44 1 45 (.iconst 0) := ⟨by decide +kernel, rfl⟩
theorem e_X2_copyFrom_45 : DC cX2_copyFrom 45 1 46 (.aload_n 0) := ⟨by decide +kernel, rfl⟩
theorem e_X2_copyFrom_46 : DC cX2_copyFrom 46 3 49 (.getfield 23) := ⟨by decide +kernel, rfl⟩
theorem e_X2_copyFrom_49 : DC cX2_copyFrom 49 1 50 (.iconst 0) := ⟨by decide +kernel, rfl⟩
theorem e_X2_copyFrom_50 : DC cX2_copyFrom 50 2 52 (.bipush 100) := ⟨by decide +kernel, rfl⟩
theorem e_X2_copyFrom_52 : DC cX2_copyFrom 52 3 55 (.invokestatic 77) := ⟨by decide +kernel, rfl⟩
theorem ac_X2_77 : AC RX2 77 := ⟨tb_in 945 (by decide +kernel) (by decide +kernel), tb_in 620 (by decide +kernel) (by decide +kernel), tb_in 619 (by decide +kernel) (by decide +kernel), tb_in 23 (by decide +kernel) (by decide +kernel)⟩
theorem e_X2_copyFrom_55 : DC cX2_copyFrom 55 1 56 (.aload_n 1) := ⟨by decide +kernel, rfl⟩
theorem e_X2_copyFrom_56 : DC cX2_copyFrom 56 3 59 (.getfield 27) := ⟨by decide +kernel, rfl⟩
theorem fl_X2_27 : FL RX2 27 1 3 := ⟨RX2, TX2, 13, rfl, by decide, uw_1, tb_in 231 (by decide +kernel) (by decide +kernel), rfl⟩
theorem e_X2_copyFrom_59 : DC cX2_copyFrom 59 1 60 (.iconst 0) := ⟨by decide +kernel, rfl⟩
theorem e_X2_copyFrom_60 : DC cX2_copyFrom 60 1 61 (.aload_n 0) := ⟨by decide +kernel, rfl⟩
theorem e_X2_copyFrom_61 : DC cX2_copyFrom 61 3 64 (.getfield 27) := ⟨by decide +kernel, rfl⟩
theorem e_X2_copyFrom_64 : DC cX2_copyFrom 64 1 65 (.iconst 0) := ⟨by decide +kernel, rfl⟩
theorem e_X2_copyFrom_65 : DC cX2_copyFrom 65 2 67 (.bipush 8) := ⟨by decide +kernel, rfl⟩
theorem e_X2_copyFrom_67 : DC cX2_copyFrom 67 3 70 (.invokestatic 77) := ⟨by decide +kernel, rfl⟩
theorem e_X2_copyFrom_70 : DC cX2_copyFrom 70 1 71 (.aload_n 0) := ⟨by decide +kernel, rfl⟩
theorem e_X2_copyFrom_71 : DC cX2_copyFrom 71 3 74 (.getfield 33) := ⟨by decide +kernel, rfl⟩
theorem fl_X2_33 : FL RX2 33 1 4 := ⟨RX2, TX2, 13, rfl, by decide, uw_1, tb_in 232 (by decide +kernel) (by decide +kernel), rfl⟩
theorem e_X2_copyFrom_74 : DC cX2_copyFrom 74 1 75 (.aload_n 1) := ⟨by decide +kernel, rfl⟩
theorem e_X2_copyFrom_75 : DC cX2_copyFrom 75 3 78 (.getfield 33) := ⟨by decide +kernel, rfl⟩
theorem e_X2_copyFrom_78 : DC cX2_copyFrom 78 3 81 (.invokevirtual 83) := ⟨by decide +kernel, rfl⟩
theorem cb_X3_copyFrom : CB yX3_copyFrom cX3_copyFrom 2 none 1 := ⟨tb_in 949 (by decide +kernel) (by decide +kernel), tb_in 3 (by decide +kernel) (by decide +kernel), by decide +kernel⟩
theorem ml_X2_83 : Cond.methodLink RX2 83 yX3_copyFrom ∈ tb := tb_in 946 (by decide +kernel) (by decide +kernel)
theorem im_X3_copyFrom : Cond.instanceMethod yX3_copyFrom ∈ tb := tb_in 947 (by decide +kernel) (by decide +kernel)
theorem se_X3_copyFrom : Cond.selects (yX3_copyFrom).cls yX3_copyFrom yX3_copyFrom ∈ tb := tb_in 948 (by decide +kernel) (by decide +kernel)
theorem e_X2_copyFrom_81 : DC cX2_copyFrom 81 1 82 (.iconst 0) := ⟨by decide +kernel, rfl⟩
theorem e_X2_copyFrom_82 : DC cX2_copyFrom 82 1 83 (.istore_n 2) := ⟨by decide +kernel, rfl⟩
theorem e_X2_copyFrom_83 : DC cX2_copyFrom 83 1 84 (.iload_n 2) := ⟨by decide +kernel, rfl⟩
theorem e_X2_copyFrom_84 : DC cX2_copyFrom 84 1 85 (.aload_n 0) := ⟨by decide +kernel, rfl⟩
theorem e_X2_copyFrom_85 : DC cX2_copyFrom 85 3 88 (.getfield 58) := ⟨by decide +kernel, rfl⟩
theorem e_X2_copyFrom_88 : DJ cX2_copyFrom 88 112 91 (.if_icmp .ge) := DJ.mk 24 (by decide +kernel) (by decide) rfl
theorem e_X2_copyFrom_112 : DC cX2_copyFrom 112 1 113 (.iconst 0) := ⟨by decide +kernel, rfl⟩
theorem e_X2_copyFrom_113 : DC cX2_copyFrom 113 1 114 (.istore_n 2) := ⟨by decide +kernel, rfl⟩
theorem e_X2_copyFrom_114 : DC cX2_copyFrom 114 1 115 (.iload_n 2) := ⟨by decide +kernel, rfl⟩
theorem e_X2_copyFrom_115 : DC cX2_copyFrom 115 1 116 (.aload_n 0) := ⟨by decide +kernel, rfl⟩
theorem e_X2_copyFrom_116 : DC cX2_copyFrom 116 3 119 (.getfield 62) := ⟨by decide +kernel, rfl⟩
theorem e_X2_copyFrom_119 : DJ cX2_copyFrom 119 143 122 (.if_icmp .ge) := DJ.mk 24 (by decide +kernel) (by decide) rfl
theorem e_X2_copyFrom_143 : DC cX2_copyFrom 143 1 144 (.return_) := ⟨by decide +kernel, rfl⟩
theorem e_X2_yearByChance_5 : DC cX2_yearByChance 5 2 7 (.iload 5) := ⟨by decide +kernel, rfl⟩
theorem e_X2_yearByChance_7 : DC cX2_yearByChance 7 2 9 (.bipush 12) := ⟨by decide +kernel, rfl⟩
theorem e_X2_yearByChance_9 : DJ cX2_yearByChance 9 74 12 (.if_icmp .ge) := DJ.mk 65 (by decide +kernel) (by decide) rfl
theorem e_X2_yearByChance_74 : DC cX2_yearByChance 74 1 75 (.lload_n 3) := ⟨by decide +kernel, rfl⟩
theorem e_X2_yearByChance_75 : DC cX2_yearByChance 75 1 76 (.lreturn) := ⟨by decide +kernel, rfl⟩
theorem e_X2_yearByChance_12 : DC cX2_yearByChance 12 1 13 (.lload_n 3) := ⟨by decide +kernel, rfl⟩
theorem e_X2_yearByChance_13 : DC cX2_yearByChance 13 3 16 (.ldc2_w 251) := ⟨by decide +kernel, rfl⟩
theorem kc_X2_251 : Cond.constantLong RX2 251 1103515245 ∈ tb := tb_in 1343 (by decide +kernel) (by decide +kernel)
theorem e_X2_yearByChance_16 : DC cX2_yearByChance 16 1 17 (.lmul) := ⟨by decide +kernel, rfl⟩
theorem e_X2_yearByChance_17 : DC cX2_yearByChance 17 3 20 (.ldc2_w 253) := ⟨by decide +kernel, rfl⟩
theorem kc_X2_253 : Cond.constantLong RX2 253 12345 ∈ tb := tb_in 1344 (by decide +kernel) (by decide +kernel)
theorem e_X2_yearByChance_20 : DC cX2_yearByChance 20 1 21 (.ladd) := ⟨by decide +kernel, rfl⟩
theorem e_X2_yearByChance_21 : DC cX2_yearByChance 21 3 24 (.ldc2_w 255) := ⟨by decide +kernel, rfl⟩
theorem kc_X2_255 : Cond.constantLong RX2 255 2147483647 ∈ tb := tb_in 1345 (by decide +kernel) (by decide +kernel)
theorem e_X2_yearByChance_24 : DC cX2_yearByChance 24 1 25 (.land) := ⟨by decide +kernel, rfl⟩
theorem e_X2_yearByChance_25 : DC cX2_yearByChance 25 1 26 (.lstore_n 3) := ⟨by decide +kernel, rfl⟩
theorem e_X2_yearByChance_26 : DC cX2_yearByChance 26 1 27 (.lload_n 3) := ⟨by decide +kernel, rfl⟩
theorem e_X2_yearByChance_27 : DC cX2_yearByChance 27 3 30 (.ldc2_w 257) := ⟨by decide +kernel, rfl⟩
theorem kc_X2_257 : Cond.constantLong RX2 257 65536 ∈ tb := tb_in 1346 (by decide +kernel) (by decide +kernel)
theorem e_X2_yearByChance_30 : DC cX2_yearByChance 30 1 31 (.ldiv) := ⟨by decide +kernel, rfl⟩
theorem e_X2_yearByChance_31 : DC cX2_yearByChance 31 3 34 (.ldc2_w 259) := ⟨by decide +kernel, rfl⟩
theorem kc_X2_259 : Cond.constantLong RX2 259 21 ∈ tb := tb_in 1347 (by decide +kernel) (by decide +kernel)
theorem e_X2_yearByChance_34 : DC cX2_yearByChance 34 1 35 (.lrem) := ⟨by decide +kernel, rfl⟩
theorem e_X2_yearByChance_35 : DC cX2_yearByChance 35 1 36 (.l2i) := ⟨by decide +kernel, rfl⟩
theorem e_X2_yearByChance_36 : DC cX2_yearByChance 36 2 38 (.bipush 10) := ⟨by decide +kernel, rfl⟩
theorem e_X2_yearByChance_38 : DC cX2_yearByChance 38 1 39 (.isub) := ⟨by decide +kernel, rfl⟩
theorem e_X2_yearByChance_39 : DC cX2_yearByChance 39 2 41 (.istore 6) := ⟨by decide +kernel, rfl⟩
theorem e_X2_yearByChance_41 : DC cX2_yearByChance 41 1 42 (.aload_n 0) := ⟨by decide +kernel, rfl⟩
theorem e_X2_yearByChance_42 : DC cX2_yearByChance 42 3 45 (.sipush 500) := ⟨by decide +kernel, rfl⟩
theorem e_X2_yearByChance_45 : DC cX2_yearByChance 45 3 48 (.sipush 2000) := ⟨by decide +kernel, rfl⟩
theorem e_X2_yearByChance_48 : DC cX2_yearByChance 48 1 49 (.aload_n 0) := ⟨by decide +kernel, rfl⟩
theorem e_X2_yearByChance_49 : DC cX2_yearByChance 49 3 52 (.invokevirtual 153) := ⟨by decide +kernel, rfl⟩
theorem cb_X2_indexNow : CB yX2_indexNow cX2_indexNow 1 (some .int) 0 := ⟨tb_in 981 (by decide +kernel) (by decide +kernel), tb_in 2 (by decide +kernel) (by decide +kernel), by decide +kernel⟩
theorem ml_X2_153 : Cond.methodLink RX2 153 yX2_indexNow ∈ tb := tb_in 978 (by decide +kernel) (by decide +kernel)
theorem im_X2_indexNow : Cond.instanceMethod yX2_indexNow ∈ tb := tb_in 979 (by decide +kernel) (by decide +kernel)
theorem se_X2_indexNow : Cond.selects (yX2_indexNow).cls yX2_indexNow yX2_indexNow ∈ tb := tb_in 980 (by decide +kernel) (by decide +kernel)
theorem e_X2_yearByChance_52 : DC cX2_yearByChance 52 2 54 (.iload 6) := ⟨by decide +kernel, rfl⟩
theorem e_X2_yearByChance_54 : DC cX2_yearByChance 54 1 55 (.iadd) := ⟨by decide +kernel, rfl⟩
theorem e_X2_yearByChance_55 : DC cX2_yearByChance 55 3 58 (.invokestatic 261) := ⟨by decide +kernel, rfl⟩
theorem ml_X2_261 : Cond.methodLink RX2 261 Lib.Math.min.name ∈ tb := tb_in 1348 (by decide +kernel) (by decide +kernel)
theorem e_X2_yearByChance_58 : DC cX2_yearByChance 58 3 61 (.invokestatic 267) := ⟨by decide +kernel, rfl⟩
theorem ml_X2_267 : Cond.methodLink RX2 267 Lib.Math.max.name ∈ tb := tb_in 1349 (by decide +kernel) (by decide +kernel)
theorem sm_max : Cond.static Lib.Math.max.name ∈ tb := tb_in 492 (by decide +kernel) (by decide +kernel)
theorem co_max : Cond.code Lib.Math.max.name Lib.Math.max.code 2 (some .int) ∈ tb := tb_in 493 (by decide +kernel) (by decide +kernel)
theorem e_X2_yearByChance_61 : DC cX2_yearByChance 61 3 64 (.invokevirtual 270) := ⟨by decide +kernel, rfl⟩
theorem cb_X2_changeIndex : CB yX2_changeIndex cX2_changeIndex 4 none 1 := ⟨tb_in 1192 (by decide +kernel) (by decide +kernel), tb_in 2 (by decide +kernel) (by decide +kernel), by decide +kernel⟩
theorem ml_X2_270 : Cond.methodLink RX2 270 yX2_changeIndex ∈ tb := tb_in 1350 (by decide +kernel) (by decide +kernel)
theorem im_X2_changeIndex : Cond.instanceMethod yX2_changeIndex ∈ tb := tb_in 1190 (by decide +kernel) (by decide +kernel)
theorem se_X2_changeIndex : Cond.selects (yX2_changeIndex).cls yX2_changeIndex yX2_changeIndex ∈ tb := tb_in 1191 (by decide +kernel) (by decide +kernel)
theorem e_X2_yearByChance_64 : DC cX2_yearByChance 64 1 65 (.aload_n 0) := ⟨by decide +kernel, rfl⟩
theorem e_X2_yearByChance_65 : DC cX2_yearByChance 65 3 68 (.invokevirtual 273) := ⟨by decide +kernel, rfl⟩
theorem cb_X2_periodGoesBy : CB yX2_periodGoesBy cX2_periodGoesBy 3 none 0 := ⟨tb_in 972 (by decide +kernel) (by decide +kernel), tb_in 2 (by decide +kernel) (by decide +kernel), by decide +kernel⟩
theorem ml_X2_273 : Cond.methodLink RX2 273 yX2_periodGoesBy ∈ tb := tb_in 1351 (by decide +kernel) (by decide +kernel)
theorem im_X2_periodGoesBy : Cond.instanceMethod yX2_periodGoesBy ∈ tb := tb_in 970 (by decide +kernel) (by decide +kernel)
theorem se_X2_periodGoesBy : Cond.selects (yX2_periodGoesBy).cls yX2_periodGoesBy yX2_periodGoesBy ∈ tb := tb_in 971 (by decide +kernel) (by decide +kernel)
theorem e_X2_yearByChance_68 : DC cX2_yearByChance 68 3 71 (.iinc 5 1) := ⟨by decide +kernel, rfl⟩
theorem e_X2_yearByChance_71 : DJ cX2_yearByChance 71 5 74 .goto := DJ.mk (-66) (by decide +kernel) (by decide) rfl
theorem e_X2_yearByChance_0 : DC cX2_yearByChance 0 1 1 (.lload_n 1) := ⟨by decide +kernel, rfl⟩
theorem e_X2_yearByChance_1 : DC cX2_yearByChance 1 1 2 (.lstore_n 3) := ⟨by decide +kernel, rfl⟩
theorem e_X2_yearByChance_2 : DC cX2_yearByChance 2 1 3 (.iconst 0) := ⟨by decide +kernel, rfl⟩
theorem e_X2_yearByChance_3 : DC cX2_yearByChance 3 2 5 (.istore 5) := ⟨by decide +kernel, rfl⟩
set_option maxRecDepth 20000 in
theorem k_set0 (l : Launch) (V : VX) (N : Nat) (σ : Mem) (a : Nat) (x y : Int64) (h_a : σ a = some (ob 0 [.long x, .long y])) : Ct l V yX1_set cX1_set 3 none 0 0 0 N σ [.ref a, .long 0] (fun r τ => r = none ∧ τ = va_up σ a (some (ob 0 [.long 0, .long 0]))) := by
  refine Ct.of (by decide) (Nat.le_of_ble_eq_true rfl) [(0, .ref a), (1, .long 0)] rfl (fun X hX F hQ => ?_)
  refine m_aload_n F rfl e_X1_set_0 ?_
  refine m_lload_n F rfl e_X1_set_1 ?_
  refine m_bipush F (v := 42) (by decide) e_X1_set_2 ?_
  refine m_lshr F e_X1_set_4 ?_
  refine Wm.toplE (w := 0) (by decide) ?_
  refine m_put F e_X1_set_5 fp_X1_9 h_a rfl rfl (Nat.le_of_ble_eq_true rfl) (fs' := [.long 0, .long y]) rfl rfl ?_
  refine m_aload_n F rfl e_X1_set_8 ?_
  refine m_lload_n F rfl e_X1_set_9 ?_
  refine m_ldc2 F kc_X1_13 e_X1_set_10 ?_
  refine m_land F e_X1_set_13 ?_
  refine Wm.toplE (w := 0) (by decide) ?_
  refine m_put F e_X1_set_14 fp_X1_15 ru_eq rfl rfl (Nat.le_of_ble_eq_true rfl) (fs' := [.long 0, .long 0]) rfl (bx_uu _ _ _ _) ?_
  exact m_vret F hQ e_X1_set_17 (⟨rfl, rfl⟩)
set_option maxRecDepth 20000 in
theorem k_asLong0 (l : Launch) (V : VX) (N : Nat) (σ : Mem) (a : Nat) (h_a : σ a = some (ob 0 [.long 0, .long 0])) : Ct l V yX1_asLong cX1_asLong 1 (some .long) 0 0 0 N σ [.ref a] (fun r τ => r = some (.long 0) ∧ τ = σ) := by
  refine Ct.of (by decide) (Nat.le_of_ble_eq_true rfl) [(0, .ref a)] rfl (fun X hX F hQ => ?_)
  refine m_aload_n F rfl e_X1_asLong_0 ?_
  refine m_get F e_X1_asLong_1 fl_X1_9 h_a rfl ?_
  refine m_bipush F (v := 42) (by decide) e_X1_asLong_4 ?_
  refine m_lshl F e_X1_asLong_6 ?_
  refine Wm.toplE (w := 0) (by decide) ?_
  refine m_aload_n F rfl e_X1_asLong_7 ?_
  refine m_get F e_X1_asLong_8 fl_X1_15 h_a rfl ?_
  refine m_ladd F e_X1_asLong_11 ?_
  refine Wm.toplE (w := 0) (by decide) ?_
  exact m_lret F hQ e_X1_asLong_12 (⟨rfl, rfl⟩)
set_option maxRecDepth 20000 in
theorem k_isZero0 (l : Launch) (V : VX) (N : Nat) (σ : Mem) (a : Nat) (h_a : σ a = some (ob 0 [.long 0, .long 0])) : Ct l V yX1_isZero cX1_isZero 1 (some .boolean) 0 0 0 N σ [.ref a] (fun r τ => r = some (.int 1) ∧ τ = σ) := by
  refine Ct.of (by decide) (Nat.le_of_ble_eq_true rfl) [(0, .ref a)] rfl (fun X hX F hQ => ?_)
  refine m_aload_n F rfl e_X1_isZero_0 ?_
  refine m_get F e_X1_isZero_1 fl_X1_9 h_a rfl ?_
  refine m_lconst F (v := 0) (by decide) e_X1_isZero_4 ?_
  refine m_lcmp F e_X1_isZero_5 ?_
  refine Wm.topE (w := 0) (by decide) ?_
  refine m_if_ne F e_X1_isZero_6 (fun q => absurd (by decide) q) (fun _ => ?_)
  refine m_aload_n F rfl e_X1_isZero_9 ?_
  refine m_get F e_X1_isZero_10 fl_X1_15 h_a rfl ?_
  refine m_lconst F (v := 0) (by decide) e_X1_isZero_13 ?_
  refine m_lcmp F e_X1_isZero_14 ?_
  refine Wm.topE (w := 0) (by decide) ?_
  refine m_if_ne F e_X1_isZero_15 (fun q => absurd (by decide) q) (fun _ => ?_)
  refine m_iconst F (v := 1) (by decide) e_X1_isZero_18 ?_
  refine m_goto F e_X1_isZero_19 ?_
  exact m_zret F hQ e_X1_isZero_23 (by decide) (⟨rfl, rfl⟩)
set_option maxRecDepth 20000 in
theorem k_isGS0 (l : Launch) (V : VX) (N : Nat) (σ : Mem) (a c : Nat) (h_a : σ a = some (ob 0 [.long 0, .long 0])) (h_c : σ c = some (ob 0 [.long 0, .long 0])) : Ct l V yX1_isGreaterShare cX1_isGreaterShare 12 (some .boolean) 0 0 0 N σ [.ref a, .int 1, .ref c, .int 1] (fun r τ => r = some (.int 0) ∧ τ = σ) := by
  refine Ct.of (by decide) (Nat.le_of_ble_eq_true rfl) [(0, .ref a), (1, .int 1), (2, .ref c), (3, .int 1)] rfl (fun X hX F hQ => ?_)
  refine m_aload_n F rfl e_X1_isGreaterShare_0 ?_
  refine m_get F e_X1_isGreaterShare_1 fl_X1_15 h_a rfl ?_
  refine m_iload_n F rfl e_X1_isGreaterShare_4 ?_
  refine m_i2l F e_X1_isGreaterShare_5 ?_
  refine Wm.toplE (w := 1) (by decide) ?_
  refine m_lmul F e_X1_isGreaterShare_6 ?_
  refine Wm.toplE (w := 0) (by decide) ?_
  refine m_lstore F (lv' := [(4, .long 0), (0, .ref a), (1, .int 1), (2, .ref c), (3, .int 1)]) e_X1_isGreaterShare_7 (by decide) rfl ?_
  refine m_aload_n F rfl e_X1_isGreaterShare_9 ?_
  refine m_get F e_X1_isGreaterShare_10 fl_X1_9 h_a rfl ?_
  refine m_iload_n F rfl e_X1_isGreaterShare_13 ?_
  refine m_i2l F e_X1_isGreaterShare_14 ?_
  refine Wm.toplE (w := 1) (by decide) ?_
  refine m_lmul F e_X1_isGreaterShare_15 ?_
  refine Wm.toplE (w := 0) (by decide) ?_
  refine m_lload F rfl e_X1_isGreaterShare_16 ?_
  refine m_bipush F (v := 42) (by decide) e_X1_isGreaterShare_18 ?_
  refine m_lshr F e_X1_isGreaterShare_20 ?_
  refine Wm.toplE (w := 0) (by decide) ?_
  refine m_ladd F e_X1_isGreaterShare_21 ?_
  refine Wm.toplE (w := 0) (by decide) ?_
  refine m_lstore F (lv' := [(6, .long 0), (4, .long 0), (0, .ref a), (1, .int 1), (2, .ref c), (3, .int 1)]) e_X1_isGreaterShare_22 (by decide) rfl ?_
  refine m_aload_n F rfl e_X1_isGreaterShare_24 ?_
  refine m_get F e_X1_isGreaterShare_25 fl_X1_15 h_c rfl ?_
  refine m_iload_n F rfl e_X1_isGreaterShare_28 ?_
  refine m_i2l F e_X1_isGreaterShare_29 ?_
  refine Wm.toplE (w := 1) (by decide) ?_
  refine m_lmul F e_X1_isGreaterShare_30 ?_
  refine Wm.toplE (w := 0) (by decide) ?_
  refine m_lstore F (lv' := [(8, .long 0), (6, .long 0), (4, .long 0), (0, .ref a), (1, .int 1), (2, .ref c), (3, .int 1)]) e_X1_isGreaterShare_31 (by decide) rfl ?_
  refine m_aload_n F rfl e_X1_isGreaterShare_33 ?_
  refine m_get F e_X1_isGreaterShare_34 fl_X1_9 h_c rfl ?_
  refine m_iload_n F rfl e_X1_isGreaterShare_37 ?_
  refine m_i2l F e_X1_isGreaterShare_38 ?_
  refine Wm.toplE (w := 1) (by decide) ?_
  refine m_lmul F e_X1_isGreaterShare_39 ?_
  refine Wm.toplE (w := 0) (by decide) ?_
  refine m_lload F rfl e_X1_isGreaterShare_40 ?_
  refine m_bipush F (v := 42) (by decide) e_X1_isGreaterShare_42 ?_
  refine m_lshr F e_X1_isGreaterShare_44 ?_
  refine Wm.toplE (w := 0) (by decide) ?_
  refine m_ladd F e_X1_isGreaterShare_45 ?_
  refine Wm.toplE (w := 0) (by decide) ?_
  refine m_lstore F (lv' := [(10, .long 0), (8, .long 0), (6, .long 0), (4, .long 0), (0, .ref a), (1, .int 1), (2, .ref c), (3, .int 1)]) e_X1_isGreaterShare_46 (by decide) rfl ?_
  refine m_lload F rfl e_X1_isGreaterShare_48 ?_
  refine m_lload F rfl e_X1_isGreaterShare_50 ?_
  refine m_lcmp F e_X1_isGreaterShare_52 ?_
  refine Wm.topE (w := 0) (by decide) ?_
  refine m_if_gt F e_X1_isGreaterShare_53 (fun q => absurd q (by decide)) (fun _ => ?_)
  refine m_lload F rfl e_X1_isGreaterShare_56 ?_
  refine m_lload F rfl e_X1_isGreaterShare_58 ?_
  refine m_lcmp F e_X1_isGreaterShare_60 ?_
  refine Wm.topE (w := 0) (by decide) ?_
  refine m_if_ne F e_X1_isGreaterShare_61 (fun q => absurd (by decide) q) (fun _ => ?_)
  refine m_lload F rfl e_X1_isGreaterShare_64 ?_
  refine m_ldc2 F kc_X1_13 e_X1_isGreaterShare_66 ?_
  refine m_land F e_X1_isGreaterShare_69 ?_
  refine Wm.toplE (w := 0) (by decide) ?_
  refine m_lload F rfl e_X1_isGreaterShare_70 ?_
  refine m_ldc2 F kc_X1_13 e_X1_isGreaterShare_72 ?_
  refine m_land F e_X1_isGreaterShare_75 ?_
  refine Wm.toplE (w := 0) (by decide) ?_
  refine m_lcmp F e_X1_isGreaterShare_76 ?_
  refine Wm.topE (w := 0) (by decide) ?_
  refine m_if_le F e_X1_isGreaterShare_77 (fun _ => ?_) (fun q => absurd (by decide) q)
  refine m_iconst F (v := 0) (by decide) e_X1_isGreaterShare_84 ?_
  exact m_zret F hQ e_X1_isGreaterShare_85 (by decide) (⟨rfl, rfl⟩)
set_option maxRecDepth 20000 in
theorem k_isAbove0 (l : Launch) (V : VX) (N : Nat) (σ : Mem) (a c : Nat) (h_a : σ a = some (ob 0 [.long 0, .long 0])) (h_c : σ c = some (ob 0 [.long 0, .long 0])) : Ct l V yX1_isAbove cX1_isAbove 2 (some .boolean) 1 0 0 N σ [.ref a, .ref c] (fun r τ => r = some (.int 0) ∧ τ = σ) := by
  refine Ct.of (by decide) (Nat.le_of_ble_eq_true rfl) [(0, .ref a), (1, .ref c)] rfl (fun X hX F hQ => ?_)
  refine m_aload_n F rfl e_X1_isAbove_0 ?_
  refine m_iconst F (v := 1) (by decide) e_X1_isAbove_1 ?_
  refine m_aload_n F rfl e_X1_isAbove_2 ?_
  refine m_iconst F (v := 1) (by decide) e_X1_isAbove_3 ?_
  refine m_callV F e_X1_isAbove_4 (k_isGS0 (x_l X) V _ _ a c h_a h_c) cb_X1_isGreaterShare ml_X1_18 im_X1_isGreaterShare se_X1_isGreaterShare h_a rfl rfl (rest := []) rfl (Nat.le_of_ble_eq_true rfl) ⟨Nat.le_of_ble_eq_true rfl, Nat.le_of_ble_eq_true rfl⟩ ⟨Nat.le_of_ble_eq_true rfl, Nat.le_of_ble_eq_true rfl⟩ (k' := 0) (z' := 0) (N' := N) rfl rfl rfl (fun r τ hp => ?_)
  obtain ⟨rfl, rfl⟩ := hp
  exact m_zret F hQ e_X1_isAbove_7 (by decide) (⟨rfl, rfl⟩)
set_option maxRecDepth 20000 in
theorem k_Acopy0 (l : Launch) (V : VX) (N : Nat) (σ : Mem) (a c : Nat) (h_a : σ a = some (ob 0 [.long 0, .long 0])) (h_c : σ c = some (ob 0 [.long 0, .long 0])) : Ct l V yX1_copyFrom cX1_copyFrom 2 none 0 0 0 N σ [.ref a, .ref c] (fun r τ => r = none ∧ τ = σ) := by
  refine Ct.of (by decide) (Nat.le_of_ble_eq_true rfl) [(0, .ref a), (1, .ref c)] rfl (fun X hX F hQ => ?_)
  refine m_aload_n F rfl e_X1_copyFrom_0 ?_
  refine m_aload_n F rfl e_X1_copyFrom_1 ?_
  refine m_get F e_X1_copyFrom_2 fl_X1_9 h_c rfl ?_
  refine m_put F e_X1_copyFrom_5 fp_X1_9 h_a rfl rfl (Nat.le_of_ble_eq_true rfl) (fs' := [.long 0, .long 0]) rfl (up_self h_a).symm ?_
  refine m_aload_n F rfl e_X1_copyFrom_8 ?_
  refine m_aload_n F rfl e_X1_copyFrom_9 ?_
  refine m_get F e_X1_copyFrom_10 fl_X1_15 h_c rfl ?_
  refine m_put F e_X1_copyFrom_13 fp_X1_15 h_a rfl rfl (Nat.le_of_ble_eq_true rfl) (fs' := [.long 0, .long 0]) rfl (up_self h_a).symm ?_
  exact m_vret F hQ e_X1_copyFrom_16 (⟨rfl, rfl⟩)
set_option maxRecDepth 20000 in
theorem k_kept0 (l : Launch) (V : VX) (N : Nat) (σ : Mem) (a : Nat) (h_a : σ a = some (ob 2 [.ref (a + 1), .ref (a + 2), .int 0])) : Ct l V yX3_kept cX3_kept 1 (some .int) 1 0 0 N σ [.ref a] (fun r τ => r = some (.int 0) ∧ τ = σ) := by
  refine Ct.of (by decide) (Nat.le_of_ble_eq_true rfl) [(0, .ref a)] rfl (fun X hX F hQ => ?_)
  refine m_aload_n F rfl e_X3_kept_0 ?_
  refine m_get F e_X3_kept_1 fl_X3_18 h_a rfl ?_
  refine m_bipush F (v := 40) (by decide) e_X3_kept_4 ?_
  refine m_min F e_X3_kept_6 ml_X3_34 sm_min ini_math co_min (Nat.le_of_ble_eq_true rfl) (Nat.le_of_ble_eq_true rfl) (Nat.le_of_ble_eq_true rfl) (Nat.le_of_ble_eq_true rfl) ?_
  refine Wm.topE (w := 0) (by decide) ?_
  exact m_iret F hQ e_X3_kept_9 (⟨rfl, rfl⟩)
set_option maxRecDepth 20000 in
theorem k_Jcopy (l : Launch) (V : VX) (N : Nat) (σ : Mem) (a c : Nat) (ta tc : Int32) (ra ca rc cc : Nat → Int64) (hac : a + 2 < c ∨ c + 2 < a) (h_a : σ a = some (ob 2 [.ref (a + 1), .ref (a + 2), .int ta])) (h_a1 : σ (a + 1) = some (aJ V 360 ra)) (h_a2 : σ (a + 2) = some (aJ V 6 ca)) (h_c : σ c = some (ob 2 [.ref (c + 1), .ref (c + 2), .int tc])) (h_c1 : σ (c + 1) = some (aJ V 360 rc)) (h_c2 : σ (c + 2) = some (aJ V 6 cc)) : Ct l V yX3_copyFrom cX3_copyFrom 2 none 1 0 0 N σ [.ref a, .ref c] (fun r τ => r = none ∧ τ = (va_up (va_up (va_up σ a (some (ob 2 [.ref (a + 1), .ref (a + 2), .int tc]))) (a + 1) (some (aJ V 360 (va_cpy rc ra 0 0 360)))) (a + 2) (some (aJ V 6 (va_cpy cc ca 0 0 6))))) := by
  refine Ct.of (by decide) (Nat.le_of_ble_eq_true rfl) [(0, .ref a), (1, .ref c)] rfl (fun X hX F hQ => ?_)
  refine m_aload_n F rfl e_X3_copyFrom_0 ?_
  refine m_aload_n F rfl e_X3_copyFrom_1 ?_
  refine m_get F e_X3_copyFrom_2 fl_X3_18 h_c rfl ?_
  refine m_put F e_X3_copyFrom_5 fp_X3_18 h_a rfl rfl (Nat.le_of_ble_eq_true rfl) (fs' := [.ref (a + 1), .ref (a + 2), .int tc]) rfl rfl ?_
  refine m_aload_n F rfl e_X3_copyFrom_8 ?_
  refine m_get F e_X3_copyFrom_9 fl_X3_11 (ru_ne (by omega) h_c) rfl ?_
  refine m_iconst F (v := 0) (by decide) e_X3_copyFrom_12 ?_
  refine m_aload_n F rfl e_X3_copyFrom_13 ?_
  refine m_get F e_X3_copyFrom_14 fl_X3_11 ru_eq rfl ?_
  refine m_iconst F (v := 0) (by decide) e_X3_copyFrom_17 ?_
  refine m_sipush F (v := 360) (by decide) e_X3_copyFrom_18 ?_
  refine m_copyJ F e_X3_copyFrom_21 ac_X3_28 (ru_ne (by omega) h_c1) (ru_ne (by omega) h_a1) (by decide) (by decide) (by decide) (sp := 0) (dp := 0) (m := 360) (by decide) (by decide) (by decide) (by decide) (by decide) (Nat.le_of_ble_eq_true rfl) (Nat.le_of_ble_eq_true rfl) rfl rfl ?_
  refine m_aload_n F rfl e_X3_copyFrom_24 ?_
  refine m_get F e_X3_copyFrom_25 fl_X3_15 (ru_ne (by omega) (ru_ne (by omega) h_c)) rfl ?_
  refine m_iconst F (v := 0) (by decide) e_X3_copyFrom_28 ?_
  refine m_aload_n F rfl e_X3_copyFrom_29 ?_
  refine m_get F e_X3_copyFrom_30 fl_X3_15 (ru_ne (by omega) ru_eq) rfl ?_
  refine m_iconst F (v := 0) (by decide) e_X3_copyFrom_33 ?_
  refine m_bipush F (v := 6) (by decide) e_X3_copyFrom_34 ?_
  refine m_copyJ F e_X3_copyFrom_36 ac_X3_28 (ru_ne (by omega) (ru_ne (by omega) h_c2)) (ru_ne (by omega) (ru_ne (by omega) h_a2)) (by decide) (by decide) (by decide) (sp := 0) (dp := 0) (m := 6) (by decide) (by decide) (by decide) (by decide) (by decide) (Nat.le_of_ble_eq_true rfl) (Nat.le_of_ble_eq_true rfl) rfl rfl ?_
  exact m_vret F hQ e_X3_copyFrom_39 (⟨rfl, rfl⟩)
def EB (V : VX) (τ : Mem) (b p : Nat) : Prop := ∃ (ix tp : Nat → Int32) (rw ac : Nat → Int64) (h0 h1 t0 t1 : Int64), BK V τ b 0 0 0 (nI p) 0 0 ix tp rw ac 0 0 h0 h1 t0 t1
theorem EB.keep {V : VX} {σ τ : Mem} {b p : Nat} (h : EB V σ b p) (hk : ∀ x, b ≤ x → x ≤ b + 62 → τ x = σ x) : EB V τ b p := by
  obtain ⟨ix, tp, rw, ac, h0, h1, t0, t1, hb⟩ := h
  exact ⟨ix, tp, rw, ac, h0, h1, t0, t1, hb.keep (fun x g1 g2 => hk x g1 (by omega))⟩
theorem BZ.eb {V : VX} {τ : Mem} {b : Nat} (h : BZ V τ b) : EB V τ b 0 := ⟨_, _, _, _, _, _, _, _, h.1⟩
theorem EB.head {V : VX} {τ : Mem} {b p : Nat} (h : EB V τ b p) : τ b = some (ob 1 [.ref (b + 1), .ref (b + 2), .ref (b + 3), .ref (b + 4), .ref (b + 5), .ref (b + 8), .ref (b + 9), .ref (b + 10), .int 0, .int 0, .int 0, .int (nI p), .int 0]) := by
  obtain ⟨ix, tp, rw, ac, h0, h1, t0, t1, hb⟩ := h
  exact hb.1
theorem EB.jn {V : VX} {τ : Mem} {b p : Nat} (h : EB V τ b p) : τ (b + 5) = some (ob 2 [.ref (b + 6), .ref (b + 7), .int 0]) := by
  obtain ⟨ix, tp, rw, ac, h0, h1, t0, t1, hb⟩ := h
  exact hb.2.2.2.2.2.1
theorem EB.paid {V : VX} {τ : Mem} {b p : Nat} (h : EB V τ b p) : τ (b + 8) = some (ob 0 [.long 0, .long 0]) := by
  obtain ⟨ix, tp, rw, ac, h0, h1, t0, t1, hb⟩ := h
  exact hb.2.2.2.2.2.2.2.2.1
set_option maxRecDepth 20000 in
theorem k_period0 (l : Launch) (V : VX) (N : Nat) (σ : Mem) (b p : Nat)  (hB : EB V σ b p) (hp9 : p < 99) : Ct l V yX2_periodGoesBy cX2_periodGoesBy 3 none 1 0 0 N σ [.ref b] (fun r τ => r = none ∧ EB V τ b (p + 1) ∧ ∀ q : Nat, (q < b ∨ b + 62 < q) → τ q = σ q) := by
  refine Ct.of (by decide) (Nat.le_of_ble_eq_true rfl) [(0, .ref b)] rfl (fun X hX F hQ => ?_)
  obtain ⟨ix25, tp25, rw25, ac25, h025, h125, t025, t125, a0_25, a1_25, a2_25, a3_25, a4_25, a5_25, a6_25, a7_25, a8_25, a9_25, a10_25⟩ := hB
  refine m_aload_n F rfl e_X2_periodGoesBy_0 ?_
  refine m_get F e_X2_periodGoesBy_1 fl_X2_40 a0_25 rfl ?_
  refine m_lconst F (v := 0) (by decide) e_X2_periodGoesBy_4 ?_
  refine m_callV F e_X2_periodGoesBy_5 (k_set0 (x_l X) V _ _ (b + 8) 0 0 a8_25) cb_X1_set ml_X2_132 im_X1_set se_X1_set a8_25 rfl rfl (rest := []) rfl (Nat.le_of_ble_eq_true rfl) ⟨Nat.le_of_ble_eq_true rfl, Nat.le_of_ble_eq_true rfl⟩ ⟨Nat.le_of_ble_eq_true rfl, Nat.le_of_ble_eq_true rfl⟩ (k' := 0) (z' := 0) (N' := N) rfl rfl rfl (fun r τ hp => ?_)
  obtain ⟨rfl, rfl⟩ := hp
  refine m_aload_n F rfl e_X2_periodGoesBy_8 ?_
  refine m_get F e_X2_periodGoesBy_9 fl_X2_68 (ru_ne (by omega) a0_25) rfl ?_
  refine m_bipush F (v := 99) (by decide) e_X2_periodGoesBy_12 ?_
  refine m_icmp_lt F e_X2_periodGoesBy_14 (fun q14 => ?_) (fun q14 => ?_)
  · have c14 : p < 99 := (nI_ltI (a := p) (b := 99) (by omega) (by omega)).mp q14
    refine m_iconst F (v := 0) (by decide) e_X2_periodGoesBy_18 ?_
    refine m_istore_n F (lv' := [(1, .int 0), (0, .ref b)]) e_X2_periodGoesBy_19 (by decide) rfl ?_
    refine m_iload_n F rfl e_X2_periodGoesBy_20 ?_
    refine m_aload_n F rfl e_X2_periodGoesBy_21 ?_
    refine m_get F e_X2_periodGoesBy_22 fl_X2_58 (ru_ne (by omega) a0_25) rfl ?_
    refine m_icmp_ge F e_X2_periodGoesBy_25 (fun _ => ?_) (fun q => absurd (by decide) q)
    refine m_aload_n F rfl e_X2_periodGoesBy_123 ?_
    refine m_dup F rfl e_X2_periodGoesBy_124 ?_
    refine m_get F e_X2_periodGoesBy_125 fl_X2_68 (ru_ne (by omega) a0_25) rfl ?_
    refine m_iconst F (v := 1) (by decide) e_X2_periodGoesBy_128 ?_
    refine m_iadd F e_X2_periodGoesBy_129 ?_
    refine Wm.topE (w := nI (p + 1)) (nI_add p 1) ?_
    refine m_put F e_X2_periodGoesBy_130 fp_X2_68 (ru_ne (by omega) a0_25) rfl rfl (Nat.le_of_ble_eq_true rfl) (fs' := [.ref (b + 1), .ref (b + 2), .ref (b + 3), .ref (b + 4), .ref (b + 5), .ref (b + 8), .ref (b + 9), .ref (b + 10), .int 0, .int 0, .int 0, .int (nI (p + 1)), .int 0]) rfl rfl ?_
    exact m_vret F hQ e_X2_periodGoesBy_133 (⟨rfl, ⟨_, _, _, _, _, _, _, _, ru_eq, (ru_ne (by omega) (ru_ne (by omega) a1_25)), (ru_ne (by omega) (ru_ne (by omega) a2_25)), (ru_ne (by omega) (ru_ne (by omega) a3_25)), (ru_ne (by omega) (ru_ne (by omega) a4_25)), (ru_ne (by omega) (ru_ne (by omega) a5_25)), (ru_ne (by omega) (ru_ne (by omega) a6_25)), (ru_ne (by omega) (ru_ne (by omega) a7_25)), (ru_ne (by omega) ru_eq), (ru_ne (by omega) (ru_ne (by omega) a9_25)), (ru_ne (by omega) (ru_ne (by omega) a10_25))⟩, fun q h1 => (ru_ne (by omega) (ru_ne (by omega) rfl))⟩)
  · have c14 : p ≥ 99 := by have hh := mt (nI_ltI (a := p) (b := 99) (by omega) (by omega)).mpr q14; omega
    exfalso; omega
set_option maxRecDepth 20000 in
theorem k_leaseNamed0 (l : Launch) (V : VX) (N : Nat) (σ : Mem) (b p : Nat) (x : Int32) (hB : EB V σ b p)  : Ct l V yX2_leaseNamed cX2_leaseNamed 3 (some .int) 0 0 0 N σ [.ref b, .int x] (fun r τ => r = some (.int (-1)) ∧ τ = σ) := by
  refine Ct.of (by decide) (Nat.le_of_ble_eq_true rfl) [(0, .ref b), (1, .int x)] rfl (fun X hX F hQ => ?_)
  obtain ⟨ix26, tp26, rw26, ac26, h026, h126, t026, t126, a0_26, a1_26, a2_26, a3_26, a4_26, a5_26, a6_26, a7_26, a8_26, a9_26, a10_26⟩ := hB
  refine m_iconst F (v := 0) (by decide) e_X2_leaseNamed_0 ?_
  refine m_istore_n F (lv' := [(2, .int 0), (0, .ref b), (1, .int x)]) e_X2_leaseNamed_1 (by decide) rfl ?_
  refine m_iload_n F rfl e_X2_leaseNamed_2 ?_
  refine m_aload_n F rfl e_X2_leaseNamed_3 ?_
  refine m_get F e_X2_leaseNamed_4 fl_X2_58 a0_26 rfl ?_
  refine m_icmp_ge F e_X2_leaseNamed_7 (fun _ => ?_) (fun q => absurd (by decide) q)
  refine m_iconst F (v := (-1)) (by decide) e_X2_leaseNamed_31 ?_
  exact m_iret F hQ e_X2_leaseNamed_32 (⟨rfl, rfl⟩)
set_option maxRecDepth 20000 in
theorem k_findRates0 (l : Launch) (V : VX) (N : Nat) (σ : Mem) (b p : Nat) (a : Nat) (hB : EB V σ b p)  : Ct l V yX2_findRates cX2_findRates 5 none 0 0 0 N σ [.ref b, .ref a] (fun r τ => r = none ∧ τ = σ) := by
  refine Ct.of (by decide) (Nat.le_of_ble_eq_true rfl) [(0, .ref b), (1, .ref a)] rfl (fun X hX F hQ => ?_)
  obtain ⟨ix27, tp27, rw27, ac27, h027, h127, t027, t127, a0_27, a1_27, a2_27, a3_27, a4_27, a5_27, a6_27, a7_27, a8_27, a9_27, a10_27⟩ := hB
  refine m_iconst F (v := 0) (by decide) e_X2_findRates_0 ?_
  refine m_istore_n F (lv' := [(2, .int 0), (0, .ref b), (1, .ref a)]) e_X2_findRates_1 (by decide) rfl ?_
  refine m_iload_n F rfl e_X2_findRates_2 ?_
  refine m_aload_n F rfl e_X2_findRates_3 ?_
  refine m_get F e_X2_findRates_4 fl_X2_58 a0_27 rfl ?_
  refine m_icmp_ge F e_X2_findRates_7 (fun _ => ?_) (fun q => absurd (by decide) q)
  exact m_vret F hQ e_X2_findRates_64 (⟨rfl, rfl⟩)
set_option maxRecDepth 20000 in
theorem k_runningLeases0 (l : Launch) (V : VX) (N : Nat) (σ : Mem) (b p : Nat)  (hB : EB V σ b p)  : Ct l V yX2_runningLeases cX2_runningLeases 3 (some .int) 0 0 0 N σ [.ref b] (fun r τ => r = some (.int 0) ∧ τ = σ) := by
  refine Ct.of (by decide) (Nat.le_of_ble_eq_true rfl) [(0, .ref b)] rfl (fun X hX F hQ => ?_)
  obtain ⟨ix28, tp28, rw28, ac28, h028, h128, t028, t128, a0_28, a1_28, a2_28, a3_28, a4_28, a5_28, a6_28, a7_28, a8_28, a9_28, a10_28⟩ := hB
  refine m_iconst F (v := 0) (by decide) e_X2_runningLeases_0 ?_
  refine m_istore_n F (lv' := [(1, .int 0), (0, .ref b)]) e_X2_runningLeases_1 (by decide) rfl ?_
  refine m_iconst F (v := 0) (by decide) e_X2_runningLeases_2 ?_
  refine m_istore_n F (lv' := [(2, .int 0), (1, .int 0), (0, .ref b)]) e_X2_runningLeases_3 (by decide) rfl ?_
  refine m_iload_n F rfl e_X2_runningLeases_4 ?_
  refine m_aload_n F rfl e_X2_runningLeases_5 ?_
  refine m_get F e_X2_runningLeases_6 fl_X2_58 a0_28 rfl ?_
  refine m_icmp_ge F e_X2_runningLeases_9 (fun _ => ?_) (fun q => absurd (by decide) q)
  refine m_iload_n F rfl e_X2_runningLeases_34 ?_
  exact m_iret F hQ e_X2_runningLeases_35 (⟨rfl, rfl⟩)
set_option maxRecDepth 20000 in
theorem k_canTake0b (l : Launch) (V : VX) (N : Nat) (σ : Mem) (b p : Nat) (x : Int32) (hB : EB V σ b p)  : Ct l V yX2_canTake cX2_canTake 2 (some .boolean) 0 0 0 N σ [.ref b, .int x] (fun r τ => r = some (.int 0) ∧ τ = σ) := by
  refine Ct.of (by decide) (Nat.le_of_ble_eq_true rfl) [(0, .ref b), (1, .int x)] rfl (fun X hX F hQ => ?_)
  obtain ⟨ix29, tp29, rw29, ac29, h029, h129, t029, t129, a0_29, a1_29, a2_29, a3_29, a4_29, a5_29, a6_29, a7_29, a8_29, a9_29, a10_29⟩ := hB
  refine m_iload_n F rfl e_X2_canTake_0 ?_
  refine m_if_lt F e_X2_canTake_1 (fun q1 => ?_) (fun q1 => ?_)
  · refine m_iconst F (v := 0) (by decide) e_X2_canTake_35 ?_
    exact m_zret F hQ e_X2_canTake_36 (by decide) (⟨rfl, rfl⟩)
  · refine m_iload_n F rfl e_X2_canTake_4 ?_
    refine m_aload_n F rfl e_X2_canTake_5 ?_
    refine m_get F e_X2_canTake_6 fl_X2_62 a0_29 rfl ?_
    refine m_icmp_ge F e_X2_canTake_9 (fun q9 => ?_) (fun q9 => absurd q9 (fun n => n (Int32.not_lt.mp q1)))
    refine m_iconst F (v := 0) (by decide) e_X2_canTake_35 ?_
    exact m_zret F hQ e_X2_canTake_36 (by decide) (⟨rfl, rfl⟩)
set_option maxRecDepth 20000 in
theorem k_countAll0 (l : Launch) (V : VX) (N : Nat) (σ : Mem) (b p a : Nat) (hB : EB V σ b p) (ha : a < b ∨ b + 62 < a) (h_a : σ a = some (ob 0 [.long 0, .long 0])) : Ct l V yX2_countAllOwed cX2_countAllOwed 3 none 1 0 0 N σ [.ref b, .ref a] (fun r τ => r = none ∧ τ = (va_up σ a (some (ob 0 [.long 0, .long 0])))) := by
  refine Ct.of (by decide) (Nat.le_of_ble_eq_true rfl) [(0, .ref b), (1, .ref a)] rfl (fun X hX F hQ => ?_)
  obtain ⟨ix30, tp30, rw30, ac30, h030, h130, t030, t130, a0_30, a1_30, a2_30, a3_30, a4_30, a5_30, a6_30, a7_30, a8_30, a9_30, a10_30⟩ := hB
  refine m_aload_n F rfl e_X2_countAllOwed_0 ?_
  refine m_lconst F (v := 0) (by decide) e_X2_countAllOwed_1 ?_
  refine m_callV F e_X2_countAllOwed_2 (k_set0 (x_l X) V _ _ a 0 0 h_a) cb_X1_set ml_X2_132 im_X1_set se_X1_set h_a rfl rfl (rest := []) rfl (Nat.le_of_ble_eq_true rfl) ⟨Nat.le_of_ble_eq_true rfl, Nat.le_of_ble_eq_true rfl⟩ ⟨Nat.le_of_ble_eq_true rfl, Nat.le_of_ble_eq_true rfl⟩ (k' := 0) (z' := 0) (N' := N) rfl rfl rfl (fun r τ hp => ?_)
  obtain ⟨rfl, rfl⟩ := hp
  refine m_iconst F (v := 0) (by decide) e_X2_countAllOwed_5 ?_
  refine m_istore_n F (lv' := [(2, .int 0), (0, .ref b), (1, .ref a)]) e_X2_countAllOwed_6 (by decide) rfl ?_
  refine m_iload_n F rfl e_X2_countAllOwed_7 ?_
  refine m_aload_n F rfl e_X2_countAllOwed_8 ?_
  refine m_get F e_X2_countAllOwed_9 fl_X2_58 (ru_ne (by omega) a0_30) rfl ?_
  refine m_icmp_ge F e_X2_countAllOwed_12 (fun _ => ?_) (fun q => absurd (by decide) q)
  exact m_vret F hQ e_X2_countAllOwed_34 (⟨rfl, rfl⟩)
set_option maxRecDepth 20000 in
theorem k_indexNow0b (l : Launch) (V : VX) (N : Nat) (σ : Mem) (b p : Nat)  (hB : EB V σ b p) (hp9 : p < 100) : Ct l V yX2_indexNow cX2_indexNow 1 (some .int) 0 0 0 N σ [.ref b] (fun r τ => ∃ z : Int32, r = some (.int z) ∧ τ = σ) := by
  refine Ct.of (by decide) (Nat.le_of_ble_eq_true rfl) [(0, .ref b)] rfl (fun X hX F hQ => ?_)
  obtain ⟨ix31, tp31, rw31, ac31, h031, h131, t031, t131, a0_31, a1_31, a2_31, a3_31, a4_31, a5_31, a6_31, a7_31, a8_31, a9_31, a10_31⟩ := hB
  refine m_aload_n F rfl e_X2_indexNow_0 ?_
  refine m_get F e_X2_indexNow_1 fl_X2_68 a0_31 rfl ?_
  refine m_if_lt F e_X2_indexNow_4 (fun q4 => absurd q4 (fun h => absurd h (nI_pos (by omega)))) (fun q4 => ?_)
  refine m_aload_n F rfl e_X2_indexNow_7 ?_
  refine m_get F e_X2_indexNow_8 fl_X2_68 a0_31 rfl ?_
  refine m_bipush F (v := 99) (by decide) e_X2_indexNow_11 ?_
  refine m_icmp_gt F e_X2_indexNow_13 (fun q13 => ?_) (fun q13 => ?_)
  · have c13 : p > 99 := (nI_ltI (a := 99) (b := p) (by omega) (by omega)).mp q13
    exfalso; omega
  · have c13 : p ≤ 99 := by have hh := mt (nI_ltI (a := 99) (b := p) (by omega) (by omega)).mpr q13; omega
    refine m_aload_n F rfl e_X2_indexNow_16 ?_
    refine m_get F e_X2_indexNow_17 fl_X2_23 a0_31 rfl ?_
    refine m_aload_n F rfl e_X2_indexNow_20 ?_
    refine m_get F e_X2_indexNow_21 fl_X2_68 a0_31 rfl ?_
    refine m_iald F (j := p) e_X2_indexNow_24 a3_31 (nI_clamp (by omega)) (vp_in_nI (by omega) (by omega)) ?_
    refine m_goto F e_X2_indexNow_25 ?_
    exact m_iret F hQ e_X2_indexNow_31 (⟨_, rfl, rfl⟩)
theorem lp_changeIndex0 {V : VX} {X : MX} {N : Nat} {σ : Mem} {Post : Option Value → Mem → Prop} (F : Fx V X yX2_changeIndex cX2_changeIndex 4 none (rmd 0 0 0)) (hQ : Rt V X 0 0 N Post) {b p : Nat} {v : Int32} (h_b : σ b = some (ob 1 [.ref (b + 1), .ref (b + 2), .ref (b + 3), .ref (b + 4), .ref (b + 5), .ref (b + 8), .ref (b + 9), .ref (b + 10), .int 0, .int 0, .int 0, .int (nI p), .int 0])) (hp : ∀ f : Nat → Int32, Post none (va_up σ (b + 3) (some (aI V 100 f)))) : ∀ (n i : Nat) (f : Nat → Int32), i ≤ 100 → 100 - i < n → Wm V X 4 N (va_up σ (b + 3) (some (aI V 100 f))) 0 0 45 [(3, .int (nI i)), (0, .ref b), (1, .int v), (2, .int 100)] [] := by
  intro n
  induction n with
  | zero => intro i f h1 h2; exact absurd h2 (by omega)
  | succ n ih =>
    intro i f h1 h2
    refine m_iload_n F rfl e_X2_changeIndex_45 ?_
    refine m_iload_n F rfl e_X2_changeIndex_46 ?_
    refine m_icmp_ge F e_X2_changeIndex_47 (fun q47 => ?_) (fun q47 => ?_)
    · have c47 : i ≥ 100 := (nI_leI (a := 100) (b := i) (by omega) (by omega)).mp q47
      exact m_vret F hQ e_X2_changeIndex_69 (hp f)
    · have c47 : i < 100 := by have hh := mt (nI_leI (a := 100) (b := i) (by omega) (by omega)).mpr q47; omega
      refine m_iload_n F rfl e_X2_changeIndex_50 ?_
      refine m_bipush F (v := 99) (by decide) e_X2_changeIndex_51 ?_
      refine m_icmp_gt F e_X2_changeIndex_53 (fun q53 => ?_) (fun q53 => ?_)
      · have c53 : i > 99 := (nI_ltI (a := 99) (b := i) (by omega) (by omega)).mp q53
        exfalso; omega
      · have c53 : i ≤ 99 := by have hh := mt (nI_ltI (a := 99) (b := i) (by omega) (by omega)).mpr q53; omega
        refine m_aload_n F rfl e_X2_changeIndex_56 ?_
        refine m_get F e_X2_changeIndex_57 fl_X2_23 (ru_ne (by omega) h_b) rfl ?_
        refine m_iload_n F rfl e_X2_changeIndex_60 ?_
        refine m_iload_n F rfl e_X2_changeIndex_61 ?_
        refine m_iast F (j := i) e_X2_changeIndex_62 ru_eq (nI_clamp (by omega)) (vp_in_nI (by omega) (by omega)) rfl (bx_uu _ _ _ _) ?_
        refine m_iinc F (v := nI (i + 1)) (lv' := [(3, .int (nI (i + 1))), (0, .ref b), (1, .int v), (2, .int 100)]) e_X2_changeIndex_63 rfl (nI_add i 1) (by decide) rfl ?_
        refine m_goto F e_X2_changeIndex_66 ?_
        exact ih (i + 1) _ (by omega) (by omega)
set_option maxRecDepth 20000 in
theorem k_changeIndex0 (l : Launch) (V : VX) (N : Nat) (σ : Mem) (b p : Nat) (v : Int32) (hB : EB V σ b p) (hp9 : p < 100) : Ct l V yX2_changeIndex cX2_changeIndex 4 none 0 0 0 N σ [.ref b, .int v] (fun r τ => r = none ∧ EB V τ b p ∧ ∀ q : Nat, (q < b ∨ b + 62 < q) → τ q = σ q) := by
  refine Ct.of (by decide) (Nat.le_of_ble_eq_true rfl) [(0, .ref b), (1, .int v)] rfl (fun X hX F hQ => ?_)
  obtain ⟨ix32, tp32, rw32, ac32, h032, h132, t032, t132, a0_32, a1_32, a2_32, a3_32, a4_32, a5_32, a6_32, a7_32, a8_32, a9_32, a10_32⟩ := hB
  refine m_bipush F (v := 100) (by decide) e_X2_changeIndex_0 ?_
  refine m_istore_n F (lv' := [(2, .int 100), (0, .ref b), (1, .int v)]) e_X2_changeIndex_2 (by decide) rfl ?_
  refine m_aload_n F rfl e_X2_changeIndex_3 ?_
  refine m_get F e_X2_changeIndex_4 fl_X2_65 a0_32 rfl ?_
  refine m_iconst F (v := 1) (by decide) e_X2_changeIndex_7 ?_
  refine m_isub F e_X2_changeIndex_8 ?_
  refine Wm.topE (w := (-1)) (by decide) ?_
  refine m_istore_n F (lv' := [(3, .int (-1)), (2, .int 100), (0, .ref b), (1, .int v)]) e_X2_changeIndex_9 (by decide) rfl ?_
  refine m_iload_n F rfl e_X2_changeIndex_10 ?_
  refine m_if_lt F e_X2_changeIndex_11 (fun _ => ?_) (fun q => absurd (by decide) q)
  refine m_aload_n F rfl e_X2_changeIndex_40 ?_
  refine m_get F e_X2_changeIndex_41 fl_X2_68 a0_32 rfl ?_
  refine m_istore_n F (lv' := [(3, .int (nI p)), (2, .int 100), (0, .ref b), (1, .int v)]) e_X2_changeIndex_44 (by decide) rfl ?_
  refine Wm.lvsub (lv' := [(3, .int (nI p)), (0, .ref b), (1, .int v), (2, .int 100)]) ?_ [0, 2, 3, 1] rfl
  refine Wm.memE (up_self a3_32) ?_
  exact lp_changeIndex0 F hQ a0_32 (fun f9 => ⟨rfl, ⟨_, _, _, _, _, _, _, _, (ru_ne (by omega) a0_32), (ru_ne (by omega) a1_32), (ru_ne (by omega) a2_32), ru_eq, (ru_ne (by omega) a4_32), (ru_ne (by omega) a5_32), (ru_ne (by omega) a6_32), (ru_ne (by omega) a7_32), (ru_ne (by omega) a8_32), (ru_ne (by omega) a9_32), (ru_ne (by omega) a10_32)⟩, fun q h1 => ru_ne (by omega) rfl⟩) 101 p _ (by omega) (by omega)
set_option maxRecDepth 20000 in
theorem k_Bcopy0 (l : Launch) (V : VX) (N : Nat) (σ : Mem) (b p : Nat) (c p2 : Nat) (hB : EB V σ b p) (hC : EB V σ c p2) (hbc : b + 62 < c ∨ c + 62 < b) : Ct l V yX2_copyFrom cX2_copyFrom 3 none 2 0 0 N σ [.ref b, .ref c] (fun r τ => r = none ∧ EB V τ b p2 ∧ ∀ q : Nat, (q < b ∨ b + 62 < q) → τ q = σ q) := by
  refine Ct.of (by decide) (Nat.le_of_ble_eq_true rfl) [(0, .ref b), (1, .ref c)] rfl (fun X hX F hQ => ?_)
  obtain ⟨ix33, tp33, rw33, ac33, h033, h133, t033, t133, a0_33, a1_33, a2_33, a3_33, a4_33, a5_33, a6_33, a7_33, a8_33, a9_33, a10_33⟩ := hB
  obtain ⟨ix34, tp34, rw34, ac34, h034, h134, t034, t134, a0_34, a1_34, a2_34, a3_34, a4_34, a5_34, a6_34, a7_34, a8_34, a9_34, a10_34⟩ := hC
  refine m_aload_n F rfl e_X2_copyFrom_0 ?_
  refine m_aload_n F rfl e_X2_copyFrom_1 ?_
  refine m_get F e_X2_copyFrom_2 fl_X2_58 a0_34 rfl ?_
  refine m_put F e_X2_copyFrom_5 fp_X2_58 a0_33 rfl rfl (Nat.le_of_ble_eq_true rfl) (fs' := [.ref (b + 1), .ref (b + 2), .ref (b + 3), .ref (b + 4), .ref (b + 5), .ref (b + 8), .ref (b + 9), .ref (b + 10), .int 0, .int 0, .int 0, .int (nI p), .int 0]) rfl (up_self a0_33).symm ?_
  refine m_aload_n F rfl e_X2_copyFrom_8 ?_
  refine m_aload_n F rfl e_X2_copyFrom_9 ?_
  refine m_get F e_X2_copyFrom_10 fl_X2_62 a0_34 rfl ?_
  refine m_put F e_X2_copyFrom_13 fp_X2_62 a0_33 rfl rfl (Nat.le_of_ble_eq_true rfl) (fs' := [.ref (b + 1), .ref (b + 2), .ref (b + 3), .ref (b + 4), .ref (b + 5), .ref (b + 8), .ref (b + 9), .ref (b + 10), .int 0, .int 0, .int 0, .int (nI p), .int 0]) rfl (up_self a0_33).symm ?_
  refine m_aload_n F rfl e_X2_copyFrom_16 ?_
  refine m_aload_n F rfl e_X2_copyFrom_17 ?_
  refine m_get F e_X2_copyFrom_18 fl_X2_65 a0_34 rfl ?_
  refine m_put F e_X2_copyFrom_21 fp_X2_65 a0_33 rfl rfl (Nat.le_of_ble_eq_true rfl) (fs' := [.ref (b + 1), .ref (b + 2), .ref (b + 3), .ref (b + 4), .ref (b + 5), .ref (b + 8), .ref (b + 9), .ref (b + 10), .int 0, .int 0, .int 0, .int (nI p), .int 0]) rfl (up_self a0_33).symm ?_
  refine m_aload_n F rfl e_X2_copyFrom_24 ?_
  refine m_aload_n F rfl e_X2_copyFrom_25 ?_
  refine m_get F e_X2_copyFrom_26 fl_X2_68 a0_34 rfl ?_
  refine m_put F e_X2_copyFrom_29 fp_X2_68 a0_33 rfl rfl (Nat.le_of_ble_eq_true rfl) (fs' := [.ref (b + 1), .ref (b + 2), .ref (b + 3), .ref (b + 4), .ref (b + 5), .ref (b + 8), .ref (b + 9), .ref (b + 10), .int 0, .int 0, .int 0, .int (nI p2), .int 0]) rfl rfl ?_
  refine m_aload_n F rfl e_X2_copyFrom_32 ?_
  refine m_aload_n F rfl e_X2_copyFrom_33 ?_
  refine m_get F e_X2_copyFrom_34 fl_X2_71 (ru_ne (by omega) a0_34) rfl ?_
  refine m_put F e_X2_copyFrom_37 fp_X2_71 ru_eq rfl rfl (Nat.le_of_ble_eq_true rfl) (fs' := [.ref (b + 1), .ref (b + 2), .ref (b + 3), .ref (b + 4), .ref (b + 5), .ref (b + 8), .ref (b + 9), .ref (b + 10), .int 0, .int 0, .int 0, .int (nI p2), .int 0]) rfl (up_self ru_eq).symm ?_
  refine m_aload_n F rfl e_X2_copyFrom_40 ?_
  refine m_get F e_X2_copyFrom_41 fl_X2_23 (ru_ne (by omega) a0_34) rfl ?_
  refine m_iconst F (v := 0) (by decide) e_X2_copyFrom_44 ?_
  refine m_aload_n F rfl e_X2_copyFrom_45 ?_
  refine m_get F e_X2_copyFrom_46 fl_X2_23 ru_eq rfl ?_
  refine m_iconst F (v := 0) (by decide) e_X2_copyFrom_49 ?_
  refine m_bipush F (v := 100) (by decide) e_X2_copyFrom_50 ?_
  refine m_copyI F e_X2_copyFrom_52 ac_X2_77 (ru_ne (by omega) a3_34) (ru_ne (by omega) a3_33) (by decide) (by decide) (by decide) (sp := 0) (dp := 0) (m := 100) (by decide) (by decide) (by decide) (by decide) (by decide) (Nat.le_of_ble_eq_true rfl) (Nat.le_of_ble_eq_true rfl) rfl rfl ?_
  refine m_aload_n F rfl e_X2_copyFrom_55 ?_
  refine m_get F e_X2_copyFrom_56 fl_X2_27 (ru_ne (by omega) (ru_ne (by omega) a0_34)) rfl ?_
  refine m_iconst F (v := 0) (by decide) e_X2_copyFrom_59 ?_
  refine m_aload_n F rfl e_X2_copyFrom_60 ?_
  refine m_get F e_X2_copyFrom_61 fl_X2_27 (ru_ne (by omega) ru_eq) rfl ?_
  refine m_iconst F (v := 0) (by decide) e_X2_copyFrom_64 ?_
  refine m_bipush F (v := 8) (by decide) e_X2_copyFrom_65 ?_
  refine m_copyI F e_X2_copyFrom_67 ac_X2_77 (ru_ne (by omega) (ru_ne (by omega) a4_34)) (ru_ne (by omega) (ru_ne (by omega) a4_33)) (by decide) (by decide) (by decide) (sp := 0) (dp := 0) (m := 8) (by decide) (by decide) (by decide) (by decide) (by decide) (Nat.le_of_ble_eq_true rfl) (Nat.le_of_ble_eq_true rfl) rfl rfl ?_
  refine m_aload_n F rfl e_X2_copyFrom_70 ?_
  refine m_get F e_X2_copyFrom_71 fl_X2_33 (ru_ne (by omega) (ru_ne (by omega) ru_eq)) rfl ?_
  refine m_aload_n F rfl e_X2_copyFrom_74 ?_
  refine m_get F e_X2_copyFrom_75 fl_X2_33 (ru_ne (by omega) (ru_ne (by omega) (ru_ne (by omega) a0_34))) rfl ?_
  refine m_callV F e_X2_copyFrom_78 (k_Jcopy (x_l X) V _ _ (b + 5) (c + 5) 0 0 rw33 ac33 rw34 ac34 (by omega) (ru_ne (by omega) (ru_ne (by omega) (ru_ne (by omega) a5_33))) (ru_ne (by omega) (ru_ne (by omega) (ru_ne (by omega) a6_33))) (ru_ne (by omega) (ru_ne (by omega) (ru_ne (by omega) a7_33))) (ru_ne (by omega) (ru_ne (by omega) (ru_ne (by omega) a5_34))) (ru_ne (by omega) (ru_ne (by omega) (ru_ne (by omega) a6_34))) (ru_ne (by omega) (ru_ne (by omega) (ru_ne (by omega) a7_34)))) cb_X3_copyFrom ml_X2_83 im_X3_copyFrom se_X3_copyFrom (ru_ne (by omega) (ru_ne (by omega) (ru_ne (by omega) a5_33))) rfl rfl (rest := []) rfl (Nat.le_of_ble_eq_true rfl) ⟨Nat.le_of_ble_eq_true rfl, Nat.le_of_ble_eq_true rfl⟩ ⟨Nat.le_of_ble_eq_true rfl, Nat.le_of_ble_eq_true rfl⟩ (k' := 0) (z' := 0) (N' := N) rfl rfl rfl (fun r τ hp => ?_)
  obtain ⟨rfl, rfl⟩ := hp
  refine m_iconst F (v := 0) (by decide) e_X2_copyFrom_81 ?_
  refine m_istore_n F (lv' := [(2, .int 0), (0, .ref b), (1, .ref c)]) e_X2_copyFrom_82 (by decide) rfl ?_
  refine m_iload_n F rfl e_X2_copyFrom_83 ?_
  refine m_aload_n F rfl e_X2_copyFrom_84 ?_
  refine m_get F e_X2_copyFrom_85 fl_X2_58 (ru_ne (by omega) (ru_ne (by omega) (ru_ne (by omega) (ru_ne (by omega) (ru_ne (by omega) ru_eq))))) rfl ?_
  refine m_icmp_ge F e_X2_copyFrom_88 (fun _ => ?_) (fun q => absurd (by decide) q)
  refine m_iconst F (v := 0) (by decide) e_X2_copyFrom_112 ?_
  refine m_istore_n F (lv' := [(2, .int 0), (0, .ref b), (1, .ref c)]) e_X2_copyFrom_113 (by decide) rfl ?_
  refine m_iload_n F rfl e_X2_copyFrom_114 ?_
  refine m_aload_n F rfl e_X2_copyFrom_115 ?_
  refine m_get F e_X2_copyFrom_116 fl_X2_62 (ru_ne (by omega) (ru_ne (by omega) (ru_ne (by omega) (ru_ne (by omega) (ru_ne (by omega) ru_eq))))) rfl ?_
  refine m_icmp_ge F e_X2_copyFrom_119 (fun _ => ?_) (fun q => absurd (by decide) q)
  exact m_vret F hQ e_X2_copyFrom_143 (⟨rfl, ⟨_, _, _, _, _, _, _, _, (ru_ne (by omega) (ru_ne (by omega) (ru_ne (by omega) (ru_ne (by omega) (ru_ne (by omega) ru_eq))))), (ru_ne (by omega) (ru_ne (by omega) (ru_ne (by omega) (ru_ne (by omega) (ru_ne (by omega) (ru_ne (by omega) a1_33)))))), (ru_ne (by omega) (ru_ne (by omega) (ru_ne (by omega) (ru_ne (by omega) (ru_ne (by omega) (ru_ne (by omega) a2_33)))))), (ru_ne (by omega) (ru_ne (by omega) (ru_ne (by omega) (ru_ne (by omega) ru_eq)))), (ru_ne (by omega) (ru_ne (by omega) (ru_ne (by omega) ru_eq))), (ru_ne (by omega) (ru_ne (by omega) ru_eq)), (ru_ne (by omega) ru_eq), ru_eq, (ru_ne (by omega) (ru_ne (by omega) (ru_ne (by omega) (ru_ne (by omega) (ru_ne (by omega) (ru_ne (by omega) a8_33)))))), (ru_ne (by omega) (ru_ne (by omega) (ru_ne (by omega) (ru_ne (by omega) (ru_ne (by omega) (ru_ne (by omega) a9_33)))))), (ru_ne (by omega) (ru_ne (by omega) (ru_ne (by omega) (ru_ne (by omega) (ru_ne (by omega) (ru_ne (by omega) a10_33))))))⟩, fun q h1 => (ru_ne (by omega) (ru_ne (by omega) (ru_ne (by omega) (ru_ne (by omega) (ru_ne (by omega) (ru_ne (by omega) rfl))))))⟩)
theorem lp_year0 {V : VX} {X : MX} {N : Nat} {σ : Mem} {Post : Option Value → Mem → Prop} (F : Fx V X yX2_yearByChance cX2_yearByChance 7 (some .long) (rmd 2 0 0)) (hQ : Rt V X 0 0 N Post) {b p : Nat} (hpp : p + 12 ≤ 99) (hp : ∀ (z : Int64) (τ : Mem), EB V τ b (p + 12) → (∀ q : Nat, (q < b ∨ b + 62 < q) → τ q = σ q) → Post (some (.long z)) τ) : ∀ (n i : Nat) (τ : Mem) (la : Int64), i ≤ 12 → 12 - i < n → EB V τ b (p + i) → (∀ q : Nat, (q < b ∨ b + 62 < q) → τ q = σ q) → Wm V X 7 N τ 0 0 5 [(5, .int (nI i)), (0, .ref b), (3, .long la)] [] := by
  intro n
  induction n with
  | zero => intro i τ la h1 h2; exact absurd h2 (by omega)
  | succ n ih =>
    intro i τ la h1 h2 hE hfr
    refine m_iload F rfl e_X2_yearByChance_5 ?_
    refine m_bipush F (v := 12) (by decide) e_X2_yearByChance_7 ?_
    refine m_icmp_ge F e_X2_yearByChance_9 (fun q9 => ?_) (fun q9 => ?_)
    · have c9 : i ≥ 12 := (nI_leI (a := 12) (b := i) (by omega) (by omega)).mp q9
      have hi9 : i = 12 := by omega
      subst hi9
      refine m_lload_n F rfl e_X2_yearByChance_74 ?_
      exact m_lret F hQ e_X2_yearByChance_75 (hp _ _ hE hfr)
    · have c9 : i < 12 := by have hh := mt (nI_leI (a := 12) (b := i) (by omega) (by omega)).mpr q9; omega
      refine m_lload_n F rfl e_X2_yearByChance_12 ?_
      refine m_ldc2 F kc_X2_251 e_X2_yearByChance_13 ?_
      refine m_lmul F e_X2_yearByChance_16 ?_
      refine m_ldc2 F kc_X2_253 e_X2_yearByChance_17 ?_
      refine m_ladd F e_X2_yearByChance_20 ?_
      refine m_ldc2 F kc_X2_255 e_X2_yearByChance_21 ?_
      refine m_land F e_X2_yearByChance_24 ?_
      refine m_lstore_n F (lv' := [(3, .long (((la * 1103515245) + 12345) &&& 2147483647)), (5, .int (nI i)), (0, .ref b)]) e_X2_yearByChance_25 (by decide) rfl ?_
      refine m_lload_n F rfl e_X2_yearByChance_26 ?_
      refine m_ldc2 F kc_X2_257 e_X2_yearByChance_27 ?_
      refine m_ldiv F (by decide) e_X2_yearByChance_30 ?_
      refine m_ldc2 F kc_X2_259 e_X2_yearByChance_31 ?_
      refine m_lrem F (by decide) e_X2_yearByChance_34 ?_
      refine m_l2i F e_X2_yearByChance_35 ?_
      refine m_bipush F (v := 10) (by decide) e_X2_yearByChance_36 ?_
      refine m_isub F e_X2_yearByChance_38 ?_
      refine m_istore F (lv' := [(6, .int (((((((la * 1103515245) + 12345) &&& 2147483647) / 65536) - ((((la * 1103515245) + 12345) &&& 2147483647) / 65536) / 21 * 21)).toInt32 - 10)), (3, .long (((la * 1103515245) + 12345) &&& 2147483647)), (5, .int (nI i)), (0, .ref b)]) e_X2_yearByChance_39 (by decide) rfl ?_
      refine m_aload_n F rfl e_X2_yearByChance_41 ?_
      refine m_sipush F (v := 500) (by decide) e_X2_yearByChance_42 ?_
      refine m_sipush F (v := 2000) (by decide) e_X2_yearByChance_45 ?_
      refine m_aload_n F rfl e_X2_yearByChance_48 ?_
      refine m_callV F e_X2_yearByChance_49 (k_indexNow0b (x_l X) V _ _ b (p + i)  hE (by omega)) cb_X2_indexNow ml_X2_153 im_X2_indexNow se_X2_indexNow hE.head rfl rfl (rest := [.int 2000, .int 500, .ref b]) rfl (Nat.le_of_ble_eq_true rfl) ⟨Nat.le_of_ble_eq_true rfl, Nat.le_of_ble_eq_true rfl⟩ ⟨Nat.le_of_ble_eq_true rfl, Nat.le_of_ble_eq_true rfl⟩ (k' := 0) (z' := 0) (N' := N) rfl rfl rfl (fun r τ hp => ?_)
      obtain ⟨z36, rfl, rfl⟩ := hp
      refine m_iload F rfl e_X2_yearByChance_52 ?_
      refine m_iadd F e_X2_yearByChance_54 ?_
      refine m_min F e_X2_yearByChance_55 ml_X2_261 sm_min ini_math co_min (Nat.le_of_ble_eq_true rfl) (Nat.le_of_ble_eq_true rfl) (Nat.le_of_ble_eq_true rfl) (Nat.le_of_ble_eq_true rfl) ?_
      refine m_max F e_X2_yearByChance_58 ml_X2_267 sm_max ini_math co_max (Nat.le_of_ble_eq_true rfl) (Nat.le_of_ble_eq_true rfl) (Nat.le_of_ble_eq_true rfl) (Nat.le_of_ble_eq_true rfl) ?_
      refine m_callV F e_X2_yearByChance_61 (k_changeIndex0 (x_l X) V _ _ b (p + i) (if 500 < (if (z36 + (((((((la * 1103515245) + 12345) &&& 2147483647) / 65536) - ((((la * 1103515245) + 12345) &&& 2147483647) / 65536) / 21 * 21)).toInt32 - 10)) < 2000 then (z36 + (((((((la * 1103515245) + 12345) &&& 2147483647) / 65536) - ((((la * 1103515245) + 12345) &&& 2147483647) / 65536) / 21 * 21)).toInt32 - 10)) else 2000) then (if (z36 + (((((((la * 1103515245) + 12345) &&& 2147483647) / 65536) - ((((la * 1103515245) + 12345) &&& 2147483647) / 65536) / 21 * 21)).toInt32 - 10)) < 2000 then (z36 + (((((((la * 1103515245) + 12345) &&& 2147483647) / 65536) - ((((la * 1103515245) + 12345) &&& 2147483647) / 65536) / 21 * 21)).toInt32 - 10)) else 2000) else 500) hE (by omega)) cb_X2_changeIndex ml_X2_270 im_X2_changeIndex se_X2_changeIndex hE.head rfl rfl (rest := []) rfl (Nat.le_of_ble_eq_true rfl) ⟨Nat.le_of_ble_eq_true rfl, Nat.le_of_ble_eq_true rfl⟩ ⟨Nat.le_of_ble_eq_true rfl, Nat.le_of_ble_eq_true rfl⟩ (k' := 0) (z' := 0) (N' := N) rfl rfl rfl (fun r τ37 hp => ?_)
      obtain ⟨rfl, eb38, hf39⟩ := hp
      have fr40 : ∀ q : Nat, (q < b ∨ b + 62 < q) → τ37 q = σ q := fun q h => (hf39 q h).trans (hfr q h)
      refine m_aload_n F rfl e_X2_yearByChance_64 ?_
      refine m_callV F e_X2_yearByChance_65 (k_period0 (x_l X) V _ _ b (p + i)  eb38 (by omega)) cb_X2_periodGoesBy ml_X2_273 im_X2_periodGoesBy se_X2_periodGoesBy eb38.head rfl rfl (rest := []) rfl (Nat.le_of_ble_eq_true rfl) ⟨Nat.le_of_ble_eq_true rfl, Nat.le_of_ble_eq_true rfl⟩ ⟨Nat.le_of_ble_eq_true rfl, Nat.le_of_ble_eq_true rfl⟩ (k' := 0) (z' := 0) (N' := N) rfl rfl rfl (fun r τ41 hp => ?_)
      obtain ⟨rfl, eb42, hf43⟩ := hp
      have fr44 : ∀ q : Nat, (q < b ∨ b + 62 < q) → τ41 q = σ q := fun q h => (hf43 q h).trans (fr40 q h)
      refine m_iinc F (v := nI (i + 1)) (lv' := [(5, .int (nI (i + 1))), (6, .int (((((((la * 1103515245) + 12345) &&& 2147483647) / 65536) - ((((la * 1103515245) + 12345) &&& 2147483647) / 65536) / 21 * 21)).toInt32 - 10)), (3, .long (((la * 1103515245) + 12345) &&& 2147483647)), (0, .ref b)]) e_X2_yearByChance_68 rfl (nI_add i 1) (by decide) rfl ?_
      refine m_goto F e_X2_yearByChance_71 ?_
      refine Wm.lvsub (lv' := [(5, .int (nI (i + 1))), (0, .ref b), (3, .long (((la * 1103515245) + 12345) &&& 2147483647))]) ?_ [0, 3, 2] rfl
      exact ih (i + 1) _ _ (by omega) (by omega) eb42 fr44
set_option maxRecDepth 20000 in
theorem k_year0 (l : Launch) (V : VX) (N : Nat) (σ : Mem) (b p : Nat) (v : Int64) (hB : EB V σ b p) (hpp : p + 12 ≤ 99) : Ct l V yX2_yearByChance cX2_yearByChance 7 (some .long) 2 0 0 N σ [.ref b, .long v] (fun r τ => ∃ z : Int64, r = some (.long z) ∧ EB V τ b (p + 12) ∧ ∀ q : Nat, (q < b ∨ b + 62 < q) → τ q = σ q) := by
  refine Ct.of (by decide) (Nat.le_of_ble_eq_true rfl) [(0, .ref b), (1, .long v)] rfl (fun X hX F hQ => ?_)
  refine m_lload_n F rfl e_X2_yearByChance_0 ?_
  refine m_lstore_n F (lv' := [(3, .long v), (0, .ref b), (1, .long v)]) e_X2_yearByChance_1 (by decide) rfl ?_
  refine m_iconst F (v := 0) (by decide) e_X2_yearByChance_2 ?_
  refine m_istore F (lv' := [(5, .int 0), (3, .long v), (0, .ref b), (1, .long v)]) e_X2_yearByChance_3 (by decide) rfl ?_
  refine Wm.lvsub (lv' := [(5, .int 0), (0, .ref b), (3, .long v)]) ?_ [0, 2, 1] rfl
  exact lp_year0 F hQ hpp (fun z τ h1 h2 => ⟨z, rfl, h1, h2⟩) 13 0 _ _ (by omega) (by omega) hB (fun q _ => rfl)
