theorem e_X3_clear_0 : DC cX3_clear 0 1 1 (.aload_n 0) := ⟨by decide +kernel, rfl⟩
theorem e_X3_clear_1 : DC cX3_clear 1 1 2 (.iconst 0) := ⟨by decide +kernel, rfl⟩
theorem e_X3_clear_2 : DC cX3_clear 2 3 5 (.putfield 18) := ⟨by decide +kernel, rfl⟩
theorem e_X3_clear_5 : DC cX3_clear 5 1 6 (.aload_n 0) := ⟨by decide +kernel, rfl⟩
theorem e_X3_clear_6 : DC cX3_clear 6 3 9 (.getfield 15) := ⟨by decide +kernel, rfl⟩
theorem e_X3_clear_9 : DC cX3_clear 9 1 10 (.lconst 0) := ⟨by decide +kernel, rfl⟩
theorem e_X3_clear_10 : DC cX3_clear 10 3 13 (.invokestatic 22) := ⟨by decide +kernel, rfl⟩
theorem cb_J7_fill_d0a16 : CB yJ7_fill_d0a16 cJ7_fill_d0a16 5 none 2 := ⟨tb_in 392 (by decide +kernel) (by decide +kernel), tb_in 8 (by decide +kernel) (by decide +kernel), by decide +kernel⟩
theorem ml_X3_22 : Cond.methodLink RX3 22 yJ7_fill_d0a16 ∈ tb := tb_in 390 (by decide +kernel) (by decide +kernel)
theorem sm_J7_fill_d0a16 : Cond.static yJ7_fill_d0a16 ∈ tb := tb_in 391 (by decide +kernel) (by decide +kernel)
theorem e_X3_clear_13 : DC cX3_clear 13 1 14 (.return_) := ⟨by decide +kernel, rfl⟩
theorem e_X2_clear_0 : DC cX2_clear 0 1 1 (.aload_n 0) := ⟨by decide +kernel, rfl⟩
theorem e_X2_clear_1 : DC cX2_clear 1 1 2 (.iconst 0) := ⟨by decide +kernel, rfl⟩
theorem e_X2_clear_2 : DC cX2_clear 2 3 5 (.putfield 58) := ⟨by decide +kernel, rfl⟩
theorem e_X2_clear_5 : DC cX2_clear 5 1 6 (.aload_n 0) := ⟨by decide +kernel, rfl⟩
theorem e_X2_clear_6 : DC cX2_clear 6 1 7 (.iconst 0) := ⟨by decide +kernel, rfl⟩
theorem e_X2_clear_7 : DC cX2_clear 7 3 10 (.putfield 62) := ⟨by decide +kernel, rfl⟩
theorem e_X2_clear_10 : DC cX2_clear 10 1 11 (.aload_n 0) := ⟨by decide +kernel, rfl⟩
theorem e_X2_clear_11 : DC cX2_clear 11 1 12 (.iconst 0) := ⟨by decide +kernel, rfl⟩
theorem e_X2_clear_12 : DC cX2_clear 12 3 15 (.putfield 65) := ⟨by decide +kernel, rfl⟩
theorem e_X2_clear_15 : DC cX2_clear 15 1 16 (.aload_n 0) := ⟨by decide +kernel, rfl⟩
theorem e_X2_clear_16 : DC cX2_clear 16 1 17 (.iconst 0) := ⟨by decide +kernel, rfl⟩
theorem e_X2_clear_17 : DC cX2_clear 17 3 20 (.putfield 68) := ⟨by decide +kernel, rfl⟩
theorem e_X2_clear_20 : DC cX2_clear 20 1 21 (.aload_n 0) := ⟨by decide +kernel, rfl⟩
theorem e_X2_clear_21 : DC cX2_clear 21 1 22 (.iconst 0) := ⟨by decide +kernel, rfl⟩
theorem e_X2_clear_22 : DC cX2_clear 22 3 25 (.putfield 71) := ⟨by decide +kernel, rfl⟩
theorem e_X2_clear_25 : DC cX2_clear 25 1 26 (.aload_n 0) := ⟨by decide +kernel, rfl⟩
theorem e_X2_clear_26 : DC cX2_clear 26 3 29 (.getfield 23) := ⟨by decide +kernel, rfl⟩
theorem e_X2_clear_29 : DC cX2_clear 29 3 32 (.sipush 1000) := ⟨by decide +kernel, rfl⟩
theorem e_X2_clear_32 : DC cX2_clear 32 3 35 (.invokestatic 52) := ⟨by decide +kernel, rfl⟩
theorem e_X2_clear_35 : DC cX2_clear 35 1 36 (.aload_n 0) := ⟨by decide +kernel, rfl⟩
theorem e_X2_clear_36 : DC cX2_clear 36 3 39 (.getfield 33) := ⟨by decide +kernel, rfl⟩
theorem e_X2_clear_39 : DC cX2_clear 39 3 42 (.invokevirtual 74) := ⟨by decide +kernel, rfl⟩
theorem cb_X3_clear : CB yX3_clear cX3_clear 1 none 0 := ⟨tb_in 389 (by decide +kernel) (by decide +kernel), tb_in 3 (by decide +kernel) (by decide +kernel), by decide +kernel⟩
theorem ml_X2_74 : Cond.methodLink RX2 74 yX3_clear ∈ tb := tb_in 386 (by decide +kernel) (by decide +kernel)
theorem im_X3_clear : Cond.instanceMethod yX3_clear ∈ tb := tb_in 387 (by decide +kernel) (by decide +kernel)
theorem se_X3_clear : Cond.selects (yX3_clear).cls yX3_clear yX3_clear ∈ tb := tb_in 388 (by decide +kernel) (by decide +kernel)
theorem e_X2_clear_42 : DC cX2_clear 42 1 43 (.return_) := ⟨by decide +kernel, rfl⟩
theorem e_X7_begin_0 : DC cX7_begin 0 1 1 (.aload_n 0) := ⟨by decide +kernel, rfl⟩
theorem e_X7_begin_1 : DC cX7_begin 1 1 2 (.iload_n 1) := ⟨by decide +kernel, rfl⟩
theorem e_X7_begin_2 : DC cX7_begin 2 1 3 (.aload_n 0) := ⟨by decide +kernel, rfl⟩
theorem e_X7_begin_3 : DC cX7_begin 3 3 6 (.getfield 19) := ⟨by decide +kernel, rfl⟩
theorem fl_X7_19 : FL RX7 19 5 0 := ⟨RX7, TX7, 13, rfl, by decide, uw_5, tb_in 284 (by decide +kernel) (by decide +kernel), rfl⟩
theorem e_X7_begin_6 : DC cX7_begin 6 1 7 (.arraylength) := ⟨by decide +kernel, rfl⟩
theorem e_X7_begin_7 : DC cX7_begin 7 3 10 (.invokestatic 27) := ⟨by decide +kernel, rfl⟩
theorem ml_X7_27 : Cond.methodLink RX7 27 Lib.Math.min.name ∈ tb := tb_in 397 (by decide +kernel) (by decide +kernel)
theorem e_X7_begin_10 : DC cX7_begin 10 3 13 (.putfield 33) := ⟨by decide +kernel, rfl⟩
theorem fp_X7_33 : FP RX7 33 5 1 false .int := ⟨RX7, TX7, 13, tyX7, rfl, by decide, uw_5, tb_in 285 (by decide +kernel) (by decide +kernel), rfl, rfl, by decide +kernel, tyX7_ok, nmX7⟩
theorem e_X7_begin_13 : DC cX7_begin 13 1 14 (.aload_n 0) := ⟨by decide +kernel, rfl⟩
theorem e_X7_begin_14 : DC cX7_begin 14 1 15 (.aload_n 2) := ⟨by decide +kernel, rfl⟩
theorem e_X7_begin_15 : DC cX7_begin 15 3 18 (.putfield 23) := ⟨by decide +kernel, rfl⟩
theorem e_X7_begin_18 : DC cX7_begin 18 1 19 (.aload_n 0) := ⟨by decide +kernel, rfl⟩
theorem e_X7_begin_19 : DC cX7_begin 19 3 22 (.getfield 9) := ⟨by decide +kernel, rfl⟩
theorem fl_X7_9 : FL RX7 9 5 3 := ⟨RX7, TX7, 13, rfl, by decide, uw_5, tb_in 287 (by decide +kernel) (by decide +kernel), rfl⟩
theorem e_X7_begin_22 : DC cX7_begin 22 1 23 (.iconst 0) := ⟨by decide +kernel, rfl⟩
theorem e_X7_begin_23 : DC cX7_begin 23 3 26 (.invokestatic 36) := ⟨by decide +kernel, rfl⟩
theorem ml_X7_36 : Cond.methodLink RX7 36 yJ7_fill_53178 ∈ tb := tb_in 400 (by decide +kernel) (by decide +kernel)
theorem e_X7_begin_26 : DC cX7_begin 26 1 27 (.aload_n 0) := ⟨by decide +kernel, rfl⟩
theorem e_X7_begin_27 : DC cX7_begin 27 1 28 (.iconst 0) := ⟨by decide +kernel, rfl⟩
theorem e_X7_begin_28 : DC cX7_begin 28 3 31 (.putfield 42) := ⟨by decide +kernel, rfl⟩
theorem fp_X7_42 : FP RX7 42 5 4 false .int := ⟨RX7, TX7, 13, tyX7, rfl, by decide, uw_5, tb_in 288 (by decide +kernel) (by decide +kernel), rfl, rfl, by decide +kernel, tyX7_ok, nmX7⟩
theorem e_X7_begin_31 : DC cX7_begin 31 1 32 (.aload_n 0) := ⟨by decide +kernel, rfl⟩
theorem e_X7_begin_32 : DC cX7_begin 32 1 33 (.iconst 0) := ⟨by decide +kernel, rfl⟩
theorem e_X7_begin_33 : DC cX7_begin 33 3 36 (.putfield 45) := ⟨by decide +kernel, rfl⟩
theorem fp_X7_45 : FP RX7 45 5 8 false .int := ⟨RX7, TX7, 13, tyX7, rfl, by decide, uw_5, tb_in 292 (by decide +kernel) (by decide +kernel), rfl, rfl, by decide +kernel, tyX7_ok, nmX7⟩
theorem e_X7_begin_36 : DC cX7_begin 36 1 37 (.aload_n 0) := ⟨by decide +kernel, rfl⟩
theorem e_X7_begin_37 : DC cX7_begin 37 1 38 (.iconst 0) := ⟨by decide +kernel, rfl⟩
theorem e_X7_begin_38 : DC cX7_begin 38 3 41 (.putfield 48) := ⟨by decide +kernel, rfl⟩
theorem fp_X7_48 : FP RX7 48 5 9 false .boolean := ⟨RX7, TX7, 13, tyX7, rfl, by decide, uw_5, tb_in 293 (by decide +kernel) (by decide +kernel), rfl, rfl, by decide +kernel, tyX7_ok, nmX7⟩
theorem e_X7_begin_41 : DC cX7_begin 41 1 42 (.aload_n 0) := ⟨by decide +kernel, rfl⟩
theorem e_X7_begin_42 : DC cX7_begin 42 1 43 (.iconst 0) := ⟨by decide +kernel, rfl⟩
theorem e_X7_begin_43 : DC cX7_begin 43 3 46 (.putfield 52) := ⟨by decide +kernel, rfl⟩
theorem fp_X7_52 : FP RX7 52 5 10 false .int := ⟨RX7, TX7, 13, tyX7, rfl, by decide, uw_5, tb_in 294 (by decide +kernel) (by decide +kernel), rfl, rfl, by decide +kernel, tyX7_ok, nmX7⟩
theorem e_X7_begin_46 : DC cX7_begin 46 1 47 (.aload_n 0) := ⟨by decide +kernel, rfl⟩
theorem e_X7_begin_47 : DC cX7_begin 47 1 48 (.iconst 0) := ⟨by decide +kernel, rfl⟩
theorem e_X7_begin_48 : DC cX7_begin 48 3 51 (.putfield 55) := ⟨by decide +kernel, rfl⟩
theorem fp_X7_55 : FP RX7 55 5 11 false .int := ⟨RX7, TX7, 13, tyX7, rfl, by decide, uw_5, tb_in 296 (by decide +kernel) (by decide +kernel), rfl, rfl, by decide +kernel, tyX7_ok, nmX7⟩
theorem e_X7_begin_51 : DC cX7_begin 51 1 52 (.aload_n 0) := ⟨by decide +kernel, rfl⟩
theorem e_X7_begin_52 : DC cX7_begin 52 1 53 (.iconst (-1)) := ⟨by decide +kernel, rfl⟩
theorem e_X7_begin_53 : DC cX7_begin 53 3 56 (.putfield 15) := ⟨by decide +kernel, rfl⟩
theorem e_X7_begin_56 : DC cX7_begin 56 1 57 (.return_) := ⟨by decide +kernel, rfl⟩
theorem e_X7_tokenAt_0 : DC cX7_tokenAt 0 1 1 (.iload_n 1) := ⟨by decide +kernel, rfl⟩
theorem e_X7_tokenAt_1 : DJ cX7_tokenAt 1 12 4 (.ifCond .lt) := DJ.mk 11 (by decide +kernel) (by decide) rfl
theorem e_X7_tokenAt_4 : DC cX7_tokenAt 4 1 5 (.iload_n 1) := ⟨by decide +kernel, rfl⟩
theorem e_X7_tokenAt_5 : DC cX7_tokenAt 5 1 6 (.aload_n 0) := ⟨by decide +kernel, rfl⟩
theorem e_X7_tokenAt_6 : DC cX7_tokenAt 6 3 9 (.getfield 33) := ⟨by decide +kernel, rfl⟩
theorem fl_X7_33 : FL RX7 33 5 1 := ⟨RX7, TX7, 13, rfl, by decide, uw_5, tb_in 285 (by decide +kernel) (by decide +kernel), rfl⟩
theorem e_X7_tokenAt_9 : DJ cX7_tokenAt 9 14 12 (.if_icmp .lt) := DJ.mk 5 (by decide +kernel) (by decide) rfl
theorem e_X7_tokenAt_12 : DC cX7_tokenAt 12 1 13 (.iconst 0) := ⟨by decide +kernel, rfl⟩
theorem e_X7_tokenAt_13 : DC cX7_tokenAt 13 1 14 (.ireturn) := ⟨by decide +kernel, rfl⟩
theorem e_X7_advance_0 : DC cX7_advance 0 1 1 (.aload_n 0) := ⟨by decide +kernel, rfl⟩
theorem e_X7_advance_1 : DC cX7_advance 1 3 4 (.getfield 42) := ⟨by decide +kernel, rfl⟩
theorem fl_X7_42 : FL RX7 42 5 4 := ⟨RX7, TX7, 13, rfl, by decide, uw_5, tb_in 288 (by decide +kernel) (by decide +kernel), rfl⟩
theorem e_X7_advance_4 : DC cX7_advance 4 1 5 (.aload_n 0) := ⟨by decide +kernel, rfl⟩
theorem e_X7_advance_5 : DC cX7_advance 5 3 8 (.getfield 33) := ⟨by decide +kernel, rfl⟩
theorem e_X7_advance_8 : DJ cX7_advance 8 52 11 (.if_icmp .ge) := DJ.mk 44 (by decide +kernel) (by decide) rfl
theorem e_X7_advance_52 : DC cX7_advance 52 1 53 (.aload_n 0) := ⟨by decide +kernel, rfl⟩
theorem e_X7_advance_53 : DC cX7_advance 53 1 54 (.aload_n 0) := ⟨by decide +kernel, rfl⟩
theorem e_X7_advance_54 : DC cX7_advance 54 3 57 (.getfield 42) := ⟨by decide +kernel, rfl⟩
theorem e_X7_advance_57 : DC cX7_advance 57 3 60 (.putfield 188) := ⟨by decide +kernel, rfl⟩
theorem fp_X7_188 : FP RX7 188 5 5 false .int := ⟨RX7, TX7, 13, tyX7, rfl, by decide, uw_5, tb_in 289 (by decide +kernel) (by decide +kernel), rfl, rfl, by decide +kernel, tyX7_ok, nmX7⟩
theorem e_X7_advance_60 : DC cX7_advance 60 1 61 (.aload_n 0) := ⟨by decide +kernel, rfl⟩
theorem e_X7_advance_61 : DC cX7_advance 61 1 62 (.aload_n 0) := ⟨by decide +kernel, rfl⟩
theorem e_X7_advance_62 : DC cX7_advance 62 1 63 (.aload_n 0) := ⟨by decide +kernel, rfl⟩
theorem e_X7_advance_63 : DC cX7_advance 63 3 66 (.getfield 42) := ⟨by decide +kernel, rfl⟩
theorem e_X7_advance_66 : DC cX7_advance 66 3 69 (.invokevirtual 207) := ⟨by decide +kernel, rfl⟩
theorem cb_X7_tokenAt : CB yX7_tokenAt cX7_tokenAt 3 (some .int) 1 := ⟨tb_in 412 (by decide +kernel) (by decide +kernel), tb_in 9 (by decide +kernel) (by decide +kernel), by decide +kernel⟩
theorem ml_X7_207 : Cond.methodLink RX7 207 yX7_tokenAt ∈ tb := tb_in 409 (by decide +kernel) (by decide +kernel)
theorem im_X7_tokenAt : Cond.instanceMethod yX7_tokenAt ∈ tb := tb_in 410 (by decide +kernel) (by decide +kernel)
theorem se_X7_tokenAt : Cond.selects (yX7_tokenAt).cls yX7_tokenAt yX7_tokenAt ∈ tb := tb_in 411 (by decide +kernel) (by decide +kernel)
theorem e_X7_advance_69 : DC cX7_advance 69 3 72 (.putfield 61) := ⟨by decide +kernel, rfl⟩
theorem fp_X7_61 : FP RX7 61 5 6 false .int := ⟨RX7, TX7, 13, tyX7, rfl, by decide, uw_5, tb_in 290 (by decide +kernel) (by decide +kernel), rfl, rfl, by decide +kernel, tyX7_ok, nmX7⟩
theorem e_X7_advance_72 : DC cX7_advance 72 1 73 (.aload_n 0) := ⟨by decide +kernel, rfl⟩
theorem e_X7_advance_73 : DC cX7_advance 73 3 76 (.getfield 61) := ⟨by decide +kernel, rfl⟩
theorem fl_X7_61 : FL RX7 61 5 6 := ⟨RX7, TX7, 13, rfl, by decide, uw_5, tb_in 290 (by decide +kernel) (by decide +kernel), rfl⟩
theorem e_X7_advance_76 : DC cX7_advance 76 1 77 (.iconst 1) := ⟨by decide +kernel, rfl⟩
theorem e_X7_advance_77 : DJ cX7_advance 77 87 80 (.if_icmp .ne) := DJ.mk 10 (by decide +kernel) (by decide) rfl
theorem e_X7_advance_87 : DC cX7_advance 87 1 88 (.aload_n 0) := ⟨by decide +kernel, rfl⟩
theorem e_X7_advance_88 : DC cX7_advance 88 3 91 (.getfield 61) := ⟨by decide +kernel, rfl⟩
theorem e_X7_advance_91 : DC cX7_advance 91 1 92 (.iconst 2) := ⟨by decide +kernel, rfl⟩
theorem e_X7_advance_92 : DJ cX7_advance 92 102 95 (.if_icmp .ne) := DJ.mk 10 (by decide +kernel) (by decide) rfl
theorem e_X7_advance_102 : DC cX7_advance 102 1 103 (.aload_n 0) := ⟨by decide +kernel, rfl⟩
theorem e_X7_advance_103 : DC cX7_advance 103 3 106 (.getfield 61) := ⟨by decide +kernel, rfl⟩
theorem e_X7_advance_106 : DJ cX7_advance 106 119 109 (.ifCond .eq) := DJ.mk 13 (by decide +kernel) (by decide) rfl
theorem e_X7_advance_119 : DC cX7_advance 119 1 120 (.return_) := ⟨by decide +kernel, rfl⟩
theorem e_X7_read_0 : DC cX7_read 0 1 1 (.aload_n 0) := ⟨by decide +kernel, rfl⟩
theorem e_X7_read_1 : DC cX7_read 1 3 4 (.invokevirtual 58) := ⟨by decide +kernel, rfl⟩
theorem cb_X7_advance : CB yX7_advance cX7_advance 1 none 0 := ⟨tb_in 408 (by decide +kernel) (by decide +kernel), tb_in 9 (by decide +kernel) (by decide +kernel), by decide +kernel⟩
theorem ml_X7_58 : Cond.methodLink RX7 58 yX7_advance ∈ tb := tb_in 405 (by decide +kernel) (by decide +kernel)
theorem im_X7_advance : Cond.instanceMethod yX7_advance ∈ tb := tb_in 406 (by decide +kernel) (by decide +kernel)
theorem se_X7_advance : Cond.selects (yX7_advance).cls yX7_advance yX7_advance ∈ tb := tb_in 407 (by decide +kernel) (by decide +kernel)
theorem e_X7_read_4 : DC cX7_read 4 1 5 (.iconst 0) := ⟨by decide +kernel, rfl⟩
theorem e_X7_read_5 : DC cX7_read 5 1 6 (.istore_n 1) := ⟨by decide +kernel, rfl⟩
theorem e_X7_read_6 : DC cX7_read 6 1 7 (.iload_n 1) := ⟨by decide +kernel, rfl⟩
theorem e_X7_read_7 : DC cX7_read 7 3 10 (.sipush 700) := ⟨by decide +kernel, rfl⟩
theorem e_X7_read_10 : DJ cX7_read 10 41 13 (.if_icmp .ge) := DJ.mk 31 (by decide +kernel) (by decide) rfl
theorem e_X7_read_13 : DC cX7_read 13 1 14 (.aload_n 0) := ⟨by decide +kernel, rfl⟩
theorem e_X7_read_14 : DC cX7_read 14 3 17 (.getfield 55) := ⟨by decide +kernel, rfl⟩
theorem fl_X7_55 : FL RX7 55 5 11 := ⟨RX7, TX7, 13, rfl, by decide, uw_5, tb_in 296 (by decide +kernel) (by decide +kernel), rfl⟩
theorem e_X7_read_17 : DJ cX7_read 17 41 20 (.ifCond .ne) := DJ.mk 24 (by decide +kernel) (by decide) rfl
theorem e_X7_read_20 : DC cX7_read 20 1 21 (.aload_n 0) := ⟨by decide +kernel, rfl⟩
theorem e_X7_read_21 : DC cX7_read 21 3 24 (.getfield 61) := ⟨by decide +kernel, rfl⟩
theorem e_X7_read_24 : DJ cX7_read 24 41 27 (.ifCond .eq) := DJ.mk 17 (by decide +kernel) (by decide) rfl
theorem e_X7_read_41 : DC cX7_read 41 1 42 (.return_) := ⟨by decide +kernel, rfl⟩
theorem e_X9_forgetPast_0 : DC cX9_forgetPast 0 1 1 (.aload_n 0) := ⟨by decide +kernel, rfl⟩
theorem e_X9_forgetPast_1 : DC cX9_forgetPast 1 1 2 (.iconst 0) := ⟨by decide +kernel, rfl⟩
theorem e_X9_forgetPast_2 : DC cX9_forgetPast 2 3 5 (.putfield 371) := ⟨by decide +kernel, rfl⟩
theorem fp_X9_371 : FP RX9 371 7 8 false .int := ⟨RX9, TX9, 13, tyX9, rfl, by decide, uw_7, tb_in 338 (by decide +kernel) (by decide +kernel), rfl, rfl, by decide +kernel, tyX9_ok, nmX9⟩
theorem e_X9_forgetPast_5 : DC cX9_forgetPast 5 1 6 (.aload_n 0) := ⟨by decide +kernel, rfl⟩
theorem e_X9_forgetPast_6 : DC cX9_forgetPast 6 1 7 (.iconst 0) := ⟨by decide +kernel, rfl⟩
theorem e_X9_forgetPast_7 : DC cX9_forgetPast 7 3 10 (.putfield 368) := ⟨by decide +kernel, rfl⟩
theorem e_X9_forgetPast_10 : DC cX9_forgetPast 10 1 11 (.return_) := ⟨by decide +kernel, rfl⟩
theorem e_X9_text_0 : DC cX9_text 0 1 1 (.iload_n 1) := ⟨by decide +kernel, rfl⟩
theorem e_X9_text_1 : DJ cX9_text 1 12 4 (.ifCond .lt) := DJ.mk 11 (by decide +kernel) (by decide) rfl
theorem e_X9_text_12 : DC cX9_text 12 2 14 (.bipush (-2)) := ⟨by decide +kernel, rfl⟩
theorem e_X9_text_14 : DC cX9_text 14 1 15 (.ireturn) := ⟨by decide +kernel, rfl⟩
theorem e_X9_text_4 : DC cX9_text 4 1 5 (.iload_n 1) := ⟨by decide +kernel, rfl⟩
theorem e_X9_text_5 : DC cX9_text 5 1 6 (.aload_n 0) := ⟨by decide +kernel, rfl⟩
theorem e_X9_text_6 : DC cX9_text 6 3 9 (.getfield 52) := ⟨by decide +kernel, rfl⟩
theorem e_X9_text_9 : DJ cX9_text 9 15 12 (.if_icmp .le) := DJ.mk 6 (by decide +kernel) (by decide) rfl
theorem e_X9_text_15 : DC cX9_text 15 1 16 (.aload_n 0) := ⟨by decide +kernel, rfl⟩
theorem e_X9_text_16 : DC cX9_text 16 3 19 (.getfield 20) := ⟨by decide +kernel, rfl⟩
theorem e_X9_text_19 : DC cX9_text 19 1 20 (.astore_n 2) := ⟨by decide +kernel, rfl⟩
theorem e_X9_text_20 : DC cX9_text 20 1 21 (.aload_n 2) := ⟨by decide +kernel, rfl⟩
theorem e_X9_text_21 : DC cX9_text 21 3 24 (.invokevirtual 60) := ⟨by decide +kernel, rfl⟩
theorem cb_X2_clear : CB yX2_clear cX2_clear 1 none 0 := ⟨tb_in 385 (by decide +kernel) (by decide +kernel), tb_in 2 (by decide +kernel) (by decide +kernel), by decide +kernel⟩
theorem ml_X9_60 : Cond.methodLink RX9 60 yX2_clear ∈ tb := tb_in 382 (by decide +kernel) (by decide +kernel)
theorem im_X2_clear : Cond.instanceMethod yX2_clear ∈ tb := tb_in 383 (by decide +kernel) (by decide +kernel)
theorem se_X2_clear : Cond.selects (yX2_clear).cls yX2_clear yX2_clear ∈ tb := tb_in 384 (by decide +kernel) (by decide +kernel)
theorem e_X9_text_24 : DC cX9_text 24 1 25 (.aload_n 0) := ⟨by decide +kernel, rfl⟩
theorem e_X9_text_25 : DC cX9_text 25 3 28 (.getfield 28) := ⟨by decide +kernel, rfl⟩
theorem e_X9_text_28 : DC cX9_text 28 1 29 (.iload_n 1) := ⟨by decide +kernel, rfl⟩
theorem e_X9_text_29 : DC cX9_text 29 1 30 (.aload_n 2) := ⟨by decide +kernel, rfl⟩
theorem e_X9_text_30 : DC cX9_text 30 3 33 (.invokevirtual 63) := ⟨by decide +kernel, rfl⟩
theorem cb_X7_begin : CB yX7_begin cX7_begin 3 none 2 := ⟨tb_in 396 (by decide +kernel) (by decide +kernel), tb_in 9 (by decide +kernel) (by decide +kernel), by decide +kernel⟩
theorem ml_X9_63 : Cond.methodLink RX9 63 yX7_begin ∈ tb := tb_in 393 (by decide +kernel) (by decide +kernel)
theorem im_X7_begin : Cond.instanceMethod yX7_begin ∈ tb := tb_in 394 (by decide +kernel) (by decide +kernel)
theorem se_X7_begin : Cond.selects (yX7_begin).cls yX7_begin yX7_begin ∈ tb := tb_in 395 (by decide +kernel) (by decide +kernel)
theorem e_X9_text_33 : DC cX9_text 33 1 34 (.aload_n 0) := ⟨by decide +kernel, rfl⟩
theorem e_X9_text_34 : DC cX9_text 34 3 37 (.getfield 28) := ⟨by decide +kernel, rfl⟩
theorem e_X9_text_37 : DC cX9_text 37 3 40 (.invokevirtual 67) := ⟨by decide +kernel, rfl⟩
theorem cb_X7_read : CB yX7_read cX7_read 2 none 0 := ⟨tb_in 404 (by decide +kernel) (by decide +kernel), tb_in 9 (by decide +kernel) (by decide +kernel), by decide +kernel⟩
theorem ml_X9_67 : Cond.methodLink RX9 67 yX7_read ∈ tb := tb_in 401 (by decide +kernel) (by decide +kernel)
theorem im_X7_read : Cond.instanceMethod yX7_read ∈ tb := tb_in 402 (by decide +kernel) (by decide +kernel)
theorem se_X7_read : Cond.selects (yX7_read).cls yX7_read yX7_read ∈ tb := tb_in 403 (by decide +kernel) (by decide +kernel)
theorem e_X9_text_40 : DC cX9_text 40 1 41 (.aload_n 0) := ⟨by decide +kernel, rfl⟩
theorem e_X9_text_41 : DC cX9_text 41 1 42 (.iconst 0) := ⟨by decide +kernel, rfl⟩
theorem e_X9_text_42 : DC cX9_text 42 3 45 (.putfield 52) := ⟨by decide +kernel, rfl⟩
theorem e_X9_text_45 : DC cX9_text 45 1 46 (.aload_n 0) := ⟨by decide +kernel, rfl⟩
theorem e_X9_text_46 : DC cX9_text 46 3 49 (.getfield 28) := ⟨by decide +kernel, rfl⟩
theorem e_X9_text_49 : DC cX9_text 49 3 52 (.getfield 70) := ⟨by decide +kernel, rfl⟩
theorem e_X9_text_52 : DJ cX9_text 52 57 55 (.ifCond .eq) := DJ.mk 5 (by decide +kernel) (by decide) rfl
theorem e_X9_text_57 : DC cX9_text 57 1 58 (.aload_n 2) := ⟨by decide +kernel, rfl⟩
theorem e_X9_text_58 : DC cX9_text 58 1 59 (.aload_n 0) := ⟨by decide +kernel, rfl⟩
theorem e_X9_text_59 : DC cX9_text 59 3 62 (.getfield 42) := ⟨by decide +kernel, rfl⟩
theorem e_X9_text_62 : DC cX9_text 62 3 65 (.invokevirtual 73) := ⟨by decide +kernel, rfl⟩
theorem cb_X2_findRates : CB yX2_findRates cX2_findRates 5 none 1 := ⟨tb_in 890 (by decide +kernel) (by decide +kernel), tb_in 2 (by decide +kernel) (by decide +kernel), by decide +kernel⟩
theorem ml_X9_73 : Cond.methodLink RX9 73 yX2_findRates ∈ tb := tb_in 887 (by decide +kernel) (by decide +kernel)
theorem im_X2_findRates : Cond.instanceMethod yX2_findRates ∈ tb := tb_in 888 (by decide +kernel) (by decide +kernel)
theorem se_X2_findRates : Cond.selects (yX2_findRates).cls yX2_findRates yX2_findRates ∈ tb := tb_in 889 (by decide +kernel) (by decide +kernel)
theorem e_X9_text_65 : DC cX9_text 65 1 66 (.aload_n 0) := ⟨by decide +kernel, rfl⟩
theorem e_X9_text_66 : DC cX9_text 66 1 67 (.aload_n 0) := ⟨by decide +kernel, rfl⟩
theorem e_X9_text_67 : DC cX9_text 67 3 70 (.getfield 16) := ⟨by decide +kernel, rfl⟩
theorem e_X9_text_70 : DC cX9_text 70 3 73 (.putfield 20) := ⟨by decide +kernel, rfl⟩
theorem e_X9_text_73 : DC cX9_text 73 1 74 (.aload_n 0) := ⟨by decide +kernel, rfl⟩
theorem e_X9_text_74 : DC cX9_text 74 1 75 (.aload_n 2) := ⟨by decide +kernel, rfl⟩
theorem e_X9_text_75 : DC cX9_text 75 3 78 (.putfield 16) := ⟨by decide +kernel, rfl⟩
theorem e_X9_text_78 : DC cX9_text 78 1 79 (.aload_n 0) := ⟨by decide +kernel, rfl⟩
theorem e_X9_text_79 : DC cX9_text 79 1 80 (.iconst 0) := ⟨by decide +kernel, rfl⟩
theorem e_X9_text_80 : DC cX9_text 80 3 83 (.putfield 77) := ⟨by decide +kernel, rfl⟩
theorem e_X9_text_83 : DC cX9_text 83 1 84 (.aload_n 0) := ⟨by decide +kernel, rfl⟩
theorem e_X9_text_84 : DC cX9_text 84 3 87 (.invokevirtual 81) := ⟨by decide +kernel, rfl⟩
theorem cb_X9_forgetPast : CB yX9_forgetPast cX9_forgetPast 1 none 0 := ⟨tb_in 923 (by decide +kernel) (by decide +kernel), tb_in 1 (by decide +kernel) (by decide +kernel), by decide +kernel⟩
theorem ml_X9_81 : Cond.methodLink RX9 81 yX9_forgetPast ∈ tb := tb_in 920 (by decide +kernel) (by decide +kernel)
theorem im_X9_forgetPast : Cond.instanceMethod yX9_forgetPast ∈ tb := tb_in 922 (by decide +kernel) (by decide +kernel)
theorem se_X9_forgetPast : Cond.selects (yX9_forgetPast).cls yX9_forgetPast yX9_forgetPast ∈ tb := tb_sel 2 (by decide +kernel) (by decide +kernel)
theorem e_X9_text_87 : DC cX9_text 87 1 88 (.aload_n 0) := ⟨by decide +kernel, rfl⟩
theorem e_X9_text_88 : DC cX9_text 88 3 91 (.getfield 28) := ⟨by decide +kernel, rfl⟩
theorem e_X9_text_91 : DC cX9_text 91 3 94 (.getfield 84) := ⟨by decide +kernel, rfl⟩
theorem fl_X9_84 : FL RX9 84 5 10 := ⟨RX7, TX7, 13, rfl, by decide, uw_5, tb_in 295 (by decide +kernel) (by decide +kernel), rfl⟩
theorem e_X9_text_94 : DC cX9_text 94 1 95 (.ireturn) := ⟨by decide +kernel, rfl⟩
set_option maxRecDepth 20000 in
theorem k_Jclear (l : Launch) (V : VX) (N : Nat) (σ : Mem) (a : Nat) (t : Int32) (ca : Nat → Int64) (h_a : σ a = some (ob 2 [.ref (a + 1), .ref (a + 2), .int t])) (h_c : σ (a + 2) = some (aJ V 6 ca)) : Ct l V yX3_clear cX3_clear 1 none 1 0 0 N σ [.ref a] (fun r τ => r = none ∧ τ = (va_up (va_up σ a (some (ob 2 [.ref (a + 1), .ref (a + 2), .int 0]))) (a + 2) (some (aJ V 6 (fillJ ca 0 0 6))))) := by
  refine Ct.of (by decide) (Nat.le_of_ble_eq_true rfl) [(0, .ref a)] rfl (fun X hX F hQ => ?_)
  refine m_aload_n F rfl e_X3_clear_0 ?_
  refine m_iconst F (v := 0) (by decide) e_X3_clear_1 ?_
  refine m_put F e_X3_clear_2 fp_X3_18 h_a rfl rfl (Nat.le_of_ble_eq_true rfl) (fs' := [.ref (a + 1), .ref (a + 2), .int 0]) rfl rfl ?_
  refine m_aload_n F rfl e_X3_clear_5 ?_
  refine m_get F e_X3_clear_6 fl_X3_15 ru_eq rfl ?_
  refine m_lconst F (v := 0) (by decide) e_X3_clear_9 ?_
  refine m_callS F e_X3_clear_10 (k_fillJ (x_l X) V _ _ (a + 2) 6 ca 0 (by decide) (ru_ne (by omega) h_c)) cb_J7_fill_d0a16 ml_X3_22 sm_J7_fill_d0a16 rfl (rest := []) rfl (Nat.le_of_ble_eq_true rfl) ⟨Nat.le_of_ble_eq_true rfl, Nat.le_of_ble_eq_true rfl⟩ ⟨Nat.le_of_ble_eq_true rfl, Nat.le_of_ble_eq_true rfl⟩ (k' := 0) (z' := 0) (N' := N) rfl rfl rfl (fun r τ hp => ?_)
  obtain ⟨rfl, rfl⟩ := hp
  exact m_vret F hQ e_X3_clear_13 (⟨rfl, rfl⟩)
set_option maxRecDepth 20000 in
theorem k_clear0 (l : Launch) (V : VX) (N : Nat) (σ : Mem) (b p : Nat)  (hB : EB V σ b p)  : Ct l V yX2_clear cX2_clear 1 none 2 0 0 N σ [.ref b] (fun r τ => r = none ∧ EB V τ b 0 ∧ ∀ q : Nat, (q < b ∨ b + 62 < q) → τ q = σ q) := by
  refine Ct.of (by decide) (Nat.le_of_ble_eq_true rfl) [(0, .ref b)] rfl (fun X hX F hQ => ?_)
  obtain ⟨ix220, tp220, rw220, ac220, h0220, h1220, t0220, t1220, a0_220, a1_220, a2_220, a3_220, a4_220, a5_220, a6_220, a7_220, a8_220, a9_220, a10_220⟩ := hB
  refine m_aload_n F rfl e_X2_clear_0 ?_
  refine m_iconst F (v := 0) (by decide) e_X2_clear_1 ?_
  refine m_put F e_X2_clear_2 fp_X2_58 a0_220 rfl rfl (Nat.le_of_ble_eq_true rfl) (fs' := [.ref (b + 1), .ref (b + 2), .ref (b + 3), .ref (b + 4), .ref (b + 5), .ref (b + 8), .ref (b + 9), .ref (b + 10), .int 0, .int 0, .int 0, .int (nI p), .int 0]) rfl (up_self a0_220).symm ?_
  refine m_aload_n F rfl e_X2_clear_5 ?_
  refine m_iconst F (v := 0) (by decide) e_X2_clear_6 ?_
  refine m_put F e_X2_clear_7 fp_X2_62 a0_220 rfl rfl (Nat.le_of_ble_eq_true rfl) (fs' := [.ref (b + 1), .ref (b + 2), .ref (b + 3), .ref (b + 4), .ref (b + 5), .ref (b + 8), .ref (b + 9), .ref (b + 10), .int 0, .int 0, .int 0, .int (nI p), .int 0]) rfl (up_self a0_220).symm ?_
  refine m_aload_n F rfl e_X2_clear_10 ?_
  refine m_iconst F (v := 0) (by decide) e_X2_clear_11 ?_
  refine m_put F e_X2_clear_12 fp_X2_65 a0_220 rfl rfl (Nat.le_of_ble_eq_true rfl) (fs' := [.ref (b + 1), .ref (b + 2), .ref (b + 3), .ref (b + 4), .ref (b + 5), .ref (b + 8), .ref (b + 9), .ref (b + 10), .int 0, .int 0, .int 0, .int (nI p), .int 0]) rfl (up_self a0_220).symm ?_
  refine m_aload_n F rfl e_X2_clear_15 ?_
  refine m_iconst F (v := 0) (by decide) e_X2_clear_16 ?_
  refine m_put F e_X2_clear_17 fp_X2_68 a0_220 rfl rfl (Nat.le_of_ble_eq_true rfl) (fs' := [.ref (b + 1), .ref (b + 2), .ref (b + 3), .ref (b + 4), .ref (b + 5), .ref (b + 8), .ref (b + 9), .ref (b + 10), .int 0, .int 0, .int 0, .int 0, .int 0]) rfl rfl ?_
  refine m_aload_n F rfl e_X2_clear_20 ?_
  refine m_iconst F (v := 0) (by decide) e_X2_clear_21 ?_
  refine m_put F e_X2_clear_22 fp_X2_71 ru_eq rfl rfl (Nat.le_of_ble_eq_true rfl) (fs' := [.ref (b + 1), .ref (b + 2), .ref (b + 3), .ref (b + 4), .ref (b + 5), .ref (b + 8), .ref (b + 9), .ref (b + 10), .int 0, .int 0, .int 0, .int 0, .int 0]) rfl (up_self ru_eq).symm ?_
  refine m_aload_n F rfl e_X2_clear_25 ?_
  refine m_get F e_X2_clear_26 fl_X2_23 ru_eq rfl ?_
  refine m_sipush F (v := 1000) (by decide) e_X2_clear_29 ?_
  refine m_callS F e_X2_clear_32 (k_fillI (x_l X) V _ _ (b + 3) 100 ix220 1000 (by decide) (ru_ne (by omega) a3_220)) cb_J7_fill_53178 ml_X2_52 sm_J7_fill_53178 rfl (rest := []) rfl (Nat.le_of_ble_eq_true rfl) ⟨Nat.le_of_ble_eq_true rfl, Nat.le_of_ble_eq_true rfl⟩ ⟨Nat.le_of_ble_eq_true rfl, Nat.le_of_ble_eq_true rfl⟩ (k' := 0) (z' := 0) (N' := N) rfl rfl rfl (fun r τ hp => ?_)
  obtain ⟨rfl, rfl⟩ := hp
  refine m_aload_n F rfl e_X2_clear_35 ?_
  refine m_get F e_X2_clear_36 fl_X2_33 (ru_ne (by omega) ru_eq) rfl ?_
  refine m_callV F e_X2_clear_39 (k_Jclear (x_l X) V _ _ (b + 5) 0 ac220 (ru_ne (by omega) (ru_ne (by omega) a5_220)) (ru_ne (by omega) (ru_ne (by omega) a7_220))) cb_X3_clear ml_X2_74 im_X3_clear se_X3_clear (ru_ne (by omega) (ru_ne (by omega) a5_220)) rfl rfl (rest := []) rfl (Nat.le_of_ble_eq_true rfl) ⟨Nat.le_of_ble_eq_true rfl, Nat.le_of_ble_eq_true rfl⟩ ⟨Nat.le_of_ble_eq_true rfl, Nat.le_of_ble_eq_true rfl⟩ (k' := 0) (z' := 0) (N' := N) rfl rfl rfl (fun r τ hp => ?_)
  obtain ⟨rfl, rfl⟩ := hp
  exact m_vret F hQ e_X2_clear_42 (⟨rfl, ⟨_, _, _, _, _, _, _, _, (ru_ne (by omega) (ru_ne (by omega) (ru_ne (by omega) ru_eq))), (ru_ne (by omega) (ru_ne (by omega) (ru_ne (by omega) (ru_ne (by omega) a1_220)))), (ru_ne (by omega) (ru_ne (by omega) (ru_ne (by omega) (ru_ne (by omega) a2_220)))), (ru_ne (by omega) (ru_ne (by omega) ru_eq)), (ru_ne (by omega) (ru_ne (by omega) (ru_ne (by omega) (ru_ne (by omega) a4_220)))), (ru_ne (by omega) ru_eq), (ru_ne (by omega) (ru_ne (by omega) (ru_ne (by omega) (ru_ne (by omega) a6_220)))), ru_eq, (ru_ne (by omega) (ru_ne (by omega) (ru_ne (by omega) (ru_ne (by omega) a8_220)))), (ru_ne (by omega) (ru_ne (by omega) (ru_ne (by omega) (ru_ne (by omega) a9_220)))), (ru_ne (by omega) (ru_ne (by omega) (ru_ne (by omega) (ru_ne (by omega) a10_220))))⟩, fun q h1 => (ru_ne (by omega) (ru_ne (by omega) (ru_ne (by omega) (ru_ne (by omega) rfl))))⟩)
set_option maxRecDepth 20000 in
theorem k_Rbegin0 (l : Launch) (V : VX) (N : Nat) (σ : Mem) (a t c : Nat) (g f : Nat → Int32) (h_a : σ a = some (ob 5 [.ref t, .int 0, .ref c, .ref (a + 1), .int 0, .int 0, .int 0, .int 0, .int 0, .int 0, .int 0, .int 0, .int (-1)])) (h_o : σ (a + 1) = some (aI V 4 g)) (h_t : σ t = some (aB V 700 f)) : Ct l V yX7_begin cX7_begin 3 none 1 0 0 N σ [.ref a, .int 0, .ref c] (fun r τ => r = none ∧ τ = (va_up σ (a + 1) (some (aI V 4 (fillI g 0 0 4))))) := by
  refine Ct.of (by decide) (Nat.le_of_ble_eq_true rfl) [(0, .ref a), (1, .int 0), (2, .ref c)] rfl (fun X hX F hQ => ?_)
  refine m_aload_n F rfl e_X7_begin_0 ?_
  refine m_iload_n F rfl e_X7_begin_1 ?_
  refine m_aload_n F rfl e_X7_begin_2 ?_
  refine m_get F e_X7_begin_3 fl_X7_19 h_a rfl ?_
  refine m_alen F e_X7_begin_6 h_t rfl (v := 700) (by first | decide | rfl) ?_
  refine m_min F e_X7_begin_7 ml_X7_27 sm_min ini_math co_min (Nat.le_of_ble_eq_true rfl) (Nat.le_of_ble_eq_true rfl) (Nat.le_of_ble_eq_true rfl) (Nat.le_of_ble_eq_true rfl) ?_
  refine Wm.topE (w := 0) (by decide) ?_
  refine m_put F e_X7_begin_10 fp_X7_33 h_a rfl rfl (Nat.le_of_ble_eq_true rfl) (fs' := [.ref t, .int 0, .ref c, .ref (a + 1), .int 0, .int 0, .int 0, .int 0, .int 0, .int 0, .int 0, .int 0, .int (-1)]) rfl (up_self h_a).symm ?_
  refine m_aload_n F rfl e_X7_begin_13 ?_
  refine m_aload_n F rfl e_X7_begin_14 ?_
  refine m_put F e_X7_begin_15 fp_X7_23 h_a rfl rfl (Nat.le_of_ble_eq_true rfl) (fs' := [.ref t, .int 0, .ref c, .ref (a + 1), .int 0, .int 0, .int 0, .int 0, .int 0, .int 0, .int 0, .int 0, .int (-1)]) rfl (up_self h_a).symm ?_
  refine m_aload_n F rfl e_X7_begin_18 ?_
  refine m_get F e_X7_begin_19 fl_X7_9 h_a rfl ?_
  refine m_iconst F (v := 0) (by decide) e_X7_begin_22 ?_
  refine m_callS F e_X7_begin_23 (k_fillI (x_l X) V _ _ (a + 1) 4 g 0 (by decide) h_o) cb_J7_fill_53178 ml_X7_36 sm_J7_fill_53178 rfl (rest := []) rfl (Nat.le_of_ble_eq_true rfl) ⟨Nat.le_of_ble_eq_true rfl, Nat.le_of_ble_eq_true rfl⟩ ⟨Nat.le_of_ble_eq_true rfl, Nat.le_of_ble_eq_true rfl⟩ (k' := 0) (z' := 0) (N' := N) rfl rfl rfl (fun r τ hp => ?_)
  obtain ⟨rfl, rfl⟩ := hp
  refine m_aload_n F rfl e_X7_begin_26 ?_
  refine m_iconst F (v := 0) (by decide) e_X7_begin_27 ?_
  refine m_put F e_X7_begin_28 fp_X7_42 (ru_ne (by omega) h_a) rfl rfl (Nat.le_of_ble_eq_true rfl) (fs' := [.ref t, .int 0, .ref c, .ref (a + 1), .int 0, .int 0, .int 0, .int 0, .int 0, .int 0, .int 0, .int 0, .int (-1)]) rfl (up_self (ru_ne (by omega) h_a)).symm ?_
  refine m_aload_n F rfl e_X7_begin_31 ?_
  refine m_iconst F (v := 0) (by decide) e_X7_begin_32 ?_
  refine m_put F e_X7_begin_33 fp_X7_45 (ru_ne (by omega) h_a) rfl rfl (Nat.le_of_ble_eq_true rfl) (fs' := [.ref t, .int 0, .ref c, .ref (a + 1), .int 0, .int 0, .int 0, .int 0, .int 0, .int 0, .int 0, .int 0, .int (-1)]) rfl (up_self (ru_ne (by omega) h_a)).symm ?_
  refine m_aload_n F rfl e_X7_begin_36 ?_
  refine m_iconst F (v := 0) (by decide) e_X7_begin_37 ?_
  refine m_put F e_X7_begin_38 fp_X7_48 (ru_ne (by omega) h_a) (by decide) rfl (Nat.le_of_ble_eq_true rfl) (fs' := [.ref t, .int 0, .ref c, .ref (a + 1), .int 0, .int 0, .int 0, .int 0, .int 0, .int 0, .int 0, .int 0, .int (-1)]) rfl (up_self (ru_ne (by omega) h_a)).symm ?_
  refine m_aload_n F rfl e_X7_begin_41 ?_
  refine m_iconst F (v := 0) (by decide) e_X7_begin_42 ?_
  refine m_put F e_X7_begin_43 fp_X7_52 (ru_ne (by omega) h_a) rfl rfl (Nat.le_of_ble_eq_true rfl) (fs' := [.ref t, .int 0, .ref c, .ref (a + 1), .int 0, .int 0, .int 0, .int 0, .int 0, .int 0, .int 0, .int 0, .int (-1)]) rfl (up_self (ru_ne (by omega) h_a)).symm ?_
  refine m_aload_n F rfl e_X7_begin_46 ?_
  refine m_iconst F (v := 0) (by decide) e_X7_begin_47 ?_
  refine m_put F e_X7_begin_48 fp_X7_55 (ru_ne (by omega) h_a) rfl rfl (Nat.le_of_ble_eq_true rfl) (fs' := [.ref t, .int 0, .ref c, .ref (a + 1), .int 0, .int 0, .int 0, .int 0, .int 0, .int 0, .int 0, .int 0, .int (-1)]) rfl (up_self (ru_ne (by omega) h_a)).symm ?_
  refine m_aload_n F rfl e_X7_begin_51 ?_
  refine m_iconst F (v := (-1)) (by decide) e_X7_begin_52 ?_
  refine m_put F e_X7_begin_53 fp_X7_15 (ru_ne (by omega) h_a) rfl rfl (Nat.le_of_ble_eq_true rfl) (fs' := [.ref t, .int 0, .ref c, .ref (a + 1), .int 0, .int 0, .int 0, .int 0, .int 0, .int 0, .int 0, .int 0, .int (-1)]) rfl (up_self (ru_ne (by omega) h_a)).symm ?_
  exact m_vret F hQ e_X7_begin_56 (⟨rfl, rfl⟩)
set_option maxRecDepth 20000 in
theorem k_tokenAt0 (l : Launch) (V : VX) (N : Nat) (σ : Mem) (a t c : Nat) (h_a : σ a = some (ob 5 [.ref t, .int 0, .ref c, .ref (a + 1), .int 0, .int 0, .int 0, .int 0, .int 0, .int 0, .int 0, .int 0, .int (-1)])) : Ct l V yX7_tokenAt cX7_tokenAt 3 (some .int) 0 0 0 N σ [.ref a, .int 0] (fun r τ => r = some (.int 0) ∧ τ = σ) := by
  refine Ct.of (by decide) (Nat.le_of_ble_eq_true rfl) [(0, .ref a), (1, .int 0)] rfl (fun X hX F hQ => ?_)
  refine m_iload_n F rfl e_X7_tokenAt_0 ?_
  refine m_if_lt F e_X7_tokenAt_1 (fun q => absurd q (by decide)) (fun _ => ?_)
  refine m_iload_n F rfl e_X7_tokenAt_4 ?_
  refine m_aload_n F rfl e_X7_tokenAt_5 ?_
  refine m_get F e_X7_tokenAt_6 fl_X7_33 h_a rfl ?_
  refine m_icmp_lt F e_X7_tokenAt_9 (fun q => absurd q (by decide)) (fun _ => ?_)
  refine m_iconst F (v := 0) (by decide) e_X7_tokenAt_12 ?_
  exact m_iret F hQ e_X7_tokenAt_13 (⟨rfl, rfl⟩)
set_option maxRecDepth 20000 in
theorem k_advance0 (l : Launch) (V : VX) (N : Nat) (σ : Mem) (a t c : Nat) (h_a : σ a = some (ob 5 [.ref t, .int 0, .ref c, .ref (a + 1), .int 0, .int 0, .int 0, .int 0, .int 0, .int 0, .int 0, .int 0, .int (-1)])) : Ct l V yX7_advance cX7_advance 1 none 1 0 0 N σ [.ref a] (fun r τ => r = none ∧ τ = σ) := by
  refine Ct.of (by decide) (Nat.le_of_ble_eq_true rfl) [(0, .ref a)] rfl (fun X hX F hQ => ?_)
  refine m_aload_n F rfl e_X7_advance_0 ?_
  refine m_get F e_X7_advance_1 fl_X7_42 h_a rfl ?_
  refine m_aload_n F rfl e_X7_advance_4 ?_
  refine m_get F e_X7_advance_5 fl_X7_33 h_a rfl ?_
  refine m_icmp_ge F e_X7_advance_8 (fun _ => ?_) (fun q => absurd (by decide) q)
  refine m_aload_n F rfl e_X7_advance_52 ?_
  refine m_aload_n F rfl e_X7_advance_53 ?_
  refine m_get F e_X7_advance_54 fl_X7_42 h_a rfl ?_
  refine m_put F e_X7_advance_57 fp_X7_188 h_a rfl rfl (Nat.le_of_ble_eq_true rfl) (fs' := [.ref t, .int 0, .ref c, .ref (a + 1), .int 0, .int 0, .int 0, .int 0, .int 0, .int 0, .int 0, .int 0, .int (-1)]) rfl (up_self h_a).symm ?_
  refine m_aload_n F rfl e_X7_advance_60 ?_
  refine m_aload_n F rfl e_X7_advance_61 ?_
  refine m_aload_n F rfl e_X7_advance_62 ?_
  refine m_get F e_X7_advance_63 fl_X7_42 h_a rfl ?_
  refine m_callV F e_X7_advance_66 (k_tokenAt0 (x_l X) V _ _ a t c h_a) cb_X7_tokenAt ml_X7_207 im_X7_tokenAt se_X7_tokenAt h_a rfl rfl (rest := [.ref a]) rfl (Nat.le_of_ble_eq_true rfl) ⟨Nat.le_of_ble_eq_true rfl, Nat.le_of_ble_eq_true rfl⟩ ⟨Nat.le_of_ble_eq_true rfl, Nat.le_of_ble_eq_true rfl⟩ (k' := 0) (z' := 0) (N' := N) rfl rfl rfl (fun r τ hp => ?_)
  obtain ⟨rfl, hτ⟩ := hp
  rw [hτ]
  clear hτ
  refine m_put F e_X7_advance_69 fp_X7_61 h_a rfl rfl (Nat.le_of_ble_eq_true rfl) (fs' := [.ref t, .int 0, .ref c, .ref (a + 1), .int 0, .int 0, .int 0, .int 0, .int 0, .int 0, .int 0, .int 0, .int (-1)]) rfl (up_self h_a).symm ?_
  refine m_aload_n F rfl e_X7_advance_72 ?_
  refine m_get F e_X7_advance_73 fl_X7_61 h_a rfl ?_
  refine m_iconst F (v := 1) (by decide) e_X7_advance_76 ?_
  refine m_icmp_ne F e_X7_advance_77 (fun _ => ?_) (fun q => absurd q (by decide))
  refine m_aload_n F rfl e_X7_advance_87 ?_
  refine m_get F e_X7_advance_88 fl_X7_61 h_a rfl ?_
  refine m_iconst F (v := 2) (by decide) e_X7_advance_91 ?_
  refine m_icmp_ne F e_X7_advance_92 (fun _ => ?_) (fun q => absurd q (by decide))
  refine m_aload_n F rfl e_X7_advance_102 ?_
  refine m_get F e_X7_advance_103 fl_X7_61 h_a rfl ?_
  refine m_if_eq F e_X7_advance_106 (fun _ => ?_) (fun q => absurd (by decide) q)
  exact m_vret F hQ e_X7_advance_119 (⟨rfl, rfl⟩)
set_option maxRecDepth 20000 in
theorem k_read0 (l : Launch) (V : VX) (N : Nat) (σ : Mem) (a t c : Nat) (h_a : σ a = some (ob 5 [.ref t, .int 0, .ref c, .ref (a + 1), .int 0, .int 0, .int 0, .int 0, .int 0, .int 0, .int 0, .int 0, .int (-1)])) : Ct l V yX7_read cX7_read 2 none 2 0 0 N σ [.ref a] (fun r τ => r = none ∧ τ = σ) := by
  refine Ct.of (by decide) (Nat.le_of_ble_eq_true rfl) [(0, .ref a)] rfl (fun X hX F hQ => ?_)
  refine m_aload_n F rfl e_X7_read_0 ?_
  refine m_callV F e_X7_read_1 (k_advance0 (x_l X) V _ _ a t c h_a) cb_X7_advance ml_X7_58 im_X7_advance se_X7_advance h_a rfl rfl (rest := []) rfl (Nat.le_of_ble_eq_true rfl) ⟨Nat.le_of_ble_eq_true rfl, Nat.le_of_ble_eq_true rfl⟩ ⟨Nat.le_of_ble_eq_true rfl, Nat.le_of_ble_eq_true rfl⟩ (k' := 0) (z' := 0) (N' := N) rfl rfl rfl (fun r τ hp => ?_)
  obtain ⟨rfl, hτ⟩ := hp
  rw [hτ]
  clear hτ
  refine m_iconst F (v := 0) (by decide) e_X7_read_4 ?_
  refine m_istore_n F (lv' := [(1, .int 0), (0, .ref a)]) e_X7_read_5 (by decide) rfl ?_
  refine m_iload_n F rfl e_X7_read_6 ?_
  refine m_sipush F (v := 700) (by decide) e_X7_read_7 ?_
  refine m_icmp_ge F e_X7_read_10 (fun q => absurd q (by decide)) (fun _ => ?_)
  refine m_aload_n F rfl e_X7_read_13 ?_
  refine m_get F e_X7_read_14 fl_X7_55 h_a rfl ?_
  refine m_if_ne F e_X7_read_17 (fun q => absurd (by decide) q) (fun _ => ?_)
  refine m_aload_n F rfl e_X7_read_20 ?_
  refine m_get F e_X7_read_21 fl_X7_61 h_a rfl ?_
  refine m_if_eq F e_X7_read_24 (fun _ => ?_) (fun q => absurd (by decide) q)
  exact m_vret F hQ e_X7_read_41 (⟨rfl, rfl⟩)
set_option maxRecDepth 20000 in
theorem k_forget0 (l : Launch) (V : VX) (N : Nat) (σ : Mem) (b k1 k2 : Nat) (h_b : σ b = some (ob 7 [.ref (b + 1), .int 0, .ref k1, .ref k2, .ref (b + 128), .ref (b + 130), .int 0, .ref (b + 193), .int 0, .int 0, .ref (b + 194), .ref (b + 195), .ref (b + 196)])) : Ct l V yX9_forgetPast cX9_forgetPast 1 none 0 0 0 N σ [.ref b] (fun r τ => r = none ∧ τ = σ) := by
  refine Ct.of (by decide) (Nat.le_of_ble_eq_true rfl) [(0, .ref b)] rfl (fun X hX F hQ => ?_)
  refine m_aload_n F rfl e_X9_forgetPast_0 ?_
  refine m_iconst F (v := 0) (by decide) e_X9_forgetPast_1 ?_
  refine m_put F e_X9_forgetPast_2 fp_X9_371 h_b rfl rfl (Nat.le_of_ble_eq_true rfl) (fs' := [.ref (b + 1), .int 0, .ref k1, .ref k2, .ref (b + 128), .ref (b + 130), .int 0, .ref (b + 193), .int 0, .int 0, .ref (b + 194), .ref (b + 195), .ref (b + 196)]) rfl (up_self h_b).symm ?_
  refine m_aload_n F rfl e_X9_forgetPast_5 ?_
  refine m_iconst F (v := 0) (by decide) e_X9_forgetPast_6 ?_
  refine m_put F e_X9_forgetPast_7 fp_X9_368 h_b rfl rfl (Nat.le_of_ble_eq_true rfl) (fs' := [.ref (b + 1), .int 0, .ref k1, .ref k2, .ref (b + 128), .ref (b + 130), .int 0, .ref (b + 193), .int 0, .int 0, .ref (b + 194), .ref (b + 195), .ref (b + 196)]) rfl (up_self h_b).symm ?_
  exact m_vret F hQ e_X9_forgetPast_10 (⟨rfl, rfl⟩)
set_option maxRecDepth 20000 in
theorem ldg_text (l : Launch) (V : VX) (N : Nat) (σ : Mem) (b : Nat) (x : Int32) (hZ : LLz V σ b) : Ct l V yX9_text cX9_text 3 (some .int) 4 0 0 N σ [.ref b, .int x] (fun r τ => r = some (.int (if x < 0 ∨ 0 < x then -2 else 0)) ∧ ∀ q : Nat, b + 1457 ≤ q → τ q = σ q) := by
  refine Ct.of (by decide) (Nat.le_of_ble_eq_true rfl) [(0, .ref b), (1, .int x)] rfl (fun X hX F hQ => ?_)
  obtain ⟨a0, a1, a2, a3, a4, a5, a6, a7, b0, b1, b2, b3⟩ := hZ
  have e1 := b0.eb
  have e2 := b1.eb
  have e3 := b2.eb
  have pst : ∀ j, j < 20 → ∃ pj, EB V σ (b + 197 + 63 * j) pj := fun j hj => ⟨0, (b3 j hj).eb⟩
  refine m_iload_n F rfl e_X9_text_0 ?_
  refine m_if_lt F e_X9_text_1 (fun q1 => ?_) (fun q1 => ?_)
  · refine m_bipush F (v := (-2)) (by decide) e_X9_text_12 ?_
    exact m_iret F hQ e_X9_text_14 (⟨by rw [if_pos (Or.inl q1)], fun q h1 => rfl⟩)
  · refine m_iload_n F rfl e_X9_text_4 ?_
    refine m_aload_n F rfl e_X9_text_5 ?_
    refine m_get F e_X9_text_6 fl_X9_52 a0 rfl ?_
    refine m_icmp_le F e_X9_text_9 (fun q9 => ?_) (fun q9 => ?_)
    · have ex : x = 0 := Int32.le_antisymm q9 (Int32.not_lt.mp q1)
      subst ex
      refine m_aload_n F rfl e_X9_text_15 ?_
      refine m_get F e_X9_text_16 fl_X9_20 a0 rfl ?_
      refine m_astore_n F (lv' := [(2, .ref (b + 65)), (0, .ref b), (1, .int 0)]) e_X9_text_19 (by decide) rfl ?_
      refine m_aload_n F rfl e_X9_text_20 ?_
      refine m_callV F e_X9_text_21 (k_clear0 (x_l X) V _ _ (b + 65) 0 e2) cb_X2_clear ml_X9_60 im_X2_clear se_X2_clear e2.head rfl rfl (rest := []) rfl (Nat.le_of_ble_eq_true rfl) ⟨Nat.le_of_ble_eq_true rfl, Nat.le_of_ble_eq_true rfl⟩ ⟨Nat.le_of_ble_eq_true rfl, Nat.le_of_ble_eq_true rfl⟩ (k' := 0) (z' := 0) (N' := N) rfl rfl rfl (fun r τ221 hp => ?_)
      obtain ⟨rfl, eb222, hf223⟩ := hp
      have g224 : τ221 b = some (ob 7 [.ref (b + 1), .int 0, .ref (b + 2), .ref (b + 65), .ref (b + 128), .ref (b + 130), .int 0, .ref (b + 193), .int 0, .int 0, .ref (b + 194), .ref (b + 195), .ref (b + 196)]) := (hf223 b (by omega)).trans a0
      have g225 : τ221 (b + 1) = some (aB V 700 (fun _ => 0)) := (hf223 (b + 1) (by omega)).trans a1
      have g226 : τ221 (b + 128) = some (ob 5 [.ref (b + 1), .int 0, .ref (b + 65), .ref (b + 129), .int 0, .int 0, .int 0, .int 0, .int 0, .int 0, .int 0, .int 0, .int (-1)]) := (hf223 (b + 128) (by omega)).trans a2
      have g227 : τ221 (b + 129) = some (aI V 4 (fun _ => 0)) := (hf223 (b + 129) (by omega)).trans a3
      have g228 : τ221 (b + 193) = some (aR 6 V 20 (pfB b)) := (hf223 (b + 193) (by omega)).trans a4
      have g229 : τ221 (b + 194) = some (ob 0 [.long 0, .long 0]) := (hf223 (b + 194) (by omega)).trans a5
      have g230 : τ221 (b + 195) = some (ob 0 [.long 0, .long 0]) := (hf223 (b + 195) (by omega)).trans a6
      have g231 : τ221 (b + 196) = some (ob 0 [.long 0, .long 0]) := (hf223 (b + 196) (by omega)).trans a7
      have eb232 : EB V τ221 (b + 2) 0 := e1.keep (fun x g1 g2 => (hf223 x (by omega)).trans rfl)
      have eb233 : EB V τ221 (b + 130) 0 := e3.keep (fun x g1 g2 => (hf223 x (by omega)).trans rfl)
      have pst234 : ∀ j, j < 20 → ∃ pj, EB V τ221 (b + 197 + 63 * j) pj := fun j hj => (pst j hj).elim (fun pj h9 => ⟨pj, h9.keep (fun x g1 g2 => (hf223 x (by omega)).trans rfl)⟩)
      have fr235 : ∀ q : Nat, b + 1457 ≤ q → τ221 q = σ q := fun q h1 => (hf223 q (by omega)).trans rfl
      refine m_aload_n F rfl e_X9_text_24 ?_
      refine m_get F e_X9_text_25 fl_X9_28 g224 rfl ?_
      refine m_iload_n F rfl e_X9_text_28 ?_
      refine m_aload_n F rfl e_X9_text_29 ?_
      refine m_callV F e_X9_text_30 (k_Rbegin0 (x_l X) V _ _ (b + 128) (b + 1) (b + 65) (fun _ => 0) (fun _ => 0) g226 g227 g225) cb_X7_begin ml_X9_63 im_X7_begin se_X7_begin g226 rfl rfl (rest := []) rfl (Nat.le_of_ble_eq_true rfl) ⟨Nat.le_of_ble_eq_true rfl, Nat.le_of_ble_eq_true rfl⟩ ⟨Nat.le_of_ble_eq_true rfl, Nat.le_of_ble_eq_true rfl⟩ (k' := 0) (z' := 0) (N' := N) rfl rfl rfl (fun r τ hp => ?_)
      obtain ⟨rfl, rfl⟩ := hp
      refine m_aload_n F rfl e_X9_text_33 ?_
      refine m_get F e_X9_text_34 fl_X9_28 (ru_ne (by omega) g224) rfl ?_
      refine m_callV F e_X9_text_37 (k_read0 (x_l X) V _ _ (b + 128) (b + 1) (b + 65) (ru_ne (by omega) g226)) cb_X7_read ml_X9_67 im_X7_read se_X7_read (ru_ne (by omega) g226) rfl rfl (rest := []) rfl (Nat.le_of_ble_eq_true rfl) ⟨Nat.le_of_ble_eq_true rfl, Nat.le_of_ble_eq_true rfl⟩ ⟨Nat.le_of_ble_eq_true rfl, Nat.le_of_ble_eq_true rfl⟩ (k' := 0) (z' := 0) (N' := N) rfl rfl rfl (fun r τ hp => ?_)
      obtain ⟨rfl, rfl⟩ := hp
      refine m_aload_n F rfl e_X9_text_40 ?_
      refine m_iconst F (v := 0) (by decide) e_X9_text_41 ?_
      refine m_put F e_X9_text_42 fp_X9_52 (ru_ne (by omega) g224) rfl rfl (Nat.le_of_ble_eq_true rfl) (fs' := [.ref (b + 1), .int 0, .ref (b + 2), .ref (b + 65), .ref (b + 128), .ref (b + 130), .int 0, .ref (b + 193), .int 0, .int 0, .ref (b + 194), .ref (b + 195), .ref (b + 196)]) rfl (up_self (ru_ne (by omega) g224)).symm ?_
      refine m_aload_n F rfl e_X9_text_45 ?_
      refine m_get F e_X9_text_46 fl_X9_28 (ru_ne (by omega) g224) rfl ?_
      refine m_get F e_X9_text_49 fl_X9_70 (ru_ne (by omega) g226) rfl ?_
      refine m_if_eq F e_X9_text_52 (fun _ => ?_) (fun q => absurd (by decide) q)
      refine m_aload_n F rfl e_X9_text_57 ?_
      refine m_aload_n F rfl e_X9_text_58 ?_
      refine m_get F e_X9_text_59 fl_X9_42 (ru_ne (by omega) g224) rfl ?_
      refine m_callV F e_X9_text_62 (k_findRates0 (x_l X) V _ _ (b + 65) 0 (b + 194) (eb222.keep (fun x g1 g2 => (ru_ne (by omega) rfl)))) cb_X2_findRates ml_X9_73 im_X2_findRates se_X2_findRates (ru_ne (by omega) eb222.head) rfl rfl (rest := []) rfl (Nat.le_of_ble_eq_true rfl) ⟨Nat.le_of_ble_eq_true rfl, Nat.le_of_ble_eq_true rfl⟩ ⟨Nat.le_of_ble_eq_true rfl, Nat.le_of_ble_eq_true rfl⟩ (k' := 0) (z' := 0) (N' := N) rfl rfl rfl (fun r τ hp => ?_)
      obtain ⟨rfl, rfl⟩ := hp
      refine m_aload_n F rfl e_X9_text_65 ?_
      refine m_aload_n F rfl e_X9_text_66 ?_
      refine m_get F e_X9_text_67 fl_X9_16 (ru_ne (by omega) g224) rfl ?_
      refine m_put F e_X9_text_70 fp_X9_20 (ru_ne (by omega) g224) rfl rfl (Nat.le_of_ble_eq_true rfl) (fs' := [.ref (b + 1), .int 0, .ref (b + 2), .ref (b + 2), .ref (b + 128), .ref (b + 130), .int 0, .ref (b + 193), .int 0, .int 0, .ref (b + 194), .ref (b + 195), .ref (b + 196)]) rfl rfl ?_
      refine m_aload_n F rfl e_X9_text_73 ?_
      refine m_aload_n F rfl e_X9_text_74 ?_
      refine m_put F e_X9_text_75 fp_X9_16 ru_eq rfl rfl (Nat.le_of_ble_eq_true rfl) (fs' := [.ref (b + 1), .int 0, .ref (b + 65), .ref (b + 2), .ref (b + 128), .ref (b + 130), .int 0, .ref (b + 193), .int 0, .int 0, .ref (b + 194), .ref (b + 195), .ref (b + 196)]) rfl (bx_uu _ _ _ _) ?_
      refine m_aload_n F rfl e_X9_text_78 ?_
      refine m_iconst F (v := 0) (by decide) e_X9_text_79 ?_
      refine m_put F e_X9_text_80 fp_X9_77 ru_eq (by decide) rfl (Nat.le_of_ble_eq_true rfl) (fs' := [.ref (b + 1), .int 0, .ref (b + 65), .ref (b + 2), .ref (b + 128), .ref (b + 130), .int 0, .ref (b + 193), .int 0, .int 0, .ref (b + 194), .ref (b + 195), .ref (b + 196)]) rfl (up_self ru_eq).symm ?_
      refine m_aload_n F rfl e_X9_text_83 ?_
      refine m_callV F e_X9_text_84 (k_forget0 (x_l X) V _ _ b (b + 65) (b + 2) ru_eq) cb_X9_forgetPast ml_X9_81 im_X9_forgetPast se_X9_forgetPast ru_eq rfl rfl (rest := []) rfl (Nat.le_of_ble_eq_true rfl) ⟨Nat.le_of_ble_eq_true rfl, Nat.le_of_ble_eq_true rfl⟩ ⟨Nat.le_of_ble_eq_true rfl, Nat.le_of_ble_eq_true rfl⟩ (k' := 0) (z' := 0) (N' := N) rfl rfl rfl (fun r τ hp => ?_)
      obtain ⟨rfl, rfl⟩ := hp
      refine m_aload_n F rfl e_X9_text_87 ?_
      refine m_get F e_X9_text_88 fl_X9_28 ru_eq rfl ?_
      refine m_get F e_X9_text_91 fl_X9_84 (ru_ne (by omega) (ru_ne (by omega) g226)) rfl ?_
      exact m_iret F hQ e_X9_text_94 (⟨by rw [if_neg (by decide)], fun q h1 => (ru_ne (by omega) (ru_ne (by omega) (fr235 q h1)))⟩)
    · refine m_bipush F (v := (-2)) (by decide) e_X9_text_12 ?_
      exact m_iret F hQ e_X9_text_14 (⟨by rw [if_pos (Or.inr (Int32.not_le.mp q9))], fun q h1 => rfl⟩)
