theorem e_X10_feed_20 : DC cX10_feed 20 2 22 (.iload 6) := ⟨by decide +kernel, rfl⟩
theorem e_X10_feed_22 : DC cX10_feed 22 2 24 (.bipush 20) := ⟨by decide +kernel, rfl⟩
theorem e_X10_feed_24 : DJ cX10_feed 24 110 27 (.if_icmp .ge) := DJ.mk 86 (by decide +kernel) (by decide) rfl
theorem e_X10_feed_110 : DC cX10_feed 110 1 111 (.aload_n 0) := ⟨by decide +kernel, rfl⟩
theorem e_X10_feed_111 : DC cX10_feed 111 1 112 (.dup) := ⟨by decide +kernel, rfl⟩
theorem e_X10_feed_112 : DC cX10_feed 112 3 115 (.getfield 94) := ⟨by decide +kernel, rfl⟩
theorem e_X10_feed_115 : DC cX10_feed 115 2 117 (.bipush 20) := ⟨by decide +kernel, rfl⟩
theorem e_X10_feed_117 : DC cX10_feed 117 1 118 (.iadd) := ⟨by decide +kernel, rfl⟩
theorem e_X10_feed_118 : DC cX10_feed 118 3 121 (.putfield 94) := ⟨by decide +kernel, rfl⟩
theorem fp_X10_94 : FP RX10 94 8 2 false .int := ⟨RX10, TX10, 37, tyX10, rfl, by decide, uw_8, tb_in 1462 (by decide +kernel) (by decide +kernel), rfl, rfl, by decide +kernel, tyX10_ok, nmX10⟩
theorem e_X10_feed_121 : DC cX10_feed 121 1 122 (.aload_n 0) := ⟨by decide +kernel, rfl⟩
theorem e_X10_feed_122 : DC cX10_feed 122 3 125 (.getfield 94) := ⟨by decide +kernel, rfl⟩
theorem e_X10_feed_125 : DC cX10_feed 125 1 126 (.ireturn) := ⟨by decide +kernel, rfl⟩
theorem e_X10_feed_27 : DC cX10_feed 27 2 29 (.iload 6) := ⟨by decide +kernel, rfl⟩
theorem e_X10_feed_29 : DC cX10_feed 29 1 30 (.iconst 4) := ⟨by decide +kernel, rfl⟩
theorem e_X10_feed_30 : DJ cX10_feed 30 37 33 (.if_icmp .ge) := DJ.mk 7 (by decide +kernel) (by decide) rfl
theorem e_X10_feed_37 : DC cX10_feed 37 2 39 (.iload 6) := ⟨by decide +kernel, rfl⟩
theorem e_X10_feed_39 : DC cX10_feed 39 2 41 (.bipush 8) := ⟨by decide +kernel, rfl⟩
theorem e_X10_feed_41 : DJ cX10_feed 41 48 44 (.if_icmp .ge) := DJ.mk 7 (by decide +kernel) (by decide) rfl
theorem e_X10_feed_48 : DC cX10_feed 48 2 50 (.iload 6) := ⟨by decide +kernel, rfl⟩
theorem e_X10_feed_50 : DC cX10_feed 50 2 52 (.bipush 12) := ⟨by decide +kernel, rfl⟩
theorem e_X10_feed_52 : DJ cX10_feed 52 59 55 (.if_icmp .ge) := DJ.mk 7 (by decide +kernel) (by decide) rfl
theorem e_X10_feed_59 : DC cX10_feed 59 2 61 (.iload 6) := ⟨by decide +kernel, rfl⟩
theorem e_X10_feed_61 : DC cX10_feed 61 2 63 (.bipush 16) := ⟨by decide +kernel, rfl⟩
theorem e_X10_feed_63 : DJ cX10_feed 63 71 66 (.if_icmp .ge) := DJ.mk 8 (by decide +kernel) (by decide) rfl
theorem e_X10_feed_71 : DC cX10_feed 71 2 73 (.iload 5) := ⟨by decide +kernel, rfl⟩
theorem e_X10_feed_73 : DC cX10_feed 73 2 75 (.istore 7) := ⟨by decide +kernel, rfl⟩
theorem e_X10_feed_75 : DC cX10_feed 75 1 76 (.aload_n 0) := ⟨by decide +kernel, rfl⟩
theorem e_X10_feed_76 : DC cX10_feed 76 3 79 (.getfield 7) := ⟨by decide +kernel, rfl⟩
theorem fl_X10_7 : FL RX10 7 8 1 := ⟨RX10, TX10, 37, rfl, by decide, uw_8, tb_in 1461 (by decide +kernel) (by decide +kernel), rfl⟩
theorem e_X10_feed_79 : DC cX10_feed 79 1 80 (.aload_n 0) := ⟨by decide +kernel, rfl⟩
theorem e_X10_feed_80 : DC cX10_feed 80 3 83 (.getfield 94) := ⟨by decide +kernel, rfl⟩
theorem e_X10_feed_83 : DC cX10_feed 83 2 85 (.iload 6) := ⟨by decide +kernel, rfl⟩
theorem e_X10_feed_85 : DC cX10_feed 85 1 86 (.iadd) := ⟨by decide +kernel, rfl⟩
theorem e_X10_feed_86 : DC cX10_feed 86 2 88 (.iload 7) := ⟨by decide +kernel, rfl⟩
theorem e_X10_feed_88 : DC cX10_feed 88 2 90 (.bipush 24) := ⟨by decide +kernel, rfl⟩
theorem e_X10_feed_90 : DC cX10_feed 90 2 92 (.bipush 8) := ⟨by decide +kernel, rfl⟩
theorem e_X10_feed_92 : DC cX10_feed 92 2 94 (.iload 6) := ⟨by decide +kernel, rfl⟩
theorem e_X10_feed_94 : DC cX10_feed 94 1 95 (.iconst 4) := ⟨by decide +kernel, rfl⟩
theorem e_X10_feed_95 : DC cX10_feed 95 1 96 (.irem) := ⟨by decide +kernel, rfl⟩
theorem e_X10_feed_96 : DC cX10_feed 96 1 97 (.imul) := ⟨by decide +kernel, rfl⟩
theorem e_X10_feed_97 : DC cX10_feed 97 1 98 (.isub) := ⟨by decide +kernel, rfl⟩
theorem e_X10_feed_98 : DC cX10_feed 98 1 99 (.ishr) := ⟨by decide +kernel, rfl⟩
theorem e_X10_feed_99 : DC cX10_feed 99 3 102 (.sipush 255) := ⟨by decide +kernel, rfl⟩
theorem e_X10_feed_102 : DC cX10_feed 102 1 103 (.iand) := ⟨by decide +kernel, rfl⟩
theorem e_X10_feed_103 : DC cX10_feed 103 1 104 (.iastore) := ⟨by decide +kernel, rfl⟩
theorem e_X10_feed_104 : DC cX10_feed 104 3 107 (.iinc 6 1) := ⟨by decide +kernel, rfl⟩
theorem e_X10_feed_107 : DJ cX10_feed 107 20 110 .goto := DJ.mk (-87) (by decide +kernel) (by decide) rfl
theorem e_X10_feed_66 : DC cX10_feed 66 2 68 (.iload 4) := ⟨by decide +kernel, rfl⟩
theorem e_X10_feed_68 : DJ cX10_feed 68 73 71 .goto := DJ.mk 5 (by decide +kernel) (by decide) rfl
theorem e_X10_feed_55 : DC cX10_feed 55 1 56 (.iload_n 3) := ⟨by decide +kernel, rfl⟩
theorem e_X10_feed_56 : DJ cX10_feed 56 73 59 .goto := DJ.mk 17 (by decide +kernel) (by decide) rfl
theorem e_X10_feed_44 : DC cX10_feed 44 1 45 (.iload_n 2) := ⟨by decide +kernel, rfl⟩
theorem e_X10_feed_45 : DJ cX10_feed 45 73 48 .goto := DJ.mk 28 (by decide +kernel) (by decide) rfl
theorem e_X10_feed_33 : DC cX10_feed 33 1 34 (.iload_n 1) := ⟨by decide +kernel, rfl⟩
theorem e_X10_feed_34 : DJ cX10_feed 34 73 37 .goto := DJ.mk 39 (by decide +kernel) (by decide) rfl
theorem e_X10_feed_0 : DC cX10_feed 0 1 1 (.aload_n 0) := ⟨by decide +kernel, rfl⟩
theorem e_X10_feed_1 : DC cX10_feed 1 1 2 (.iconst 0) := ⟨by decide +kernel, rfl⟩
theorem e_X10_feed_2 : DC cX10_feed 2 3 5 (.putfield 91) := ⟨by decide +kernel, rfl⟩
theorem e_X10_feed_5 : DC cX10_feed 5 1 6 (.aload_n 0) := ⟨by decide +kernel, rfl⟩
theorem e_X10_feed_6 : DC cX10_feed 6 3 9 (.getfield 94) := ⟨by decide +kernel, rfl⟩
theorem e_X10_feed_9 : DC cX10_feed 9 3 12 (.sipush 680) := ⟨by decide +kernel, rfl⟩
theorem e_X10_feed_12 : DJ cX10_feed 12 17 15 (.if_icmp .le) := DJ.mk 5 (by decide +kernel) (by decide) rfl
theorem e_X10_feed_17 : DC cX10_feed 17 1 18 (.iconst 0) := ⟨by decide +kernel, rfl⟩
theorem e_X10_feed_18 : DC cX10_feed 18 2 20 (.istore 6) := ⟨by decide +kernel, rfl⟩
theorem e_X10_here_0 : DC cX10_here 0 1 1 (.aload_n 0) := ⟨by decide +kernel, rfl⟩
theorem e_X10_here_1 : DC cX10_here 1 3 4 (.getfield 97) := ⟨by decide +kernel, rfl⟩
theorem fl_X10_97 : FL RX10 97 8 19 := ⟨RX10, TX10, 37, rfl, by decide, uw_8, tb_in 1479 (by decide +kernel) (by decide +kernel), rfl⟩
theorem e_X10_here_4 : DC cX10_here 4 1 5 (.aload_n 0) := ⟨by decide +kernel, rfl⟩
theorem e_X10_here_5 : DC cX10_here 5 3 8 (.getfield 100) := ⟨by decide +kernel, rfl⟩
theorem fl_X10_100 : FL RX10 100 8 18 := ⟨RX10, TX10, 37, rfl, by decide, uw_8, tb_in 1478 (by decide +kernel) (by decide +kernel), rfl⟩
theorem e_X10_here_8 : DJ cX10_here 8 23 11 (.if_icmp .ge) := DJ.mk 15 (by decide +kernel) (by decide) rfl
theorem e_X10_here_23 : DC cX10_here 23 1 24 (.iconst (-1)) := ⟨by decide +kernel, rfl⟩
theorem e_X10_here_24 : DC cX10_here 24 1 25 (.ireturn) := ⟨by decide +kernel, rfl⟩
theorem e_X10_token_0 : DC cX10_token 0 1 1 (.aload_n 0) := ⟨by decide +kernel, rfl⟩
theorem e_X10_token_1 : DC cX10_token 1 3 4 (.invokevirtual 103) := ⟨by decide +kernel, rfl⟩
theorem cb_X10_here : CB yX10_here cX10_here 1 (some .int) 0 := ⟨tb_in 1596 (by decide +kernel) (by decide +kernel), tb_in 10 (by decide +kernel) (by decide +kernel), by decide +kernel⟩
theorem ml_X10_103 : Cond.methodLink RX10 103 yX10_here ∈ tb := tb_in 1593 (by decide +kernel) (by decide +kernel)
theorem im_X10_here : Cond.instanceMethod yX10_here ∈ tb := tb_in 1595 (by decide +kernel) (by decide +kernel)
theorem se_X10_here : Cond.selects (yX10_here).cls yX10_here yX10_here ∈ tb := tb_sel 19 (by decide +kernel) (by decide +kernel)
theorem e_X10_token_4 : DC cX10_token 4 2 6 (.bipush 10) := ⟨by decide +kernel, rfl⟩
theorem e_X10_token_6 : DJ cX10_token 6 18 9 (.if_icmp .eq) := DJ.mk 12 (by decide +kernel) (by decide) rfl
theorem e_X10_token_9 : DC cX10_token 9 1 10 (.aload_n 0) := ⟨by decide +kernel, rfl⟩
theorem e_X10_token_10 : DC cX10_token 10 3 13 (.invokevirtual 103) := ⟨by decide +kernel, rfl⟩
theorem e_X10_token_13 : DC cX10_token 13 2 15 (.bipush 32) := ⟨by decide +kernel, rfl⟩
theorem e_X10_token_15 : DJ cX10_token 15 31 18 (.if_icmp .ne) := DJ.mk 16 (by decide +kernel) (by decide) rfl
theorem e_X10_token_31 : DC cX10_token 31 1 32 (.aload_n 0) := ⟨by decide +kernel, rfl⟩
theorem e_X10_token_32 : DC cX10_token 32 1 33 (.aload_n 0) := ⟨by decide +kernel, rfl⟩
theorem e_X10_token_33 : DC cX10_token 33 3 36 (.getfield 97) := ⟨by decide +kernel, rfl⟩
theorem e_X10_token_36 : DC cX10_token 36 3 39 (.putfield 107) := ⟨by decide +kernel, rfl⟩
theorem fp_X10_107 : FP RX10 107 8 20 false .int := ⟨RX10, TX10, 37, tyX10, rfl, by decide, uw_8, tb_in 1480 (by decide +kernel) (by decide +kernel), rfl, rfl, by decide +kernel, tyX10_ok, nmX10⟩
theorem e_X10_token_39 : DC cX10_token 39 1 40 (.aload_n 0) := ⟨by decide +kernel, rfl⟩
theorem e_X10_token_40 : DC cX10_token 40 3 43 (.invokevirtual 103) := ⟨by decide +kernel, rfl⟩
theorem e_X10_token_43 : DC cX10_token 43 1 44 (.istore_n 1) := ⟨by decide +kernel, rfl⟩
theorem e_X10_token_44 : DC cX10_token 44 1 45 (.iload_n 1) := ⟨by decide +kernel, rfl⟩
theorem e_X10_token_45 : DC cX10_token 45 1 46 (.iconst (-1)) := ⟨by decide +kernel, rfl⟩
theorem e_X10_token_46 : DJ cX10_token 46 57 49 (.if_icmp .ne) := DJ.mk 11 (by decide +kernel) (by decide) rfl
theorem e_X10_token_49 : DC cX10_token 49 1 50 (.aload_n 0) := ⟨by decide +kernel, rfl⟩
theorem e_X10_token_50 : DC cX10_token 50 1 51 (.iconst 4) := ⟨by decide +kernel, rfl⟩
theorem e_X10_token_51 : DC cX10_token 51 3 54 (.putfield 110) := ⟨by decide +kernel, rfl⟩
theorem fp_X10_110 : FP RX10 110 8 21 false .int := ⟨RX10, TX10, 37, tyX10, rfl, by decide, uw_8, tb_in 1481 (by decide +kernel) (by decide +kernel), rfl, rfl, by decide +kernel, tyX10_ok, nmX10⟩
theorem e_X10_token_54 : DJ cX10_token 54 245 57 .goto := DJ.mk 191 (by decide +kernel) (by decide) rfl
theorem e_X10_token_245 : DC cX10_token 245 1 246 (.return_) := ⟨by decide +kernel, rfl⟩
theorem e_X10_readText_0 : DC cX10_readText 0 1 1 (.aload_n 0) := ⟨by decide +kernel, rfl⟩
theorem e_X10_readText_1 : DC cX10_readText 1 1 2 (.iload_n 1) := ⟨by decide +kernel, rfl⟩
theorem e_X10_readText_2 : DC cX10_readText 2 3 5 (.putfield 100) := ⟨by decide +kernel, rfl⟩
theorem fp_X10_100 : FP RX10 100 8 18 false .int := ⟨RX10, TX10, 37, tyX10, rfl, by decide, uw_8, tb_in 1478 (by decide +kernel) (by decide +kernel), rfl, rfl, by decide +kernel, tyX10_ok, nmX10⟩
theorem e_X10_readText_5 : DC cX10_readText 5 1 6 (.aload_n 0) := ⟨by decide +kernel, rfl⟩
theorem e_X10_readText_6 : DC cX10_readText 6 1 7 (.iconst 0) := ⟨by decide +kernel, rfl⟩
theorem e_X10_readText_7 : DC cX10_readText 7 3 10 (.putfield 97) := ⟨by decide +kernel, rfl⟩
theorem fp_X10_97 : FP RX10 97 8 19 false .int := ⟨RX10, TX10, 37, tyX10, rfl, by decide, uw_8, tb_in 1479 (by decide +kernel) (by decide +kernel), rfl, rfl, by decide +kernel, tyX10_ok, nmX10⟩
theorem e_X10_readText_10 : DC cX10_readText 10 1 11 (.aload_n 0) := ⟨by decide +kernel, rfl⟩
theorem e_X10_readText_11 : DC cX10_readText 11 1 12 (.iconst 0) := ⟨by decide +kernel, rfl⟩
theorem e_X10_readText_12 : DC cX10_readText 12 3 15 (.putfield 141) := ⟨by decide +kernel, rfl⟩
theorem fp_X10_141 : FP RX10 141 8 23 false .int := ⟨RX10, TX10, 37, tyX10, rfl, by decide, uw_8, tb_in 1483 (by decide +kernel) (by decide +kernel), rfl, rfl, by decide +kernel, tyX10_ok, nmX10⟩
theorem e_X10_readText_15 : DC cX10_readText 15 1 16 (.aload_n 0) := ⟨by decide +kernel, rfl⟩
theorem e_X10_readText_16 : DC cX10_readText 16 1 17 (.iconst 0) := ⟨by decide +kernel, rfl⟩
theorem e_X10_readText_17 : DC cX10_readText 17 3 20 (.putfield 202) := ⟨by decide +kernel, rfl⟩
theorem fp_X10_202 : FP RX10 202 8 17 false .int := ⟨RX10, TX10, 37, tyX10, rfl, by decide, uw_8, tb_in 1477 (by decide +kernel) (by decide +kernel), rfl, rfl, by decide +kernel, tyX10_ok, nmX10⟩
theorem e_X10_readText_20 : DC cX10_readText 20 1 21 (.aload_n 0) := ⟨by decide +kernel, rfl⟩
theorem e_X10_readText_21 : DC cX10_readText 21 3 24 (.invokevirtual 82) := ⟨by decide +kernel, rfl⟩
theorem e_X10_readText_24 : DC cX10_readText 24 1 25 (.aload_n 0) := ⟨by decide +kernel, rfl⟩
theorem e_X10_readText_25 : DC cX10_readText 25 3 28 (.invokevirtual 147) := ⟨by decide +kernel, rfl⟩
theorem cb_X10_token : CB yX10_token cX10_token 2 none 0 := ⟨tb_in 1592 (by decide +kernel) (by decide +kernel), tb_in 10 (by decide +kernel) (by decide +kernel), by decide +kernel⟩
theorem ml_X10_147 : Cond.methodLink RX10 147 yX10_token ∈ tb := tb_in 1589 (by decide +kernel) (by decide +kernel)
theorem im_X10_token : Cond.instanceMethod yX10_token ∈ tb := tb_in 1591 (by decide +kernel) (by decide +kernel)
theorem se_X10_token : Cond.selects (yX10_token).cls yX10_token yX10_token ∈ tb := tb_sel 18 (by decide +kernel) (by decide +kernel)
theorem e_X10_readText_28 : DC cX10_readText 28 1 29 (.aload_n 0) := ⟨by decide +kernel, rfl⟩
theorem e_X10_readText_29 : DC cX10_readText 29 3 32 (.getfield 141) := ⟨by decide +kernel, rfl⟩
theorem fl_X10_141 : FL RX10 141 8 23 := ⟨RX10, TX10, 37, rfl, by decide, uw_8, tb_in 1483 (by decide +kernel) (by decide +kernel), rfl⟩
theorem e_X10_readText_32 : DJ cX10_readText 32 50 35 (.ifCond .ne) := DJ.mk 18 (by decide +kernel) (by decide) rfl
theorem e_X10_readText_35 : DC cX10_readText 35 1 36 (.aload_n 0) := ⟨by decide +kernel, rfl⟩
theorem e_X10_readText_36 : DC cX10_readText 36 3 39 (.getfield 110) := ⟨by decide +kernel, rfl⟩
theorem fl_X10_110 : FL RX10 110 8 21 := ⟨RX10, TX10, 37, rfl, by decide, uw_8, tb_in 1481 (by decide +kernel) (by decide +kernel), rfl⟩
theorem e_X10_readText_39 : DC cX10_readText 39 1 40 (.iconst 4) := ⟨by decide +kernel, rfl⟩
theorem e_X10_readText_40 : DJ cX10_readText 40 50 43 (.if_icmp .eq) := DJ.mk 10 (by decide +kernel) (by decide) rfl
theorem e_X10_readText_50 : DC cX10_readText 50 1 51 (.return_) := ⟨by decide +kernel, rfl⟩
theorem e_X10_text_0 : DC cX10_text 0 1 1 (.aload_n 0) := ⟨by decide +kernel, rfl⟩
theorem e_X10_text_1 : DC cX10_text 1 1 2 (.iconst 0) := ⟨by decide +kernel, rfl⟩
theorem e_X10_text_2 : DC cX10_text 2 3 5 (.putfield 91) := ⟨by decide +kernel, rfl⟩
theorem e_X10_text_5 : DC cX10_text 5 1 6 (.iload_n 1) := ⟨by decide +kernel, rfl⟩
theorem e_X10_text_6 : DJ cX10_text 6 17 9 (.ifCond .lt) := DJ.mk 11 (by decide +kernel) (by decide) rfl
theorem e_X10_text_17 : DC cX10_text 17 2 19 (.bipush (-2)) := ⟨by decide +kernel, rfl⟩
theorem e_X10_text_19 : DC cX10_text 19 1 20 (.ireturn) := ⟨by decide +kernel, rfl⟩
theorem e_X10_text_9 : DC cX10_text 9 1 10 (.iload_n 1) := ⟨by decide +kernel, rfl⟩
theorem e_X10_text_10 : DC cX10_text 10 1 11 (.aload_n 0) := ⟨by decide +kernel, rfl⟩
theorem e_X10_text_11 : DC cX10_text 11 3 14 (.getfield 94) := ⟨by decide +kernel, rfl⟩
theorem e_X10_text_14 : DJ cX10_text 14 20 17 (.if_icmp .le) := DJ.mk 6 (by decide +kernel) (by decide) rfl
theorem e_X10_text_20 : DC cX10_text 20 1 21 (.aload_n 0) := ⟨by decide +kernel, rfl⟩
theorem e_X10_text_21 : DC cX10_text 21 1 22 (.iload_n 1) := ⟨by decide +kernel, rfl⟩
theorem e_X10_text_22 : DC cX10_text 22 3 25 (.invokevirtual 208) := ⟨by decide +kernel, rfl⟩
theorem cb_X10_readText : CB yX10_readText cX10_readText 2 none 1 := ⟨tb_in 1588 (by decide +kernel) (by decide +kernel), tb_in 10 (by decide +kernel) (by decide +kernel), by decide +kernel⟩
theorem ml_X10_208 : Cond.methodLink RX10 208 yX10_readText ∈ tb := tb_in 1585 (by decide +kernel) (by decide +kernel)
theorem im_X10_readText : Cond.instanceMethod yX10_readText ∈ tb := tb_in 1587 (by decide +kernel) (by decide +kernel)
theorem se_X10_readText : Cond.selects (yX10_readText).cls yX10_readText yX10_readText ∈ tb := tb_sel 17 (by decide +kernel) (by decide +kernel)
theorem e_X10_text_25 : DC cX10_text 25 1 26 (.aload_n 0) := ⟨by decide +kernel, rfl⟩
theorem e_X10_text_26 : DC cX10_text 26 1 27 (.iconst 0) := ⟨by decide +kernel, rfl⟩
theorem e_X10_text_27 : DC cX10_text 27 3 30 (.putfield 94) := ⟨by decide +kernel, rfl⟩
theorem e_X10_text_30 : DC cX10_text 30 1 31 (.aload_n 0) := ⟨by decide +kernel, rfl⟩
theorem e_X10_text_31 : DC cX10_text 31 1 32 (.aload_n 0) := ⟨by decide +kernel, rfl⟩
theorem e_X10_text_32 : DC cX10_text 32 3 35 (.getfield 141) := ⟨by decide +kernel, rfl⟩
theorem e_X10_text_35 : DC cX10_text 35 3 38 (.putfield 211) := ⟨by decide +kernel, rfl⟩
theorem fp_X10_211 : FP RX10 211 8 25 false .int := ⟨RX10, TX10, 37, tyX10, rfl, by decide, uw_8, tb_in 1485 (by decide +kernel) (by decide +kernel), rfl, rfl, by decide +kernel, tyX10_ok, nmX10⟩
theorem e_X10_text_38 : DC cX10_text 38 1 39 (.aload_n 0) := ⟨by decide +kernel, rfl⟩
theorem e_X10_text_39 : DC cX10_text 39 1 40 (.aload_n 0) := ⟨by decide +kernel, rfl⟩
theorem e_X10_text_40 : DC cX10_text 40 3 43 (.getfield 141) := ⟨by decide +kernel, rfl⟩
theorem e_X10_text_43 : DJ cX10_text 43 50 46 (.ifCond .ne) := DJ.mk 7 (by decide +kernel) (by decide) rfl
theorem e_X10_text_46 : DC cX10_text 46 1 47 (.iconst (-1)) := ⟨by decide +kernel, rfl⟩
theorem e_X10_text_47 : DJ cX10_text 47 54 50 .goto := DJ.mk 7 (by decide +kernel) (by decide) rfl
theorem e_X10_text_54 : DC cX10_text 54 3 57 (.putfield 55) := ⟨by decide +kernel, rfl⟩
theorem e_X10_text_57 : DC cX10_text 57 1 58 (.aload_n 0) := ⟨by decide +kernel, rfl⟩
theorem e_X10_text_58 : DC cX10_text 58 3 61 (.getfield 141) := ⟨by decide +kernel, rfl⟩
theorem e_X10_text_61 : DJ cX10_text 61 66 64 (.ifCond .eq) := DJ.mk 5 (by decide +kernel) (by decide) rfl
theorem e_X10_text_66 : DC cX10_text 66 1 67 (.aload_n 0) := ⟨by decide +kernel, rfl⟩
theorem e_X10_text_67 : DC cX10_text 67 3 70 (.invokevirtual 85) := ⟨by decide +kernel, rfl⟩
theorem e_X10_text_70 : DC cX10_text 70 1 71 (.aload_n 0) := ⟨by decide +kernel, rfl⟩
theorem e_X10_text_71 : DC cX10_text 71 3 74 (.invokevirtual 88) := ⟨by decide +kernel, rfl⟩
theorem e_X10_text_74 : DC cX10_text 74 1 75 (.aload_n 0) := ⟨by decide +kernel, rfl⟩
theorem e_X10_text_75 : DC cX10_text 75 1 76 (.iconst 0) := ⟨by decide +kernel, rfl⟩
theorem e_X10_text_76 : DC cX10_text 76 3 79 (.putfield 214) := ⟨by decide +kernel, rfl⟩
theorem e_X10_text_79 : DC cX10_text 79 1 80 (.aload_n 0) := ⟨by decide +kernel, rfl⟩
theorem e_X10_text_80 : DC cX10_text 80 1 81 (.iconst 0) := ⟨by decide +kernel, rfl⟩
theorem e_X10_text_81 : DC cX10_text 81 3 84 (.putfield 217) := ⟨by decide +kernel, rfl⟩
theorem e_X10_text_84 : DC cX10_text 84 1 85 (.aload_n 0) := ⟨by decide +kernel, rfl⟩
theorem e_X10_text_85 : DC cX10_text 85 3 88 (.getfield 202) := ⟨by decide +kernel, rfl⟩
theorem fl_X10_202 : FL RX10 202 8 17 := ⟨RX10, TX10, 37, rfl, by decide, uw_8, tb_in 1477 (by decide +kernel) (by decide +kernel), rfl⟩
theorem e_X10_text_88 : DC cX10_text 88 1 89 (.ireturn) := ⟨by decide +kernel, rfl⟩
theorem e_X10_go_41 : DC cX10_go 41 1 42 (.iload_n 2) := ⟨by decide +kernel, rfl⟩
theorem e_X10_go_42 : DC cX10_go 42 1 43 (.iload_n 1) := ⟨by decide +kernel, rfl⟩
theorem e_X10_go_43 : DJ cX10_go 43 60 46 (.if_icmp .ge) := DJ.mk 17 (by decide +kernel) (by decide) rfl
theorem e_X10_go_60 : DC cX10_go 60 1 61 (.aload_n 0) := ⟨by decide +kernel, rfl⟩
theorem e_X10_go_61 : DC cX10_go 61 3 64 (.getfield 59) := ⟨by decide +kernel, rfl⟩
theorem e_X10_go_64 : DC cX10_go 64 3 67 (.sipush 744) := ⟨by decide +kernel, rfl⟩
theorem e_X10_go_67 : DC cX10_go 67 1 68 (.laload) := ⟨by decide +kernel, rfl⟩
theorem e_X10_go_68 : DC cX10_go 68 1 69 (.l2i) := ⟨by decide +kernel, rfl⟩
theorem e_X10_go_69 : DC cX10_go 69 1 70 (.ireturn) := ⟨by decide +kernel, rfl⟩
theorem e_X10_go_46 : DC cX10_go 46 1 47 (.aload_n 0) := ⟨by decide +kernel, rfl⟩
theorem e_X10_go_47 : DC cX10_go 47 3 50 (.invokevirtual 286) := ⟨by decide +kernel, rfl⟩
theorem cb_X10_remembers : CB yX10_remembers cX10_remembers 2 none 0 := ⟨tb_in 1711 (by decide +kernel) (by decide +kernel), tb_in 10 (by decide +kernel) (by decide +kernel), by decide +kernel⟩
theorem ml_X10_286 : Cond.methodLink RX10 286 yX10_remembers ∈ tb := tb_in 1708 (by decide +kernel) (by decide +kernel)
theorem im_X10_remembers : Cond.instanceMethod yX10_remembers ∈ tb := tb_in 1710 (by decide +kernel) (by decide +kernel)
theorem se_X10_remembers : Cond.selects (yX10_remembers).cls yX10_remembers yX10_remembers ∈ tb := tb_sel 36 (by decide +kernel) (by decide +kernel)
theorem e_X10_go_50 : DC cX10_go 50 1 51 (.aload_n 0) := ⟨by decide +kernel, rfl⟩
theorem e_X10_go_51 : DC cX10_go 51 3 54 (.invokevirtual 289) := ⟨by decide +kernel, rfl⟩
theorem e_X10_go_54 : DC cX10_go 54 3 57 (.iinc 2 1) := ⟨by decide +kernel, rfl⟩
theorem e_X10_go_57 : DJ cX10_go 57 41 60 .goto := DJ.mk (-16) (by decide +kernel) (by decide) rfl
theorem e_X10_go_0 : DC cX10_go 0 1 1 (.aload_n 0) := ⟨by decide +kernel, rfl⟩
theorem e_X10_go_1 : DC cX10_go 1 1 2 (.iconst 0) := ⟨by decide +kernel, rfl⟩
theorem e_X10_go_2 : DC cX10_go 2 3 5 (.putfield 91) := ⟨by decide +kernel, rfl⟩
theorem e_X10_go_5 : DC cX10_go 5 1 6 (.iload_n 1) := ⟨by decide +kernel, rfl⟩
theorem e_X10_go_6 : DC cX10_go 6 1 7 (.iconst 1) := ⟨by decide +kernel, rfl⟩
theorem e_X10_go_7 : DJ cX10_go 7 16 10 (.if_icmp .lt) := DJ.mk 9 (by decide +kernel) (by decide) rfl
theorem e_X10_go_16 : DC cX10_go 16 1 17 (.iconst (-1)) := ⟨by decide +kernel, rfl⟩
theorem e_X10_go_17 : DC cX10_go 17 1 18 (.ireturn) := ⟨by decide +kernel, rfl⟩
theorem e_X10_go_10 : DC cX10_go 10 1 11 (.iload_n 1) := ⟨by decide +kernel, rfl⟩
theorem e_X10_go_11 : DC cX10_go 11 2 13 (.bipush 12) := ⟨by decide +kernel, rfl⟩
theorem e_X10_go_13 : DJ cX10_go 13 18 16 (.if_icmp .le) := DJ.mk 5 (by decide +kernel) (by decide) rfl
theorem e_X10_go_18 : DC cX10_go 18 1 19 (.aload_n 0) := ⟨by decide +kernel, rfl⟩
theorem e_X10_go_19 : DC cX10_go 19 3 22 (.getfield 59) := ⟨by decide +kernel, rfl⟩
theorem e_X10_go_22 : DC cX10_go 22 3 25 (.sipush 744) := ⟨by decide +kernel, rfl⟩
theorem e_X10_go_25 : DC cX10_go 25 1 26 (.laload) := ⟨by decide +kernel, rfl⟩
theorem e_X10_go_26 : DC cX10_go 26 1 27 (.iload_n 1) := ⟨by decide +kernel, rfl⟩
theorem e_X10_go_27 : DC cX10_go 27 1 28 (.i2l) := ⟨by decide +kernel, rfl⟩
theorem e_X10_go_28 : DC cX10_go 28 1 29 (.ladd) := ⟨by decide +kernel, rfl⟩
theorem e_X10_go_29 : DC cX10_go 29 3 32 (.ldc2_w 284) := ⟨by decide +kernel, rfl⟩
theorem e_X10_go_32 : DC cX10_go 32 1 33 (.lcmp) := ⟨by decide +kernel, rfl⟩
theorem e_X10_go_33 : DJ cX10_go 33 39 36 (.ifCond .le) := DJ.mk 6 (by decide +kernel) (by decide) rfl
theorem e_X10_go_39 : DC cX10_go 39 1 40 (.iconst 0) := ⟨by decide +kernel, rfl⟩
theorem e_X10_go_40 : DC cX10_go 40 1 41 (.istore_n 2) := ⟨by decide +kernel, rfl⟩
theorem e_X10_become_0 : DC cX10_become 0 1 1 (.aload_n 0) := ⟨by decide +kernel, rfl⟩
theorem e_X10_become_1 : DC cX10_become 1 1 2 (.iconst 0) := ⟨by decide +kernel, rfl⟩
theorem e_X10_become_2 : DC cX10_become 2 3 5 (.putfield 91) := ⟨by decide +kernel, rfl⟩
theorem e_X10_become_5 : DC cX10_become 5 1 6 (.iload_n 1) := ⟨by decide +kernel, rfl⟩
theorem e_X10_become_6 : DC cX10_become 6 3 9 (.sipush 500) := ⟨by decide +kernel, rfl⟩
theorem e_X10_become_9 : DJ cX10_become 9 19 12 (.if_icmp .lt) := DJ.mk 10 (by decide +kernel) (by decide) rfl
theorem e_X10_become_19 : DC cX10_become 19 1 20 (.iconst (-1)) := ⟨by decide +kernel, rfl⟩
theorem e_X10_become_20 : DC cX10_become 20 1 21 (.ireturn) := ⟨by decide +kernel, rfl⟩
theorem e_X10_become_12 : DC cX10_become 12 1 13 (.iload_n 1) := ⟨by decide +kernel, rfl⟩
theorem e_X10_become_13 : DC cX10_become 13 3 16 (.sipush 2000) := ⟨by decide +kernel, rfl⟩
theorem e_X10_become_16 : DJ cX10_become 16 21 19 (.if_icmp .le) := DJ.mk 5 (by decide +kernel) (by decide) rfl
theorem e_X10_become_21 : DC cX10_become 21 1 22 (.aload_n 0) := ⟨by decide +kernel, rfl⟩
theorem e_X10_become_22 : DC cX10_become 22 3 25 (.invokevirtual 260) := ⟨by decide +kernel, rfl⟩
theorem cb_X10_indexNow : CB yX10_indexNow cX10_indexNow 1 (some .long) 0 := ⟨tb_in 1726 (by decide +kernel) (by decide +kernel), tb_in 10 (by decide +kernel) (by decide +kernel), by decide +kernel⟩
theorem ml_X10_260 : Cond.methodLink RX10 260 yX10_indexNow ∈ tb := tb_in 1723 (by decide +kernel) (by decide +kernel)
theorem im_X10_indexNow : Cond.instanceMethod yX10_indexNow ∈ tb := tb_in 1725 (by decide +kernel) (by decide +kernel)
theorem se_X10_indexNow : Cond.selects (yX10_indexNow).cls yX10_indexNow yX10_indexNow ∈ tb := tb_sel 39 (by decide +kernel) (by decide +kernel)
theorem e_X10_become_25 : DC cX10_become 25 1 26 (.l2i) := ⟨by decide +kernel, rfl⟩
theorem e_X10_become_26 : DC cX10_become 26 1 27 (.istore_n 2) := ⟨by decide +kernel, rfl⟩
theorem e_X10_become_27 : DC cX10_become 27 1 28 (.aload_n 0) := ⟨by decide +kernel, rfl⟩
theorem e_X10_become_28 : DC cX10_become 28 3 31 (.invokevirtual 286) := ⟨by decide +kernel, rfl⟩
theorem e_X10_become_31 : DC cX10_become 31 1 32 (.aload_n 0) := ⟨by decide +kernel, rfl⟩
theorem e_X10_become_32 : DC cX10_become 32 1 33 (.iload_n 1) := ⟨by decide +kernel, rfl⟩
theorem e_X10_become_33 : DC cX10_become 33 1 34 (.i2l) := ⟨by decide +kernel, rfl⟩
theorem e_X10_become_34 : DC cX10_become 34 3 37 (.invokevirtual 322) := ⟨by decide +kernel, rfl⟩
theorem cb_X10_becomes : CB yX10_becomes cX10_becomes 6 none 1 := ⟨tb_in 1861 (by decide +kernel) (by decide +kernel), tb_in 10 (by decide +kernel) (by decide +kernel), by decide +kernel⟩
theorem ml_X10_322 : Cond.methodLink RX10 322 yX10_becomes ∈ tb := tb_in 1858 (by decide +kernel) (by decide +kernel)
theorem im_X10_becomes : Cond.instanceMethod yX10_becomes ∈ tb := tb_in 1860 (by decide +kernel) (by decide +kernel)
theorem se_X10_becomes : Cond.selects (yX10_becomes).cls yX10_becomes yX10_becomes ∈ tb := tb_sel 55 (by decide +kernel) (by decide +kernel)
theorem e_X10_become_37 : DC cX10_become 37 1 38 (.iload_n 2) := ⟨by decide +kernel, rfl⟩
theorem e_X10_become_38 : DC cX10_become 38 1 39 (.ireturn) := ⟨by decide +kernel, rfl⟩
theorem e_X10_all_0 : DC cX10_all 0 1 1 (.aload_n 0) := ⟨by decide +kernel, rfl⟩
theorem e_X10_all_1 : DC cX10_all 1 1 2 (.iconst 0) := ⟨by decide +kernel, rfl⟩
theorem e_X10_all_2 : DC cX10_all 2 3 5 (.putfield 91) := ⟨by decide +kernel, rfl⟩
theorem e_X10_all_5 : DC cX10_all 5 1 6 (.iload_n 1) := ⟨by decide +kernel, rfl⟩
theorem e_X10_all_6 : DC cX10_all 6 3 9 (.invokestatic 326) := ⟨by decide +kernel, rfl⟩
theorem cb_X10_areAhead : CB yX10_areAhead cX10_areAhead 1 (some .boolean) 1 := ⟨tb_in 1868 (by decide +kernel) (by decide +kernel), tb_in 10 (by decide +kernel) (by decide +kernel), by decide +kernel⟩
theorem ml_X10_326 : Cond.methodLink RX10 326 yX10_areAhead ∈ tb := tb_in 1866 (by decide +kernel) (by decide +kernel)
theorem sm_X10_areAhead : Cond.static yX10_areAhead ∈ tb := tb_in 1867 (by decide +kernel) (by decide +kernel)
theorem e_X10_all_9 : DJ cX10_all 9 16 12 (.ifCond .ne) := DJ.mk 7 (by decide +kernel) (by decide) rfl
theorem e_X10_all_12 : DC cX10_all 12 3 15 (.ldc2_w 245) := ⟨by decide +kernel, rfl⟩
theorem e_X10_all_15 : DC cX10_all 15 1 16 (.lreturn) := ⟨by decide +kernel, rfl⟩
theorem e_X10_all_16 : DC cX10_all 16 1 17 (.aload_n 0) := ⟨by decide +kernel, rfl⟩
theorem e_X10_all_17 : DC cX10_all 17 1 18 (.iload_n 1) := ⟨by decide +kernel, rfl⟩
theorem e_X10_all_18 : DC cX10_all 18 3 21 (.invokevirtual 329) := ⟨by decide +kernel, rfl⟩
theorem cb_X10_ahead : CB yX10_ahead cX10_ahead 3 none 1 := ⟨tb_in 1872 (by decide +kernel) (by decide +kernel), tb_in 10 (by decide +kernel) (by decide +kernel), by decide +kernel⟩
theorem ml_X10_329 : Cond.methodLink RX10 329 yX10_ahead ∈ tb := tb_in 1869 (by decide +kernel) (by decide +kernel)
theorem im_X10_ahead : Cond.instanceMethod yX10_ahead ∈ tb := tb_in 1871 (by decide +kernel) (by decide +kernel)
theorem se_X10_ahead : Cond.selects (yX10_ahead).cls yX10_ahead yX10_ahead ∈ tb := tb_sel 56 (by decide +kernel) (by decide +kernel)
theorem e_X10_all_21 : DC cX10_all 21 1 22 (.aload_n 0) := ⟨by decide +kernel, rfl⟩
theorem e_X10_all_22 : DC cX10_all 22 3 25 (.invokevirtual 335) := ⟨by decide +kernel, rfl⟩
theorem cb_X10_owedAll : CB yX10_owedAll cX10_owedAll 4 (some .long) 0 := ⟨tb_in 1884 (by decide +kernel) (by decide +kernel), tb_in 10 (by decide +kernel) (by decide +kernel), by decide +kernel⟩
theorem ml_X10_335 : Cond.methodLink RX10 335 yX10_owedAll ∈ tb := tb_in 1881 (by decide +kernel) (by decide +kernel)
theorem im_X10_owedAll : Cond.instanceMethod yX10_owedAll ∈ tb := tb_in 1883 (by decide +kernel) (by decide +kernel)
theorem se_X10_owedAll : Cond.selects (yX10_owedAll).cls yX10_owedAll yX10_owedAll ∈ tb := tb_sel 58 (by decide +kernel) (by decide +kernel)
theorem e_X10_all_25 : DC cX10_all 25 1 26 (.lstore_n 2) := ⟨by decide +kernel, rfl⟩
theorem e_X10_all_26 : DC cX10_all 26 1 27 (.aload_n 0) := ⟨by decide +kernel, rfl⟩
theorem e_X10_all_27 : DC cX10_all 27 3 30 (.invokevirtual 332) := ⟨by decide +kernel, rfl⟩
theorem cb_X10_back1 : CB yX10_back1 cX10_back1 1 none 0 := ⟨tb_in 1876 (by decide +kernel) (by decide +kernel), tb_in 10 (by decide +kernel) (by decide +kernel), by decide +kernel⟩
theorem ml_X10_332 : Cond.methodLink RX10 332 yX10_back1 ∈ tb := tb_in 1873 (by decide +kernel) (by decide +kernel)
theorem im_X10_back1 : Cond.instanceMethod yX10_back1 ∈ tb := tb_in 1875 (by decide +kernel) (by decide +kernel)
theorem se_X10_back1 : Cond.selects (yX10_back1).cls yX10_back1 yX10_back1 ∈ tb := tb_sel 57 (by decide +kernel) (by decide +kernel)
theorem e_X10_all_30 : DC cX10_all 30 1 31 (.lload_n 2) := ⟨by decide +kernel, rfl⟩
theorem e_X10_all_31 : DC cX10_all 31 1 32 (.lreturn) := ⟨by decide +kernel, rfl⟩
theorem e_X10_peak_40 : DC cX10_peak 40 2 42 (.iload 5) := ⟨by decide +kernel, rfl⟩
theorem e_X10_peak_42 : DC cX10_peak 42 2 44 (.bipush 72) := ⟨by decide +kernel, rfl⟩
theorem e_X10_peak_44 : DJ cX10_peak 44 105 47 (.if_icmp .ge) := DJ.mk 61 (by decide +kernel) (by decide) rfl
theorem e_X10_peak_105 : DC cX10_peak 105 1 106 (.aload_n 0) := ⟨by decide +kernel, rfl⟩
theorem e_X10_peak_106 : DC cX10_peak 106 3 109 (.invokevirtual 332) := ⟨by decide +kernel, rfl⟩
theorem e_X10_peak_109 : DC cX10_peak 109 2 111 (.iload 4) := ⟨by decide +kernel, rfl⟩
theorem e_X10_peak_111 : DC cX10_peak 111 2 113 (.bipush (-2)) := ⟨by decide +kernel, rfl⟩
theorem e_X10_peak_113 : DJ cX10_peak 113 120 116 (.if_icmp .eq) := DJ.mk 7 (by decide +kernel) (by decide) rfl
theorem e_X10_peak_120 : DC cX10_peak 120 2 122 (.iload 4) := ⟨by decide +kernel, rfl⟩
theorem e_X10_peak_122 : DC cX10_peak 122 1 123 (.i2l) := ⟨by decide +kernel, rfl⟩
theorem e_X10_peak_123 : DJ cX10_peak 123 127 126 .goto := DJ.mk 4 (by decide +kernel) (by decide) rfl
theorem e_X10_peak_127 : DC cX10_peak 127 1 128 (.lreturn) := ⟨by decide +kernel, rfl⟩
theorem e_X10_peak_47 : DC cX10_peak 47 1 48 (.aload_n 0) := ⟨by decide +kernel, rfl⟩
theorem e_X10_peak_48 : DC cX10_peak 48 3 51 (.getfield 59) := ⟨by decide +kernel, rfl⟩
theorem e_X10_peak_51 : DC cX10_peak 51 3 54 (.sipush 744) := ⟨by decide +kernel, rfl⟩
theorem e_X10_peak_54 : DC cX10_peak 54 1 55 (.laload) := ⟨by decide +kernel, rfl⟩
theorem e_X10_peak_55 : DC cX10_peak 55 3 58 (.ldc2_w 284) := ⟨by decide +kernel, rfl⟩
theorem e_X10_peak_58 : DC cX10_peak 58 1 59 (.lcmp) := ⟨by decide +kernel, rfl⟩
theorem e_X10_peak_59 : DJ cX10_peak 59 105 62 (.ifCond .ge) := DJ.mk 46 (by decide +kernel) (by decide) rfl
theorem e_X10_peak_62 : DC cX10_peak 62 1 63 (.aload_n 0) := ⟨by decide +kernel, rfl⟩
theorem e_X10_peak_63 : DC cX10_peak 63 3 66 (.invokevirtual 343) := ⟨by decide +kernel, rfl⟩
theorem cb_X10_paidAll : CB yX10_paidAll cX10_paidAll 4 (some .long) 0 := ⟨tb_in 1908 (by decide +kernel) (by decide +kernel), tb_in 10 (by decide +kernel) (by decide +kernel), by decide +kernel⟩
theorem ml_X10_343 : Cond.methodLink RX10 343 yX10_paidAll ∈ tb := tb_in 1905 (by decide +kernel) (by decide +kernel)
theorem im_X10_paidAll : Cond.instanceMethod yX10_paidAll ∈ tb := tb_in 1907 (by decide +kernel) (by decide +kernel)
theorem se_X10_paidAll : Cond.selects (yX10_paidAll).cls yX10_paidAll yX10_paidAll ∈ tb := tb_sel 59 (by decide +kernel) (by decide +kernel)
theorem e_X10_peak_66 : DC cX10_peak 66 2 68 (.lstore 6) := ⟨by decide +kernel, rfl⟩
theorem e_X10_peak_68 : DC cX10_peak 68 1 69 (.aload_n 0) := ⟨by decide +kernel, rfl⟩
theorem e_X10_peak_69 : DC cX10_peak 69 3 72 (.invokevirtual 289) := ⟨by decide +kernel, rfl⟩
theorem e_X10_peak_72 : DC cX10_peak 72 1 73 (.aload_n 0) := ⟨by decide +kernel, rfl⟩
theorem e_X10_peak_73 : DC cX10_peak 73 3 76 (.invokevirtual 343) := ⟨by decide +kernel, rfl⟩
theorem e_X10_peak_76 : DC cX10_peak 76 2 78 (.lload 6) := ⟨by decide +kernel, rfl⟩
theorem e_X10_peak_78 : DC cX10_peak 78 1 79 (.lsub) := ⟨by decide +kernel, rfl⟩
theorem e_X10_peak_79 : DC cX10_peak 79 1 80 (.lload_n 2) := ⟨by decide +kernel, rfl⟩
theorem e_X10_peak_80 : DC cX10_peak 80 1 81 (.lcmp) := ⟨by decide +kernel, rfl⟩
theorem e_X10_peak_81 : DJ cX10_peak 81 87 84 (.ifCond .gt) := DJ.mk 6 (by decide +kernel) (by decide) rfl
theorem e_X10_peak_84 : DJ cX10_peak 84 99 87 .goto := DJ.mk 15 (by decide +kernel) (by decide) rfl
theorem e_X10_peak_99 : DC cX10_peak 99 3 102 (.iinc 5 1) := ⟨by decide +kernel, rfl⟩
theorem e_X10_peak_102 : DJ cX10_peak 102 40 105 .goto := DJ.mk (-62) (by decide +kernel) (by decide) rfl
theorem e_X10_peak_0 : DC cX10_peak 0 1 1 (.aload_n 0) := ⟨by decide +kernel, rfl⟩
theorem e_X10_peak_1 : DC cX10_peak 1 1 2 (.iconst 0) := ⟨by decide +kernel, rfl⟩
theorem e_X10_peak_2 : DC cX10_peak 2 3 5 (.putfield 91) := ⟨by decide +kernel, rfl⟩
theorem e_X10_peak_5 : DC cX10_peak 5 1 6 (.iload_n 1) := ⟨by decide +kernel, rfl⟩
theorem e_X10_peak_6 : DJ cX10_peak 6 14 9 (.ifCond .lt) := DJ.mk 8 (by decide +kernel) (by decide) rfl
theorem e_X10_peak_14 : DC cX10_peak 14 3 17 (.ldc2_w 245) := ⟨by decide +kernel, rfl⟩
theorem e_X10_peak_17 : DC cX10_peak 17 1 18 (.lreturn) := ⟨by decide +kernel, rfl⟩
theorem e_X10_peak_9 : DC cX10_peak 9 1 10 (.iload_n 1) := ⟨by decide +kernel, rfl⟩
theorem e_X10_peak_10 : DC cX10_peak 10 1 11 (.iconst 1) := ⟨by decide +kernel, rfl⟩
theorem e_X10_peak_11 : DJ cX10_peak 11 18 14 (.if_icmp .le) := DJ.mk 7 (by decide +kernel) (by decide) rfl
theorem e_X10_peak_18 : DC cX10_peak 18 1 19 (.aload_n 0) := ⟨by decide +kernel, rfl⟩
theorem e_X10_peak_19 : DC cX10_peak 19 3 22 (.getfield 59) := ⟨by decide +kernel, rfl⟩
theorem e_X10_peak_22 : DC cX10_peak 22 1 23 (.iconst 0) := ⟨by decide +kernel, rfl⟩
theorem e_X10_peak_23 : DC cX10_peak 23 1 24 (.aload_n 0) := ⟨by decide +kernel, rfl⟩
theorem e_X10_peak_24 : DC cX10_peak 24 3 27 (.getfield 63) := ⟨by decide +kernel, rfl⟩
theorem e_X10_peak_27 : DC cX10_peak 27 1 28 (.iconst 0) := ⟨by decide +kernel, rfl⟩
theorem e_X10_peak_28 : DC cX10_peak 28 3 31 (.invokestatic 230) := ⟨by decide +kernel, rfl⟩
theorem e_X10_peak_31 : DC cX10_peak 31 1 32 (.lconst 0) := ⟨by decide +kernel, rfl⟩
theorem e_X10_peak_32 : DC cX10_peak 32 1 33 (.lstore_n 2) := ⟨by decide +kernel, rfl⟩
theorem e_X10_peak_33 : DC cX10_peak 33 2 35 (.bipush (-2)) := ⟨by decide +kernel, rfl⟩
theorem e_X10_peak_35 : DC cX10_peak 35 2 37 (.istore 4) := ⟨by decide +kernel, rfl⟩
theorem e_X10_peak_37 : DC cX10_peak 37 1 38 (.iconst 0) := ⟨by decide +kernel, rfl⟩
theorem e_X10_peak_38 : DC cX10_peak 38 2 40 (.istore 5) := ⟨by decide +kernel, rfl⟩
theorem e_X10_cash_0 : DC cX10_cash 0 1 1 (.aload_n 0) := ⟨by decide +kernel, rfl⟩
theorem e_X10_cash_1 : DC cX10_cash 1 1 2 (.iconst 0) := ⟨by decide +kernel, rfl⟩
theorem e_X10_cash_2 : DC cX10_cash 2 3 5 (.putfield 91) := ⟨by decide +kernel, rfl⟩
theorem e_X10_cash_5 : DC cX10_cash 5 1 6 (.iload_n 1) := ⟨by decide +kernel, rfl⟩
theorem e_X10_cash_6 : DJ cX10_cash 6 20 9 (.ifCond .lt) := DJ.mk 14 (by decide +kernel) (by decide) rfl
theorem e_X10_cash_20 : DC cX10_cash 20 3 23 (.ldc2_w 245) := ⟨by decide +kernel, rfl⟩
theorem e_X10_cash_23 : DC cX10_cash 23 1 24 (.lreturn) := ⟨by decide +kernel, rfl⟩
theorem e_X10_cash_9 : DC cX10_cash 9 1 10 (.iload_n 2) := ⟨by decide +kernel, rfl⟩
theorem e_X10_cash_10 : DC cX10_cash 10 2 12 (.bipush 71) := ⟨by decide +kernel, rfl⟩
theorem e_X10_cash_12 : DJ cX10_cash 12 20 15 (.if_icmp .gt) := DJ.mk 8 (by decide +kernel) (by decide) rfl
theorem e_X10_cash_15 : DC cX10_cash 15 1 16 (.iload_n 1) := ⟨by decide +kernel, rfl⟩
theorem e_X10_cash_16 : DC cX10_cash 16 1 17 (.iload_n 2) := ⟨by decide +kernel, rfl⟩
theorem e_X10_cash_17 : DJ cX10_cash 17 24 20 (.if_icmp .le) := DJ.mk 7 (by decide +kernel) (by decide) rfl
theorem e_X10_cash_24 : DC cX10_cash 24 1 25 (.aload_n 0) := ⟨by decide +kernel, rfl⟩
theorem e_X10_cash_25 : DC cX10_cash 25 1 26 (.iload_n 1) := ⟨by decide +kernel, rfl⟩
theorem e_X10_cash_26 : DC cX10_cash 26 3 29 (.invokevirtual 329) := ⟨by decide +kernel, rfl⟩
theorem e_X10_cash_29 : DC cX10_cash 29 1 30 (.aload_n 0) := ⟨by decide +kernel, rfl⟩
theorem e_X10_cash_30 : DC cX10_cash 30 3 33 (.invokevirtual 343) := ⟨by decide +kernel, rfl⟩
theorem e_X10_cash_33 : DC cX10_cash 33 1 34 (.lstore_n 3) := ⟨by decide +kernel, rfl⟩
theorem e_X10_cash_34 : DC cX10_cash 34 1 35 (.aload_n 0) := ⟨by decide +kernel, rfl⟩
theorem e_X10_cash_35 : DC cX10_cash 35 3 38 (.invokevirtual 332) := ⟨by decide +kernel, rfl⟩
theorem e_X10_cash_38 : DC cX10_cash 38 1 39 (.aload_n 0) := ⟨by decide +kernel, rfl⟩
theorem e_X10_cash_39 : DC cX10_cash 39 1 40 (.iload_n 2) := ⟨by decide +kernel, rfl⟩
theorem e_X10_cash_40 : DC cX10_cash 40 1 41 (.iconst 1) := ⟨by decide +kernel, rfl⟩
theorem e_X10_cash_41 : DC cX10_cash 41 1 42 (.iadd) := ⟨by decide +kernel, rfl⟩
theorem e_X10_cash_42 : DC cX10_cash 42 3 45 (.invokevirtual 329) := ⟨by decide +kernel, rfl⟩
theorem e_X10_cash_45 : DC cX10_cash 45 1 46 (.aload_n 0) := ⟨by decide +kernel, rfl⟩
theorem e_X10_cash_46 : DC cX10_cash 46 3 49 (.invokevirtual 343) := ⟨by decide +kernel, rfl⟩
theorem e_X10_cash_49 : DC cX10_cash 49 2 51 (.lstore 5) := ⟨by decide +kernel, rfl⟩
theorem e_X10_cash_51 : DC cX10_cash 51 1 52 (.aload_n 0) := ⟨by decide +kernel, rfl⟩
theorem e_X10_cash_52 : DC cX10_cash 52 3 55 (.invokevirtual 332) := ⟨by decide +kernel, rfl⟩
theorem e_X10_cash_55 : DC cX10_cash 55 2 57 (.lload 5) := ⟨by decide +kernel, rfl⟩
theorem e_X10_cash_57 : DC cX10_cash 57 1 58 (.lload_n 3) := ⟨by decide +kernel, rfl⟩
theorem e_X10_cash_58 : DC cX10_cash 58 1 59 (.lsub) := ⟨by decide +kernel, rfl⟩
theorem e_X10_cash_59 : DC cX10_cash 59 1 60 (.lreturn) := ⟨by decide +kernel, rfl⟩
set_option maxRecDepth 20000 in
theorem lp_feed0 {V : VX} {X : MX} {N : Nat} {σ : Mem} {Post : Option Value → Mem → Prop} (F : Fx V X yX10_feed cX10_feed 8 (some .int) (rmd 0 0 0)) (hQ : Rt V X 0 0 N Post) {m : Nat} {a b c d e : Int32} (h_obj : σ m = some (ob 8 [.int 0, .ref (m + 1), .int 0, .ref (m + 2), .ref (m + 3), .ref (m + 4), .ref (m + 5), .ref (m + 6), .ref (m + 7), .ref (m + 8), .ref (m + 9), .ref (m + 10), .ref (m + 11), .ref (m + 12), .ref (m + 13), .ref (m + 14), .ref (m + 15), .int 0, .int 0, .int 0, .int 0, .int 0, .int 0, .int 0, .int 0, .int 0, .int (-1), .ref (m + 16), .ref (m + 17), .ref (m + 18), .ref (m + 19), .ref (m + 20), .int 0, .int 0, .ref (m + 21), .ref (m + 22), .int 0])) (hp : ∀ τ, Post (some (.int 20)) τ) : ∀ (n i : Nat) (f : Nat → Int32), i ≤ 20 → 20 - i < n → Wm V X 8 N (va_up σ (m + 1) (some (aI V 700 f))) 0 0 20 [(6, .int (nI i)), (0, .ref m), (1, .int a), (2, .int b), (3, .int c), (4, .int d), (5, .int e)] [] := by
  intro n
  induction n with
  | zero => intro i f h1 h2; exact absurd h2 (by omega)
  | succ n ih =>
    intro i f h1 h2
    refine m_iload F rfl e_X10_feed_20 ?_
    refine m_bipush F (v := 20) (by decide) e_X10_feed_22 ?_
    refine m_icmp_ge F e_X10_feed_24 (fun q24 => ?_) (fun q24 => ?_)
    · have c24 : i ≥ 20 := (nI_leI (a := 20) (b := i) (by omega) (by omega)).mp q24
      refine m_aload_n F rfl e_X10_feed_110 ?_
      refine m_dup F rfl e_X10_feed_111 ?_
      refine m_get F e_X10_feed_112 fl_X10_94 (ru_ne (by omega) h_obj) rfl ?_
      refine m_bipush F (v := 20) (by decide) e_X10_feed_115 ?_
      refine m_iadd F e_X10_feed_117 ?_
      refine Wm.topE (w := 20) (by decide) ?_
      refine m_put F e_X10_feed_118 fp_X10_94 (ru_ne (by omega) h_obj) rfl rfl (Nat.le_of_ble_eq_true rfl) (fs' := [.int 0, .ref (m + 1), .int 20, .ref (m + 2), .ref (m + 3), .ref (m + 4), .ref (m + 5), .ref (m + 6), .ref (m + 7), .ref (m + 8), .ref (m + 9), .ref (m + 10), .ref (m + 11), .ref (m + 12), .ref (m + 13), .ref (m + 14), .ref (m + 15), .int 0, .int 0, .int 0, .int 0, .int 0, .int 0, .int 0, .int 0, .int 0, .int (-1), .ref (m + 16), .ref (m + 17), .ref (m + 18), .ref (m + 19), .ref (m + 20), .int 0, .int 0, .ref (m + 21), .ref (m + 22), .int 0]) rfl rfl ?_
      refine m_aload_n F rfl e_X10_feed_121 ?_
      refine m_get F e_X10_feed_122 fl_X10_94 ru_eq rfl ?_
      exact m_iret F hQ e_X10_feed_125 (hp _)
    · have c24 : i < 20 := by have hh := mt (nI_leI (a := 20) (b := i) (by omega) (by omega)).mpr q24; omega
      refine m_iload F rfl e_X10_feed_27 ?_
      refine m_iconst F (v := 4) (by decide) e_X10_feed_29 ?_
      refine m_icmp_ge F e_X10_feed_30 (fun q30 => ?_) (fun q30 => ?_)
      · have c30 : i ≥ 4 := (nI_leI (a := 4) (b := i) (by omega) (by omega)).mp q30
        refine m_iload F rfl e_X10_feed_37 ?_
        refine m_bipush F (v := 8) (by decide) e_X10_feed_39 ?_
        refine m_icmp_ge F e_X10_feed_41 (fun q41 => ?_) (fun q41 => ?_)
        · have c41 : i ≥ 8 := (nI_leI (a := 8) (b := i) (by omega) (by omega)).mp q41
          refine m_iload F rfl e_X10_feed_48 ?_
          refine m_bipush F (v := 12) (by decide) e_X10_feed_50 ?_
          refine m_icmp_ge F e_X10_feed_52 (fun q52 => ?_) (fun q52 => ?_)
          · have c52 : i ≥ 12 := (nI_leI (a := 12) (b := i) (by omega) (by omega)).mp q52
            refine m_iload F rfl e_X10_feed_59 ?_
            refine m_bipush F (v := 16) (by decide) e_X10_feed_61 ?_
            refine m_icmp_ge F e_X10_feed_63 (fun q63 => ?_) (fun q63 => ?_)
            · have c63 : i ≥ 16 := (nI_leI (a := 16) (b := i) (by omega) (by omega)).mp q63
              refine m_iload F rfl e_X10_feed_71 ?_
              refine m_istore F (lv' := [(7, .int e), (6, .int (nI i)), (0, .ref m), (1, .int a), (2, .int b), (3, .int c), (4, .int d), (5, .int e)]) e_X10_feed_73 (by decide) rfl ?_
              refine m_aload_n F rfl e_X10_feed_75 ?_
              refine m_get F e_X10_feed_76 fl_X10_7 (ru_ne (by omega) h_obj) rfl ?_
              refine m_aload_n F rfl e_X10_feed_79 ?_
              refine m_get F e_X10_feed_80 fl_X10_94 (ru_ne (by omega) h_obj) rfl ?_
              refine m_iload F rfl e_X10_feed_83 ?_
              refine m_iadd F e_X10_feed_85 ?_
              refine Wm.topE (w := nI (0 + i)) (nI_add 0 i) ?_
              refine m_iload F rfl e_X10_feed_86 ?_
              refine m_bipush F (v := 24) (by decide) e_X10_feed_88 ?_
              refine m_bipush F (v := 8) (by decide) e_X10_feed_90 ?_
              refine m_iload F rfl e_X10_feed_92 ?_
              refine m_iconst F (v := 4) (by decide) e_X10_feed_94 ?_
              refine m_irem F (by decide) e_X10_feed_95 ?_
              refine m_imul F e_X10_feed_96 ?_
              refine m_isub F e_X10_feed_97 ?_
              refine m_ishr F e_X10_feed_98 ?_
              refine m_sipush F (v := 255) (by decide) e_X10_feed_99 ?_
              refine m_iand F e_X10_feed_102 ?_
              refine m_iast F (j := 0 + i) e_X10_feed_103 ru_eq (nI_clamp (by omega)) (vp_in_nI (by omega) (by omega)) rfl (bx_uu _ _ _ _) ?_
              refine m_iinc F (v := nI (i + 1)) (lv' := [(6, .int (nI (i + 1))), (7, .int e), (0, .ref m), (1, .int a), (2, .int b), (3, .int c), (4, .int d), (5, .int e)]) e_X10_feed_104 rfl (nI_add i 1) (by decide) rfl ?_
              refine m_goto F e_X10_feed_107 ?_
              refine Wm.lvsub (lv' := [(6, .int (nI (i + 1))), (0, .ref m), (1, .int a), (2, .int b), (3, .int c), (4, .int d), (5, .int e)]) ?_ [0, 2, 3, 4, 5, 6, 7] rfl
              exact ih (i + 1) _ (by omega) (by omega)
            · have c63 : i < 16 := by have hh := mt (nI_leI (a := 16) (b := i) (by omega) (by omega)).mpr q63; omega
              refine m_iload F rfl e_X10_feed_66 ?_
              refine m_goto F e_X10_feed_68 ?_
              refine m_istore F (lv' := [(7, .int d), (6, .int (nI i)), (0, .ref m), (1, .int a), (2, .int b), (3, .int c), (4, .int d), (5, .int e)]) e_X10_feed_73 (by decide) rfl ?_
              refine m_aload_n F rfl e_X10_feed_75 ?_
              refine m_get F e_X10_feed_76 fl_X10_7 (ru_ne (by omega) h_obj) rfl ?_
              refine m_aload_n F rfl e_X10_feed_79 ?_
              refine m_get F e_X10_feed_80 fl_X10_94 (ru_ne (by omega) h_obj) rfl ?_
              refine m_iload F rfl e_X10_feed_83 ?_
              refine m_iadd F e_X10_feed_85 ?_
              refine Wm.topE (w := nI (0 + i)) (nI_add 0 i) ?_
              refine m_iload F rfl e_X10_feed_86 ?_
              refine m_bipush F (v := 24) (by decide) e_X10_feed_88 ?_
              refine m_bipush F (v := 8) (by decide) e_X10_feed_90 ?_
              refine m_iload F rfl e_X10_feed_92 ?_
              refine m_iconst F (v := 4) (by decide) e_X10_feed_94 ?_
              refine m_irem F (by decide) e_X10_feed_95 ?_
              refine m_imul F e_X10_feed_96 ?_
              refine m_isub F e_X10_feed_97 ?_
              refine m_ishr F e_X10_feed_98 ?_
              refine m_sipush F (v := 255) (by decide) e_X10_feed_99 ?_
              refine m_iand F e_X10_feed_102 ?_
              refine m_iast F (j := 0 + i) e_X10_feed_103 ru_eq (nI_clamp (by omega)) (vp_in_nI (by omega) (by omega)) rfl (bx_uu _ _ _ _) ?_
              refine m_iinc F (v := nI (i + 1)) (lv' := [(6, .int (nI (i + 1))), (7, .int d), (0, .ref m), (1, .int a), (2, .int b), (3, .int c), (4, .int d), (5, .int e)]) e_X10_feed_104 rfl (nI_add i 1) (by decide) rfl ?_
              refine m_goto F e_X10_feed_107 ?_
              refine Wm.lvsub (lv' := [(6, .int (nI (i + 1))), (0, .ref m), (1, .int a), (2, .int b), (3, .int c), (4, .int d), (5, .int e)]) ?_ [0, 2, 3, 4, 5, 6, 7] rfl
              exact ih (i + 1) _ (by omega) (by omega)
          · have c52 : i < 12 := by have hh := mt (nI_leI (a := 12) (b := i) (by omega) (by omega)).mpr q52; omega
            refine m_iload_n F rfl e_X10_feed_55 ?_
            refine m_goto F e_X10_feed_56 ?_
            refine m_istore F (lv' := [(7, .int c), (6, .int (nI i)), (0, .ref m), (1, .int a), (2, .int b), (3, .int c), (4, .int d), (5, .int e)]) e_X10_feed_73 (by decide) rfl ?_
            refine m_aload_n F rfl e_X10_feed_75 ?_
            refine m_get F e_X10_feed_76 fl_X10_7 (ru_ne (by omega) h_obj) rfl ?_
            refine m_aload_n F rfl e_X10_feed_79 ?_
            refine m_get F e_X10_feed_80 fl_X10_94 (ru_ne (by omega) h_obj) rfl ?_
            refine m_iload F rfl e_X10_feed_83 ?_
            refine m_iadd F e_X10_feed_85 ?_
            refine Wm.topE (w := nI (0 + i)) (nI_add 0 i) ?_
            refine m_iload F rfl e_X10_feed_86 ?_
            refine m_bipush F (v := 24) (by decide) e_X10_feed_88 ?_
            refine m_bipush F (v := 8) (by decide) e_X10_feed_90 ?_
            refine m_iload F rfl e_X10_feed_92 ?_
            refine m_iconst F (v := 4) (by decide) e_X10_feed_94 ?_
            refine m_irem F (by decide) e_X10_feed_95 ?_
            refine m_imul F e_X10_feed_96 ?_
            refine m_isub F e_X10_feed_97 ?_
            refine m_ishr F e_X10_feed_98 ?_
            refine m_sipush F (v := 255) (by decide) e_X10_feed_99 ?_
            refine m_iand F e_X10_feed_102 ?_
            refine m_iast F (j := 0 + i) e_X10_feed_103 ru_eq (nI_clamp (by omega)) (vp_in_nI (by omega) (by omega)) rfl (bx_uu _ _ _ _) ?_
            refine m_iinc F (v := nI (i + 1)) (lv' := [(6, .int (nI (i + 1))), (7, .int c), (0, .ref m), (1, .int a), (2, .int b), (3, .int c), (4, .int d), (5, .int e)]) e_X10_feed_104 rfl (nI_add i 1) (by decide) rfl ?_
            refine m_goto F e_X10_feed_107 ?_
            refine Wm.lvsub (lv' := [(6, .int (nI (i + 1))), (0, .ref m), (1, .int a), (2, .int b), (3, .int c), (4, .int d), (5, .int e)]) ?_ [0, 2, 3, 4, 5, 6, 7] rfl
            exact ih (i + 1) _ (by omega) (by omega)
        · have c41 : i < 8 := by have hh := mt (nI_leI (a := 8) (b := i) (by omega) (by omega)).mpr q41; omega
          refine m_iload_n F rfl e_X10_feed_44 ?_
          refine m_goto F e_X10_feed_45 ?_
          refine m_istore F (lv' := [(7, .int b), (6, .int (nI i)), (0, .ref m), (1, .int a), (2, .int b), (3, .int c), (4, .int d), (5, .int e)]) e_X10_feed_73 (by decide) rfl ?_
          refine m_aload_n F rfl e_X10_feed_75 ?_
          refine m_get F e_X10_feed_76 fl_X10_7 (ru_ne (by omega) h_obj) rfl ?_
          refine m_aload_n F rfl e_X10_feed_79 ?_
          refine m_get F e_X10_feed_80 fl_X10_94 (ru_ne (by omega) h_obj) rfl ?_
          refine m_iload F rfl e_X10_feed_83 ?_
          refine m_iadd F e_X10_feed_85 ?_
          refine Wm.topE (w := nI (0 + i)) (nI_add 0 i) ?_
          refine m_iload F rfl e_X10_feed_86 ?_
          refine m_bipush F (v := 24) (by decide) e_X10_feed_88 ?_
          refine m_bipush F (v := 8) (by decide) e_X10_feed_90 ?_
          refine m_iload F rfl e_X10_feed_92 ?_
          refine m_iconst F (v := 4) (by decide) e_X10_feed_94 ?_
          refine m_irem F (by decide) e_X10_feed_95 ?_
          refine m_imul F e_X10_feed_96 ?_
          refine m_isub F e_X10_feed_97 ?_
          refine m_ishr F e_X10_feed_98 ?_
          refine m_sipush F (v := 255) (by decide) e_X10_feed_99 ?_
          refine m_iand F e_X10_feed_102 ?_
          refine m_iast F (j := 0 + i) e_X10_feed_103 ru_eq (nI_clamp (by omega)) (vp_in_nI (by omega) (by omega)) rfl (bx_uu _ _ _ _) ?_
          refine m_iinc F (v := nI (i + 1)) (lv' := [(6, .int (nI (i + 1))), (7, .int b), (0, .ref m), (1, .int a), (2, .int b), (3, .int c), (4, .int d), (5, .int e)]) e_X10_feed_104 rfl (nI_add i 1) (by decide) rfl ?_
          refine m_goto F e_X10_feed_107 ?_
          refine Wm.lvsub (lv' := [(6, .int (nI (i + 1))), (0, .ref m), (1, .int a), (2, .int b), (3, .int c), (4, .int d), (5, .int e)]) ?_ [0, 2, 3, 4, 5, 6, 7] rfl
          exact ih (i + 1) _ (by omega) (by omega)
      · have c30 : i < 4 := by have hh := mt (nI_leI (a := 4) (b := i) (by omega) (by omega)).mpr q30; omega
        refine m_iload_n F rfl e_X10_feed_33 ?_
        refine m_goto F e_X10_feed_34 ?_
        refine m_istore F (lv' := [(7, .int a), (6, .int (nI i)), (0, .ref m), (1, .int a), (2, .int b), (3, .int c), (4, .int d), (5, .int e)]) e_X10_feed_73 (by decide) rfl ?_
        refine m_aload_n F rfl e_X10_feed_75 ?_
        refine m_get F e_X10_feed_76 fl_X10_7 (ru_ne (by omega) h_obj) rfl ?_
        refine m_aload_n F rfl e_X10_feed_79 ?_
        refine m_get F e_X10_feed_80 fl_X10_94 (ru_ne (by omega) h_obj) rfl ?_
        refine m_iload F rfl e_X10_feed_83 ?_
        refine m_iadd F e_X10_feed_85 ?_
        refine Wm.topE (w := nI (0 + i)) (nI_add 0 i) ?_
        refine m_iload F rfl e_X10_feed_86 ?_
        refine m_bipush F (v := 24) (by decide) e_X10_feed_88 ?_
        refine m_bipush F (v := 8) (by decide) e_X10_feed_90 ?_
        refine m_iload F rfl e_X10_feed_92 ?_
        refine m_iconst F (v := 4) (by decide) e_X10_feed_94 ?_
        refine m_irem F (by decide) e_X10_feed_95 ?_
        refine m_imul F e_X10_feed_96 ?_
        refine m_isub F e_X10_feed_97 ?_
        refine m_ishr F e_X10_feed_98 ?_
        refine m_sipush F (v := 255) (by decide) e_X10_feed_99 ?_
        refine m_iand F e_X10_feed_102 ?_
        refine m_iast F (j := 0 + i) e_X10_feed_103 ru_eq (nI_clamp (by omega)) (vp_in_nI (by omega) (by omega)) rfl (bx_uu _ _ _ _) ?_
        refine m_iinc F (v := nI (i + 1)) (lv' := [(6, .int (nI (i + 1))), (7, .int a), (0, .ref m), (1, .int a), (2, .int b), (3, .int c), (4, .int d), (5, .int e)]) e_X10_feed_104 rfl (nI_add i 1) (by decide) rfl ?_
        refine m_goto F e_X10_feed_107 ?_
        refine Wm.lvsub (lv' := [(6, .int (nI (i + 1))), (0, .ref m), (1, .int a), (2, .int b), (3, .int c), (4, .int d), (5, .int e)]) ?_ [0, 2, 3, 4, 5, 6, 7] rfl
        exact ih (i + 1) _ (by omega) (by omega)
set_option maxRecDepth 20000 in
theorem n_feed (l : Launch) (V : VX) (N : Nat) (σ : Mem) (m : Nat) (a b c d e : Int32) (hZ : MZ V σ m) : Ct l V yX10_feed cX10_feed 8 (some .int) 0 0 0 N σ [.ref m, .int a, .int b, .int c, .int d, .int e] (fun r _ => r = some (.int 20)) := by
  refine Ct.of (by decide) (Nat.le_of_ble_eq_true rfl) [(0, .ref m), (1, .int a), (2, .int b), (3, .int c), (4, .int d), (5, .int e)] rfl (fun X hX F hQ => ?_)
  obtain ⟨z0, z1, z2, z3, z4, z5, z6, z7, z8, z9, z10, z11, z12, z13, z14, z15, z16, z17, z18, z19, z20, z21, z22⟩ := hZ
  refine m_aload_n F rfl e_X10_feed_0 ?_
  refine m_iconst F (v := 0) (by decide) e_X10_feed_1 ?_
  refine m_put F e_X10_feed_2 fp_X10_91 z0 rfl rfl (Nat.le_of_ble_eq_true rfl) (fs' := [.int 0, .ref (m + 1), .int 0, .ref (m + 2), .ref (m + 3), .ref (m + 4), .ref (m + 5), .ref (m + 6), .ref (m + 7), .ref (m + 8), .ref (m + 9), .ref (m + 10), .ref (m + 11), .ref (m + 12), .ref (m + 13), .ref (m + 14), .ref (m + 15), .int 0, .int 0, .int 0, .int 0, .int 0, .int 0, .int 0, .int 0, .int 0, .int (-1), .ref (m + 16), .ref (m + 17), .ref (m + 18), .ref (m + 19), .ref (m + 20), .int 0, .int 0, .ref (m + 21), .ref (m + 22), .int 0]) rfl (up_self z0).symm ?_
  refine m_aload_n F rfl e_X10_feed_5 ?_
  refine m_get F e_X10_feed_6 fl_X10_94 z0 rfl ?_
  refine m_sipush F (v := 680) (by decide) e_X10_feed_9 ?_
  refine m_icmp_le F e_X10_feed_12 (fun _ => ?_) (fun q => absurd (by decide) q)
  refine m_iconst F (v := 0) (by decide) e_X10_feed_17 ?_
  refine m_istore F (lv' := [(6, .int 0), (0, .ref m), (1, .int a), (2, .int b), (3, .int c), (4, .int d), (5, .int e)]) e_X10_feed_18 (by decide) rfl ?_
  refine Wm.memE (up_self z1) ?_
  exact lp_feed0 F hQ z0 (fun _ => rfl) 21 0 _ (by omega) (by omega)
set_option maxRecDepth 20000 in
theorem k_here0 (l : Launch) (V : VX) (N : Nat) (σ : Mem) (m : Nat) (h_obj : σ m = some (ob 8 [.int 0, .ref (m + 1), .int 0, .ref (m + 2), .ref (m + 3), .ref (m + 4), .ref (m + 5), .ref (m + 6), .ref (m + 7), .ref (m + 8), .ref (m + 9), .ref (m + 10), .ref (m + 11), .ref (m + 12), .ref (m + 13), .ref (m + 14), .ref (m + 15), .int 0, .int 0, .int 0, .int 0, .int 0, .int 0, .int 0, .int 0, .int 0, .int (-1), .ref (m + 16), .ref (m + 17), .ref (m + 18), .ref (m + 19), .ref (m + 20), .int 0, .int 0, .ref (m + 21), .ref (m + 22), .int 0])) : Ct l V yX10_here cX10_here 1 (some .int) 0 0 0 N σ [.ref m] (fun r τ => r = some (.int (-1)) ∧ τ = σ) := by
  refine Ct.of (by decide) (Nat.le_of_ble_eq_true rfl) [(0, .ref m)] rfl (fun X hX F hQ => ?_)
  refine m_aload_n F rfl e_X10_here_0 ?_
  refine m_get F e_X10_here_1 fl_X10_97 h_obj rfl ?_
  refine m_aload_n F rfl e_X10_here_4 ?_
  refine m_get F e_X10_here_5 fl_X10_100 h_obj rfl ?_
  refine m_icmp_ge F e_X10_here_8 (fun _ => ?_) (fun q => absurd (by decide) q)
  refine m_iconst F (v := (-1)) (by decide) e_X10_here_23 ?_
  exact m_iret F hQ e_X10_here_24 (⟨rfl, rfl⟩)
set_option maxRecDepth 20000 in
theorem k_token0 (l : Launch) (V : VX) (N : Nat) (σ : Mem) (m : Nat) (h_obj : σ m = some (ob 8 [.int 0, .ref (m + 1), .int 0, .ref (m + 2), .ref (m + 3), .ref (m + 4), .ref (m + 5), .ref (m + 6), .ref (m + 7), .ref (m + 8), .ref (m + 9), .ref (m + 10), .ref (m + 11), .ref (m + 12), .ref (m + 13), .ref (m + 14), .ref (m + 15), .int 0, .int 0, .int 0, .int 0, .int 0, .int 0, .int 0, .int 0, .int 0, .int (-1), .ref (m + 16), .ref (m + 17), .ref (m + 18), .ref (m + 19), .ref (m + 20), .int 0, .int 0, .ref (m + 21), .ref (m + 22), .int 0])) : Ct l V yX10_token cX10_token 2 none 1 0 0 N σ [.ref m] (fun r τ => r = none ∧ τ = va_up σ m (some (ob 8 [.int 0, .ref (m + 1), .int 0, .ref (m + 2), .ref (m + 3), .ref (m + 4), .ref (m + 5), .ref (m + 6), .ref (m + 7), .ref (m + 8), .ref (m + 9), .ref (m + 10), .ref (m + 11), .ref (m + 12), .ref (m + 13), .ref (m + 14), .ref (m + 15), .int 0, .int 0, .int 0, .int 0, .int 4, .int 0, .int 0, .int 0, .int 0, .int (-1), .ref (m + 16), .ref (m + 17), .ref (m + 18), .ref (m + 19), .ref (m + 20), .int 0, .int 0, .ref (m + 21), .ref (m + 22), .int 0]))) := by
  refine Ct.of (by decide) (Nat.le_of_ble_eq_true rfl) [(0, .ref m)] rfl (fun X hX F hQ => ?_)
  refine m_aload_n F rfl e_X10_token_0 ?_
  refine m_callV F e_X10_token_1 (k_here0 (x_l X) V _ _ m h_obj) cb_X10_here ml_X10_103 im_X10_here se_X10_here h_obj rfl rfl (rest := []) rfl (Nat.le_of_ble_eq_true rfl) ⟨Nat.le_of_ble_eq_true rfl, Nat.le_of_ble_eq_true rfl⟩ ⟨Nat.le_of_ble_eq_true rfl, Nat.le_of_ble_eq_true rfl⟩ (k' := 0) (z' := 0) (N' := N) rfl rfl rfl (fun r τ hp => ?_)
  obtain ⟨rfl, rfl⟩ := hp
  refine m_bipush F (v := 10) (by decide) e_X10_token_4 ?_
  refine m_icmp_eq F e_X10_token_6 (fun q => absurd q (by decide)) (fun _ => ?_)
  refine m_aload_n F rfl e_X10_token_9 ?_
  refine m_callV F e_X10_token_10 (k_here0 (x_l X) V _ _ m h_obj) cb_X10_here ml_X10_103 im_X10_here se_X10_here h_obj rfl rfl (rest := []) rfl (Nat.le_of_ble_eq_true rfl) ⟨Nat.le_of_ble_eq_true rfl, Nat.le_of_ble_eq_true rfl⟩ ⟨Nat.le_of_ble_eq_true rfl, Nat.le_of_ble_eq_true rfl⟩ (k' := 0) (z' := 0) (N' := N) rfl rfl rfl (fun r τ hp => ?_)
  obtain ⟨rfl, rfl⟩ := hp
  refine m_bipush F (v := 32) (by decide) e_X10_token_13 ?_
  refine m_icmp_ne F e_X10_token_15 (fun _ => ?_) (fun q => absurd q (by decide))
  refine m_aload_n F rfl e_X10_token_31 ?_
  refine m_aload_n F rfl e_X10_token_32 ?_
  refine m_get F e_X10_token_33 fl_X10_97 h_obj rfl ?_
  refine m_put F e_X10_token_36 fp_X10_107 h_obj rfl rfl (Nat.le_of_ble_eq_true rfl) (fs' := [.int 0, .ref (m + 1), .int 0, .ref (m + 2), .ref (m + 3), .ref (m + 4), .ref (m + 5), .ref (m + 6), .ref (m + 7), .ref (m + 8), .ref (m + 9), .ref (m + 10), .ref (m + 11), .ref (m + 12), .ref (m + 13), .ref (m + 14), .ref (m + 15), .int 0, .int 0, .int 0, .int 0, .int 0, .int 0, .int 0, .int 0, .int 0, .int (-1), .ref (m + 16), .ref (m + 17), .ref (m + 18), .ref (m + 19), .ref (m + 20), .int 0, .int 0, .ref (m + 21), .ref (m + 22), .int 0]) rfl (up_self h_obj).symm ?_
  refine m_aload_n F rfl e_X10_token_39 ?_
  refine m_callV F e_X10_token_40 (k_here0 (x_l X) V _ _ m h_obj) cb_X10_here ml_X10_103 im_X10_here se_X10_here h_obj rfl rfl (rest := []) rfl (Nat.le_of_ble_eq_true rfl) ⟨Nat.le_of_ble_eq_true rfl, Nat.le_of_ble_eq_true rfl⟩ ⟨Nat.le_of_ble_eq_true rfl, Nat.le_of_ble_eq_true rfl⟩ (k' := 0) (z' := 0) (N' := N) rfl rfl rfl (fun r τ hp => ?_)
  obtain ⟨rfl, rfl⟩ := hp
  refine m_istore_n F (lv' := [(1, .int (-1)), (0, .ref m)]) e_X10_token_43 (by decide) rfl ?_
  refine m_iload_n F rfl e_X10_token_44 ?_
  refine m_iconst F (v := (-1)) (by decide) e_X10_token_45 ?_
  refine m_icmp_ne F e_X10_token_46 (fun q => absurd (by decide) q) (fun _ => ?_)
  refine m_aload_n F rfl e_X10_token_49 ?_
  refine m_iconst F (v := 4) (by decide) e_X10_token_50 ?_
  refine m_put F e_X10_token_51 fp_X10_110 h_obj rfl rfl (Nat.le_of_ble_eq_true rfl) (fs' := [.int 0, .ref (m + 1), .int 0, .ref (m + 2), .ref (m + 3), .ref (m + 4), .ref (m + 5), .ref (m + 6), .ref (m + 7), .ref (m + 8), .ref (m + 9), .ref (m + 10), .ref (m + 11), .ref (m + 12), .ref (m + 13), .ref (m + 14), .ref (m + 15), .int 0, .int 0, .int 0, .int 0, .int 4, .int 0, .int 0, .int 0, .int 0, .int (-1), .ref (m + 16), .ref (m + 17), .ref (m + 18), .ref (m + 19), .ref (m + 20), .int 0, .int 0, .ref (m + 21), .ref (m + 22), .int 0]) rfl rfl ?_
  refine m_goto F e_X10_token_54 ?_
  exact m_vret F hQ e_X10_token_245 (⟨rfl, rfl⟩)
set_option maxRecDepth 20000 in
theorem k_readText0 (l : Launch) (V : VX) (N : Nat) (σ : Mem) (m : Nat) (h_obj : σ m = some (ob 8 [.int 0, .ref (m + 1), .int 0, .ref (m + 2), .ref (m + 3), .ref (m + 4), .ref (m + 5), .ref (m + 6), .ref (m + 7), .ref (m + 8), .ref (m + 9), .ref (m + 10), .ref (m + 11), .ref (m + 12), .ref (m + 13), .ref (m + 14), .ref (m + 15), .int 0, .int 0, .int 0, .int 0, .int 0, .int 0, .int 0, .int 0, .int 0, .int (-1), .ref (m + 16), .ref (m + 17), .ref (m + 18), .ref (m + 19), .ref (m + 20), .int 0, .int 0, .ref (m + 21), .ref (m + 22), .int 0])) (h_number : σ (m + 2) = some (aI V 10 (fun _ => 0))) : Ct l V yX10_readText cX10_readText 2 none 3 0 0 N σ [.ref m, .int 0] (fun r τ => r = none ∧ τ = va_up σ m (some (ob 8 [.int 0, .ref (m + 1), .int 0, .ref (m + 2), .ref (m + 3), .ref (m + 4), .ref (m + 5), .ref (m + 6), .ref (m + 7), .ref (m + 8), .ref (m + 9), .ref (m + 10), .ref (m + 11), .ref (m + 12), .ref (m + 13), .ref (m + 14), .ref (m + 15), .int 0, .int 0, .int 0, .int 0, .int 4, .int 0, .int 0, .int 0, .int 0, .int (-1), .ref (m + 16), .ref (m + 17), .ref (m + 18), .ref (m + 19), .ref (m + 20), .int 0, .int 0, .ref (m + 21), .ref (m + 22), .int 0]))) := by
  refine Ct.of (by decide) (Nat.le_of_ble_eq_true rfl) [(0, .ref m), (1, .int 0)] rfl (fun X hX F hQ => ?_)
  refine m_aload_n F rfl e_X10_readText_0 ?_
  refine m_iload_n F rfl e_X10_readText_1 ?_
  refine m_put F e_X10_readText_2 fp_X10_100 h_obj rfl rfl (Nat.le_of_ble_eq_true rfl) (fs' := [.int 0, .ref (m + 1), .int 0, .ref (m + 2), .ref (m + 3), .ref (m + 4), .ref (m + 5), .ref (m + 6), .ref (m + 7), .ref (m + 8), .ref (m + 9), .ref (m + 10), .ref (m + 11), .ref (m + 12), .ref (m + 13), .ref (m + 14), .ref (m + 15), .int 0, .int 0, .int 0, .int 0, .int 0, .int 0, .int 0, .int 0, .int 0, .int (-1), .ref (m + 16), .ref (m + 17), .ref (m + 18), .ref (m + 19), .ref (m + 20), .int 0, .int 0, .ref (m + 21), .ref (m + 22), .int 0]) rfl (up_self h_obj).symm ?_
  refine m_aload_n F rfl e_X10_readText_5 ?_
  refine m_iconst F (v := 0) (by decide) e_X10_readText_6 ?_
  refine m_put F e_X10_readText_7 fp_X10_97 h_obj rfl rfl (Nat.le_of_ble_eq_true rfl) (fs' := [.int 0, .ref (m + 1), .int 0, .ref (m + 2), .ref (m + 3), .ref (m + 4), .ref (m + 5), .ref (m + 6), .ref (m + 7), .ref (m + 8), .ref (m + 9), .ref (m + 10), .ref (m + 11), .ref (m + 12), .ref (m + 13), .ref (m + 14), .ref (m + 15), .int 0, .int 0, .int 0, .int 0, .int 0, .int 0, .int 0, .int 0, .int 0, .int (-1), .ref (m + 16), .ref (m + 17), .ref (m + 18), .ref (m + 19), .ref (m + 20), .int 0, .int 0, .ref (m + 21), .ref (m + 22), .int 0]) rfl (up_self h_obj).symm ?_
  refine m_aload_n F rfl e_X10_readText_10 ?_
  refine m_iconst F (v := 0) (by decide) e_X10_readText_11 ?_
  refine m_put F e_X10_readText_12 fp_X10_141 h_obj rfl rfl (Nat.le_of_ble_eq_true rfl) (fs' := [.int 0, .ref (m + 1), .int 0, .ref (m + 2), .ref (m + 3), .ref (m + 4), .ref (m + 5), .ref (m + 6), .ref (m + 7), .ref (m + 8), .ref (m + 9), .ref (m + 10), .ref (m + 11), .ref (m + 12), .ref (m + 13), .ref (m + 14), .ref (m + 15), .int 0, .int 0, .int 0, .int 0, .int 0, .int 0, .int 0, .int 0, .int 0, .int (-1), .ref (m + 16), .ref (m + 17), .ref (m + 18), .ref (m + 19), .ref (m + 20), .int 0, .int 0, .ref (m + 21), .ref (m + 22), .int 0]) rfl (up_self h_obj).symm ?_
  refine m_aload_n F rfl e_X10_readText_15 ?_
  refine m_iconst F (v := 0) (by decide) e_X10_readText_16 ?_
  refine m_put F e_X10_readText_17 fp_X10_202 h_obj rfl rfl (Nat.le_of_ble_eq_true rfl) (fs' := [.int 0, .ref (m + 1), .int 0, .ref (m + 2), .ref (m + 3), .ref (m + 4), .ref (m + 5), .ref (m + 6), .ref (m + 7), .ref (m + 8), .ref (m + 9), .ref (m + 10), .ref (m + 11), .ref (m + 12), .ref (m + 13), .ref (m + 14), .ref (m + 15), .int 0, .int 0, .int 0, .int 0, .int 0, .int 0, .int 0, .int 0, .int 0, .int (-1), .ref (m + 16), .ref (m + 17), .ref (m + 18), .ref (m + 19), .ref (m + 20), .int 0, .int 0, .ref (m + 21), .ref (m + 22), .int 0]) rfl (up_self h_obj).symm ?_
  refine m_aload_n F rfl e_X10_readText_20 ?_
  refine m_callV F e_X10_readText_21 (k_freshText0 (x_l X) V _ _ m 0 0 0 0 0 0 0 0 0 0 0 (-1) 0 0 0  h_obj h_number ) cb_X10_freshText ml_X10_82 im_X10_freshText se_X10_freshText h_obj rfl rfl (rest := []) rfl (Nat.le_of_ble_eq_true rfl) ⟨Nat.le_of_ble_eq_true rfl, Nat.le_of_ble_eq_true rfl⟩ ⟨Nat.le_of_ble_eq_true rfl, Nat.le_of_ble_eq_true rfl⟩ (k' := 0) (z' := 0) (N' := N) rfl rfl rfl (fun r τ hp => ?_)
  obtain ⟨rfl, rfl⟩ := hp
  refine m_aload_n F rfl e_X10_readText_24 ?_
  refine m_callV F e_X10_readText_25 (k_token0 (x_l X) V _ _ m h_obj) cb_X10_token ml_X10_147 im_X10_token se_X10_token h_obj rfl rfl (rest := []) rfl (Nat.le_of_ble_eq_true rfl) ⟨Nat.le_of_ble_eq_true rfl, Nat.le_of_ble_eq_true rfl⟩ ⟨Nat.le_of_ble_eq_true rfl, Nat.le_of_ble_eq_true rfl⟩ (k' := 0) (z' := 0) (N' := N) rfl rfl rfl (fun r τ hp => ?_)
  obtain ⟨rfl, rfl⟩ := hp
  refine m_aload_n F rfl e_X10_readText_28 ?_
  refine m_get F e_X10_readText_29 fl_X10_141 ru_eq rfl ?_
  refine m_if_ne F e_X10_readText_32 (fun q => absurd (by decide) q) (fun _ => ?_)
  refine m_aload_n F rfl e_X10_readText_35 ?_
  refine m_get F e_X10_readText_36 fl_X10_110 ru_eq rfl ?_
  refine m_iconst F (v := 4) (by decide) e_X10_readText_39 ?_
  refine m_icmp_eq F e_X10_readText_40 (fun _ => ?_) (fun q => absurd (by decide) q)
  exact m_vret F hQ e_X10_readText_50 (⟨rfl, rfl⟩)
set_option maxRecDepth 20000 in
theorem n_text (l : Launch) (V : VX) (N : Nat) (σ : Mem) (m : Nat) (x : Int32) (hZ : MZ V σ m) : Ct l V yX10_text cX10_text 2 (some .int) 4 0 0 N σ [.ref m, .int x] (fun r _ => r = some (.int (if x < 0 ∨ 0 < x then -2 else 0))) := by
  refine Ct.of (by decide) (Nat.le_of_ble_eq_true rfl) [(0, .ref m), (1, .int x)] rfl (fun X hX F hQ => ?_)
  obtain ⟨z0, z1, z2, z3, z4, z5, z6, z7, z8, z9, z10, z11, z12, z13, z14, z15, z16, z17, z18, z19, z20, z21, z22⟩ := hZ
  refine m_aload_n F rfl e_X10_text_0 ?_
  refine m_iconst F (v := 0) (by decide) e_X10_text_1 ?_
  refine m_put F e_X10_text_2 fp_X10_91 z0 rfl rfl (Nat.le_of_ble_eq_true rfl) (fs' := [.int 0, .ref (m + 1), .int 0, .ref (m + 2), .ref (m + 3), .ref (m + 4), .ref (m + 5), .ref (m + 6), .ref (m + 7), .ref (m + 8), .ref (m + 9), .ref (m + 10), .ref (m + 11), .ref (m + 12), .ref (m + 13), .ref (m + 14), .ref (m + 15), .int 0, .int 0, .int 0, .int 0, .int 0, .int 0, .int 0, .int 0, .int 0, .int (-1), .ref (m + 16), .ref (m + 17), .ref (m + 18), .ref (m + 19), .ref (m + 20), .int 0, .int 0, .ref (m + 21), .ref (m + 22), .int 0]) rfl (up_self z0).symm ?_
  refine m_iload_n F rfl e_X10_text_5 ?_
  refine m_if_lt F e_X10_text_6 (fun q6 => ?_) (fun q6 => ?_)
  · refine m_bipush F (v := (-2)) (by decide) e_X10_text_17 ?_
    exact m_iret F hQ e_X10_text_19 (by rw [if_pos (Or.inl q6)])
  · refine m_iload_n F rfl e_X10_text_9 ?_
    refine m_aload_n F rfl e_X10_text_10 ?_
    refine m_get F e_X10_text_11 fl_X10_94 z0 rfl ?_
    refine m_icmp_le F e_X10_text_14 (fun q14 => ?_) (fun q14 => ?_)
    · have ex : x = 0 := Int32.le_antisymm q14 (Int32.not_lt.mp q6)
      subst ex
      refine m_aload_n F rfl e_X10_text_20 ?_
      refine m_iload_n F rfl e_X10_text_21 ?_
      refine m_callV F e_X10_text_22 (k_readText0 (x_l X) V _ _ m z0 z2) cb_X10_readText ml_X10_208 im_X10_readText se_X10_readText z0 rfl rfl (rest := []) rfl (Nat.le_of_ble_eq_true rfl) ⟨Nat.le_of_ble_eq_true rfl, Nat.le_of_ble_eq_true rfl⟩ ⟨Nat.le_of_ble_eq_true rfl, Nat.le_of_ble_eq_true rfl⟩ (k' := 0) (z' := 0) (N' := N) rfl rfl rfl (fun r τ hp => ?_)
      obtain ⟨rfl, rfl⟩ := hp
      refine m_aload_n F rfl e_X10_text_25 ?_
      refine m_iconst F (v := 0) (by decide) e_X10_text_26 ?_
      refine m_put F e_X10_text_27 fp_X10_94 ru_eq rfl rfl (Nat.le_of_ble_eq_true rfl) (fs' := [.int 0, .ref (m + 1), .int 0, .ref (m + 2), .ref (m + 3), .ref (m + 4), .ref (m + 5), .ref (m + 6), .ref (m + 7), .ref (m + 8), .ref (m + 9), .ref (m + 10), .ref (m + 11), .ref (m + 12), .ref (m + 13), .ref (m + 14), .ref (m + 15), .int 0, .int 0, .int 0, .int 0, .int 4, .int 0, .int 0, .int 0, .int 0, .int (-1), .ref (m + 16), .ref (m + 17), .ref (m + 18), .ref (m + 19), .ref (m + 20), .int 0, .int 0, .ref (m + 21), .ref (m + 22), .int 0]) rfl (up_self ru_eq).symm ?_
      refine m_aload_n F rfl e_X10_text_30 ?_
      refine m_aload_n F rfl e_X10_text_31 ?_
      refine m_get F e_X10_text_32 fl_X10_141 ru_eq rfl ?_
      refine m_put F e_X10_text_35 fp_X10_211 ru_eq rfl rfl (Nat.le_of_ble_eq_true rfl) (fs' := [.int 0, .ref (m + 1), .int 0, .ref (m + 2), .ref (m + 3), .ref (m + 4), .ref (m + 5), .ref (m + 6), .ref (m + 7), .ref (m + 8), .ref (m + 9), .ref (m + 10), .ref (m + 11), .ref (m + 12), .ref (m + 13), .ref (m + 14), .ref (m + 15), .int 0, .int 0, .int 0, .int 0, .int 4, .int 0, .int 0, .int 0, .int 0, .int (-1), .ref (m + 16), .ref (m + 17), .ref (m + 18), .ref (m + 19), .ref (m + 20), .int 0, .int 0, .ref (m + 21), .ref (m + 22), .int 0]) rfl (up_self ru_eq).symm ?_
      refine m_aload_n F rfl e_X10_text_38 ?_
      refine m_aload_n F rfl e_X10_text_39 ?_
      refine m_get F e_X10_text_40 fl_X10_141 ru_eq rfl ?_
      refine m_if_ne F e_X10_text_43 (fun q => absurd (by decide) q) (fun _ => ?_)
      refine m_iconst F (v := (-1)) (by decide) e_X10_text_46 ?_
      refine m_goto F e_X10_text_47 ?_
      refine m_put F e_X10_text_54 fp_X10_55 ru_eq rfl rfl (Nat.le_of_ble_eq_true rfl) (fs' := [.int 0, .ref (m + 1), .int 0, .ref (m + 2), .ref (m + 3), .ref (m + 4), .ref (m + 5), .ref (m + 6), .ref (m + 7), .ref (m + 8), .ref (m + 9), .ref (m + 10), .ref (m + 11), .ref (m + 12), .ref (m + 13), .ref (m + 14), .ref (m + 15), .int 0, .int 0, .int 0, .int 0, .int 4, .int 0, .int 0, .int 0, .int 0, .int (-1), .ref (m + 16), .ref (m + 17), .ref (m + 18), .ref (m + 19), .ref (m + 20), .int 0, .int 0, .ref (m + 21), .ref (m + 22), .int 0]) rfl (up_self ru_eq).symm ?_
      refine m_aload_n F rfl e_X10_text_57 ?_
      refine m_get F e_X10_text_58 fl_X10_141 ru_eq rfl ?_
      refine m_if_eq F e_X10_text_61 (fun _ => ?_) (fun q => absurd (by decide) q)
      refine m_aload_n F rfl e_X10_text_66 ?_
      refine m_callV F e_X10_text_67 (k_takeText0 (x_l X) V _ _ m 0 0 0 0 0 0 4 0 0 0 0 (-1) 0 0 0  ru_eq (ru_ne (by omega) z2) (ru_ne (by omega) z3) (ru_ne (by omega) z4) (ru_ne (by omega) z5) (ru_ne (by omega) z6) (ru_ne (by omega) z7) (ru_ne (by omega) z8) (ru_ne (by omega) z9) (ru_ne (by omega) z10) (ru_ne (by omega) z11) (ru_ne (by omega) z12) (ru_ne (by omega) z13) (ru_ne (by omega) z14) (ru_ne (by omega) z15) ) cb_X10_takeText ml_X10_85 im_X10_takeText se_X10_takeText ru_eq rfl rfl (rest := []) rfl (Nat.le_of_ble_eq_true rfl) ⟨Nat.le_of_ble_eq_true rfl, Nat.le_of_ble_eq_true rfl⟩ ⟨Nat.le_of_ble_eq_true rfl, Nat.le_of_ble_eq_true rfl⟩ (k' := 0) (z' := 0) (N' := N) rfl rfl rfl (fun r τ hp => ?_)
      obtain ⟨rfl, rfl⟩ := hp
      refine m_aload_n F rfl e_X10_text_70 ?_
      refine m_callV F e_X10_text_71 (k_begins0 (x_l X) V _ _ m 0 0 0 0 0 0 4 0 0 0 0 (-1) 0 0 0 sZ ru_eq (ru_ne (by omega) z2) (ru_ne (by omega) z16) ) cb_X10_begins ml_X10_88 im_X10_begins se_X10_begins ru_eq rfl rfl (rest := []) rfl (Nat.le_of_ble_eq_true rfl) ⟨Nat.le_of_ble_eq_true rfl, Nat.le_of_ble_eq_true rfl⟩ ⟨Nat.le_of_ble_eq_true rfl, Nat.le_of_ble_eq_true rfl⟩ (k' := 0) (z' := 0) (N' := N) rfl rfl rfl (fun r τ hp => ?_)
      obtain ⟨rfl, rfl⟩ := hp
      refine m_aload_n F rfl e_X10_text_74 ?_
      refine m_iconst F (v := 0) (by decide) e_X10_text_75 ?_
      refine m_put F e_X10_text_76 fp_X10_214 (ru_ne (by omega) ru_eq) rfl rfl (Nat.le_of_ble_eq_true rfl) (fs' := [.int 0, .ref (m + 1), .int 0, .ref (m + 2), .ref (m + 3), .ref (m + 4), .ref (m + 5), .ref (m + 6), .ref (m + 7), .ref (m + 8), .ref (m + 9), .ref (m + 10), .ref (m + 11), .ref (m + 12), .ref (m + 13), .ref (m + 14), .ref (m + 15), .int 0, .int 0, .int 0, .int 0, .int 4, .int 0, .int 0, .int 0, .int 0, .int (-1), .ref (m + 16), .ref (m + 17), .ref (m + 18), .ref (m + 19), .ref (m + 20), .int 0, .int 0, .ref (m + 21), .ref (m + 22), .int 0]) rfl (up_self (ru_ne (by omega) ru_eq)).symm ?_
      refine m_aload_n F rfl e_X10_text_79 ?_
      refine m_iconst F (v := 0) (by decide) e_X10_text_80 ?_
      refine m_put F e_X10_text_81 fp_X10_217 (ru_ne (by omega) ru_eq) (by decide) rfl (Nat.le_of_ble_eq_true rfl) (fs' := [.int 0, .ref (m + 1), .int 0, .ref (m + 2), .ref (m + 3), .ref (m + 4), .ref (m + 5), .ref (m + 6), .ref (m + 7), .ref (m + 8), .ref (m + 9), .ref (m + 10), .ref (m + 11), .ref (m + 12), .ref (m + 13), .ref (m + 14), .ref (m + 15), .int 0, .int 0, .int 0, .int 0, .int 4, .int 0, .int 0, .int 0, .int 0, .int (-1), .ref (m + 16), .ref (m + 17), .ref (m + 18), .ref (m + 19), .ref (m + 20), .int 0, .int 0, .ref (m + 21), .ref (m + 22), .int 0]) rfl (up_self (ru_ne (by omega) ru_eq)).symm ?_
      refine m_aload_n F rfl e_X10_text_84 ?_
      refine m_get F e_X10_text_85 fl_X10_202 (ru_ne (by omega) ru_eq) rfl ?_
      exact m_iret F hQ e_X10_text_88 (by rw [if_neg (by decide)])
    · refine m_bipush F (v := (-2)) (by decide) e_X10_text_17 ?_
      exact m_iret F hQ e_X10_text_19 (by rw [if_pos (Or.inr (Int32.not_le.mp q14))])
theorem lp_go0 {V : VX} {X : MX} {N : Nat} {Post : Option Value → Mem → Prop} (F : Fx V X yX10_go cX10_go 3 (some .int) (rmd 2 0 0)) (hQ : Rt V X 0 0 N Post) {m k : Nat} (hk : k ≤ 12) (hp : ∀ τ : Mem, Post (some (.int (nI k))) τ) : ∀ (n i : Nat) (τ : Mem), i ≤ k → k - i < n → ME V τ m i 0 0 i 0 0 → Wm V X 3 N τ 0 0 41 [(2, .int (nI i)), (0, .ref m), (1, .int (nI k))] [] := by
  intro n
  induction n with
  | zero => intro i τ h1 h2; exact absurd h2 (by omega)
  | succ n ih =>
    intro i τ h1 h2 hM
    obtain ⟨ho35, hn35, f35, ga35, gf35, gi35, gk35, hs35, ha35, hfu35, him35, hk35, ef35, ea35, eu35⟩ := hM
    refine m_iload_n F rfl e_X10_go_41 ?_
    refine m_iload_n F rfl e_X10_go_42 ?_
    refine m_icmp_ge F e_X10_go_43 (fun q43 => ?_) (fun q43 => ?_)
    · have c43 : i ≥ k := (nI_leI (a := k) (b := i) (by omega) (by omega)).mp q43
      have hi9 : i = k := by omega
      subst hi9
      refine m_aload_n F rfl e_X10_go_60 ?_
      refine m_get F e_X10_go_61 fl_X10_59 ho35 rfl ?_
      refine m_sipush F (v := 744) (by decide) e_X10_go_64 ?_
      refine m_lald F (j := 744) e_X10_go_67 hs35 (by decide) (by unfold vp_in; decide) ?_
      refine Wm.toplE (w := lN i) (ef35) ?_
      refine m_l2i F e_X10_go_68 ?_
      refine Wm.topE (w := nI i) (lN_i i) ?_
      exact m_iret F hQ e_X10_go_69 (hp _)
    · have c43 : i < k := by have hh := mt (nI_leI (a := k) (b := i) (by omega) (by omega)).mpr q43; omega
      refine m_aload_n F rfl e_X10_go_46 ?_
      refine m_callV F e_X10_go_47 (k_remembers0 (x_l X) V _ _ m i 0 0 i 0 0  ⟨ho35, hn35, f35, ga35, gf35, gi35, gk35, hs35, ha35, hfu35, him35, hk35, ef35, ea35, eu35⟩ (by omega)) cb_X10_remembers ml_X10_286 im_X10_remembers se_X10_remembers ho35 rfl rfl (rest := []) rfl (Nat.le_of_ble_eq_true rfl) ⟨Nat.le_of_ble_eq_true rfl, Nat.le_of_ble_eq_true rfl⟩ ⟨Nat.le_of_ble_eq_true rfl, Nat.le_of_ble_eq_true rfl⟩ (k' := 0) (z' := 0) (N' := N) rfl rfl rfl (fun r τ36 hp => ?_)
      obtain ⟨rfl, hp⟩ := hp
      obtain ⟨ho37, hn37, f37, ga37, gf37, gi37, gk37, hs37, ha37, hfu37, him37, hk37, ef37, ea37, eu37⟩ := hp
      refine m_aload_n F rfl e_X10_go_50 ?_
      refine m_callV F e_X10_go_51 (k_periodGoes0 (x_l X) V _ _ m (i + 1) 0 0 i 0 0  ⟨ho37, hn37, f37, ga37, gf37, gi37, gk37, hs37, ha37, hfu37, him37, hk37, ef37, ea37, eu37⟩ ) cb_X10_periodGoes ml_X10_289 im_X10_periodGoes se_X10_periodGoes ho37 rfl rfl (rest := []) rfl (Nat.le_of_ble_eq_true rfl) ⟨Nat.le_of_ble_eq_true rfl, Nat.le_of_ble_eq_true rfl⟩ ⟨Nat.le_of_ble_eq_true rfl, Nat.le_of_ble_eq_true rfl⟩ (k' := 0) (z' := 0) (N' := N) rfl rfl rfl (fun r τ38 hp => ?_)
      obtain ⟨rfl, hp⟩ := hp
      obtain ⟨ho39, hn39, f39, ga39, gf39, gi39, gk39, hs39, ha39, hfu39, him39, hk39, ef39, ea39, eu39⟩ := hp
      refine m_iinc F (v := nI (i + 1)) (lv' := [(2, .int (nI (i + 1))), (0, .ref m), (1, .int (nI k))]) e_X10_go_54 rfl (nI_add i 1) (by decide) rfl ?_
      refine m_goto F e_X10_go_57 ?_
      exact ih (i + 1) _ (by omega) (by omega) ⟨ho39, hn39, f39, ga39, gf39, gi39, gk39, hs39, ha39, hfu39, him39, hk39, ef39, ea39, eu39⟩
set_option maxRecDepth 20000 in
theorem n_go (l : Launch) (V : VX) (N : Nat) (σ : Mem) (m : Nat) (x : Int32) (hZ : MZ V σ m) : Ct l V yX10_go cX10_go 3 (some .int) 2 0 0 N σ [.ref m, .int x] (fun r _ => r = some (.int (if x < 1 ∨ 12 < x then -1 else x))) := by
  refine Ct.of (by decide) (Nat.le_of_ble_eq_true rfl) [(0, .ref m), (1, .int x)] rfl (fun X hX F hQ => ?_)
  obtain ⟨z0, z1, z2, z3, z4, z5, z6, z7, z8, z9, z10, z11, z12, z13, z14, z15, z16, z17, z18, z19, z20, z21, z22⟩ := hZ
  refine m_aload_n F rfl e_X10_go_0 ?_
  refine m_iconst F (v := 0) (by decide) e_X10_go_1 ?_
  refine m_put F e_X10_go_2 fp_X10_91 z0 rfl rfl (Nat.le_of_ble_eq_true rfl) (fs' := [.int 0, .ref (m + 1), .int 0, .ref (m + 2), .ref (m + 3), .ref (m + 4), .ref (m + 5), .ref (m + 6), .ref (m + 7), .ref (m + 8), .ref (m + 9), .ref (m + 10), .ref (m + 11), .ref (m + 12), .ref (m + 13), .ref (m + 14), .ref (m + 15), .int 0, .int 0, .int 0, .int 0, .int 0, .int 0, .int 0, .int 0, .int 0, .int (-1), .ref (m + 16), .ref (m + 17), .ref (m + 18), .ref (m + 19), .ref (m + 20), .int 0, .int 0, .ref (m + 21), .ref (m + 22), .int 0]) rfl (up_self z0).symm ?_
  refine m_iload_n F rfl e_X10_go_5 ?_
  refine m_iconst F (v := 1) (by decide) e_X10_go_6 ?_
  refine m_icmp_lt F e_X10_go_7 (fun q7 => ?_) (fun q7 => ?_)
  · refine m_iconst F (v := (-1)) (by decide) e_X10_go_16 ?_
    exact m_iret F hQ e_X10_go_17 (by rw [if_pos (Or.inl q7)])
  · refine m_iload_n F rfl e_X10_go_10 ?_
    refine m_bipush F (v := 12) (by decide) e_X10_go_11 ?_
    refine m_icmp_le F e_X10_go_13 (fun q13 => ?_) (fun q13 => ?_)
    · obtain ⟨k, hk1, hk, ek⟩ := rng1 (x := x) (M := 12) (n := 12) (by decide) q7 q13
      subst ek
      refine m_aload_n F rfl e_X10_go_18 ?_
      refine m_get F e_X10_go_19 fl_X10_59 z0 rfl ?_
      refine m_sipush F (v := 744) (by decide) e_X10_go_22 ?_
      refine m_lald F (j := 744) e_X10_go_25 z16 (by decide) (by unfold vp_in; decide) ?_
      refine Wm.toplE (w := lN 0) (sZ744) ?_
      refine m_iload_n F rfl e_X10_go_26 ?_
      refine m_i2l F e_X10_go_27 ?_
      refine Wm.toplE (w := lN k) (nI_l (by omega)) ?_
      refine m_ladd F e_X10_go_28 ?_
      refine Wm.toplE (w := lN (0 + k)) (lN_add 0 k) ?_
      refine m_ldc2 F kc_X10_284 e_X10_go_29 ?_
      refine m_lcmp F e_X10_go_32 ?_
      refine m_if_le F e_X10_go_33 (fun q33 => ?_) (fun q33 => ?_)
      · have c33 : (0 + k) ≤ 99 := (lN_le (a := (0 + k)) (b := 99) (by omega) (by omega)).mp ((lg_cmp_le _ _).mp q33)
        refine m_iconst F (v := 0) (by decide) e_X10_go_39 ?_
        refine m_istore_n F (lv' := [(2, .int 0), (0, .ref m), (1, .int (nI k))]) e_X10_go_40 (by decide) rfl ?_
        exact lp_go0 F hQ hk (fun τ => by rw [if_neg (fun h => h.elim q7 (fun h => absurd q13 (Int32.not_le.mpr h)))]) (k + 1) 0 _ (by omega) (by omega) ⟨z0, z2, sZ, (fun _ => 0), (fun _ => 0), (fun _ => 0), (fun _ => 0), z16, z17, z18, z19, z20, sZ744, rfl, rfl⟩
      · have c33 : (0 + k) > 99 := by have hh := mt (fun h9 => (lg_cmp_le (lN (0 + k)) (lN 99)).mpr ((lN_le (a := (0 + k)) (b := 99) (by omega) (by omega)).mpr h9)) q33; omega
        exfalso; omega
    · refine m_iconst F (v := (-1)) (by decide) e_X10_go_16 ?_
      exact m_iret F hQ e_X10_go_17 (by rw [if_pos (Or.inr (Int32.not_le.mp q13))])
set_option maxRecDepth 20000 in
theorem k_indexNowZ (l : Launch) (V : VX) (N : Nat) (σ : Mem) (m : Nat) (h_obj : σ m = some (ob 8 [.int 0, .ref (m + 1), .int 0, .ref (m + 2), .ref (m + 3), .ref (m + 4), .ref (m + 5), .ref (m + 6), .ref (m + 7), .ref (m + 8), .ref (m + 9), .ref (m + 10), .ref (m + 11), .ref (m + 12), .ref (m + 13), .ref (m + 14), .ref (m + 15), .int 0, .int 0, .int 0, .int 0, .int 0, .int 0, .int 0, .int 0, .int 0, .int (-1), .ref (m + 16), .ref (m + 17), .ref (m + 18), .ref (m + 19), .ref (m + 20), .int 0, .int 0, .ref (m + 21), .ref (m + 22), .int 0])) (h_s : σ (m + 16) = some (aJ V 1113 sZ)) : Ct l V yX10_indexNow cX10_indexNow 1 (some .long) 0 0 0 N σ [.ref m] (fun r τ => r = some (.long 1000) ∧ τ = σ) := by
  refine Ct.of (by decide) (Nat.le_of_ble_eq_true rfl) [(0, .ref m)] rfl (fun X hX F hQ => ?_)
  refine m_aload_n F rfl e_X10_indexNow_0 ?_
  refine m_get F e_X10_indexNow_1 fl_X10_59 h_obj rfl ?_
  refine m_sipush F (v := 644) (by decide) e_X10_indexNow_4 ?_
  refine m_aload_n F rfl e_X10_indexNow_7 ?_
  refine m_get F e_X10_indexNow_8 fl_X10_59 h_obj rfl ?_
  refine m_sipush F (v := 744) (by decide) e_X10_indexNow_11 ?_
  refine m_lald F (j := 744) e_X10_indexNow_14 h_s (by decide) (by unfold vp_in; decide) ?_
  refine Wm.toplE (w := lN 0) (sZ744) ?_
  refine m_l2i F e_X10_indexNow_15 ?_
  refine Wm.topE (w := nI 0) (lN_i 0) ?_
  refine m_iadd F e_X10_indexNow_16 ?_
  refine Wm.topE (w := nI (644 + 0)) (nI_add 644 0) ?_
  refine m_lald F (j := 644 + 0) e_X10_indexNow_17 h_s (nI_clamp (by omega)) (vp_in_nI (by omega) (by omega)) ?_
  refine Wm.toplE (w := 1000) (sZ_ix (j := 0) (by omega)) ?_
  exact m_lret F hQ e_X10_indexNow_18 (⟨rfl, rfl⟩)
set_option maxRecDepth 20000 in
theorem n_become (l : Launch) (V : VX) (N : Nat) (σ : Mem) (m : Nat) (x : Int32) (hZ : MZ V σ m) : Ct l V yX10_become cX10_become 3 (some .int) 2 0 0 N σ [.ref m, .int x] (fun r _ => r = some (.int (if x < 500 ∨ 2000 < x then -1 else 1000))) := by
  refine Ct.of (by decide) (Nat.le_of_ble_eq_true rfl) [(0, .ref m), (1, .int x)] rfl (fun X hX F hQ => ?_)
  obtain ⟨z0, z1, z2, z3, z4, z5, z6, z7, z8, z9, z10, z11, z12, z13, z14, z15, z16, z17, z18, z19, z20, z21, z22⟩ := hZ
  refine m_aload_n F rfl e_X10_become_0 ?_
  refine m_iconst F (v := 0) (by decide) e_X10_become_1 ?_
  refine m_put F e_X10_become_2 fp_X10_91 z0 rfl rfl (Nat.le_of_ble_eq_true rfl) (fs' := [.int 0, .ref (m + 1), .int 0, .ref (m + 2), .ref (m + 3), .ref (m + 4), .ref (m + 5), .ref (m + 6), .ref (m + 7), .ref (m + 8), .ref (m + 9), .ref (m + 10), .ref (m + 11), .ref (m + 12), .ref (m + 13), .ref (m + 14), .ref (m + 15), .int 0, .int 0, .int 0, .int 0, .int 0, .int 0, .int 0, .int 0, .int 0, .int (-1), .ref (m + 16), .ref (m + 17), .ref (m + 18), .ref (m + 19), .ref (m + 20), .int 0, .int 0, .ref (m + 21), .ref (m + 22), .int 0]) rfl (up_self z0).symm ?_
  refine m_iload_n F rfl e_X10_become_5 ?_
  refine m_sipush F (v := 500) (by decide) e_X10_become_6 ?_
  refine m_icmp_lt F e_X10_become_9 (fun q9 => ?_) (fun q9 => ?_)
  · refine m_iconst F (v := (-1)) (by decide) e_X10_become_19 ?_
    exact m_iret F hQ e_X10_become_20 (by rw [if_pos (Or.inl q9)])
  · refine m_iload_n F rfl e_X10_become_12 ?_
    refine m_sipush F (v := 2000) (by decide) e_X10_become_13 ?_
    refine m_icmp_le F e_X10_become_16 (fun q16 => ?_) (fun q16 => ?_)
    · refine m_aload_n F rfl e_X10_become_21 ?_
      refine m_callV F e_X10_become_22 (k_indexNowZ (x_l X) V _ _ m z0 z16) cb_X10_indexNow ml_X10_260 im_X10_indexNow se_X10_indexNow z0 rfl rfl (rest := []) rfl (Nat.le_of_ble_eq_true rfl) ⟨Nat.le_of_ble_eq_true rfl, Nat.le_of_ble_eq_true rfl⟩ ⟨Nat.le_of_ble_eq_true rfl, Nat.le_of_ble_eq_true rfl⟩ (k' := 0) (z' := 0) (N' := N) rfl rfl rfl (fun r τ hp => ?_)
      obtain ⟨rfl, rfl⟩ := hp
      refine m_l2i F e_X10_become_25 ?_
      refine Wm.topE (w := 1000) (by decide) ?_
      refine m_istore_n F (lv' := [(2, .int 1000), (0, .ref m), (1, .int x)]) e_X10_become_26 (by decide) rfl ?_
      refine m_aload_n F rfl e_X10_become_27 ?_
      refine m_callV F e_X10_become_28 (k_remembers0 (x_l X) V _ _ m 0 0 0 0 0 0  ⟨z0, z2, sZ, (fun _ => 0), (fun _ => 0), (fun _ => 0), (fun _ => 0), z16, z17, z18, z19, z20, sZ744, rfl, rfl⟩ (by omega)) cb_X10_remembers ml_X10_286 im_X10_remembers se_X10_remembers z0 rfl rfl (rest := []) rfl (Nat.le_of_ble_eq_true rfl) ⟨Nat.le_of_ble_eq_true rfl, Nat.le_of_ble_eq_true rfl⟩ ⟨Nat.le_of_ble_eq_true rfl, Nat.le_of_ble_eq_true rfl⟩ (k' := 0) (z' := 0) (N' := N) rfl rfl rfl (fun r τ40 hp => ?_)
      obtain ⟨rfl, hp⟩ := hp
      obtain ⟨ho41, hn41, f41, ga41, gf41, gi41, gk41, hs41, ha41, hfu41, him41, hk41, ef41, ea41, eu41⟩ := hp
      refine m_aload_n F rfl e_X10_become_31 ?_
      refine m_iload_n F rfl e_X10_become_32 ?_
      refine m_i2l F e_X10_become_33 ?_
      refine m_callV F e_X10_become_34 (k_becomes0 (x_l X) V _ _ m 1 0 0 0 0 0 ((x).toInt64) ⟨ho41, hn41, f41, ga41, gf41, gi41, gk41, hs41, ha41, hfu41, him41, hk41, ef41, ea41, eu41⟩ (by omega)) cb_X10_becomes ml_X10_322 im_X10_becomes se_X10_becomes ho41 rfl rfl (rest := []) rfl (Nat.le_of_ble_eq_true rfl) ⟨Nat.le_of_ble_eq_true rfl, Nat.le_of_ble_eq_true rfl⟩ ⟨Nat.le_of_ble_eq_true rfl, Nat.le_of_ble_eq_true rfl⟩ (k' := 0) (z' := 0) (N' := N) rfl rfl rfl (fun r τ42 hp => ?_)
      obtain ⟨rfl, hp⟩ := hp
      obtain ⟨ho43, hn43, f43, ga43, gf43, gi43, gk43, hs43, ha43, hfu43, him43, hk43, ef43, ea43, eu43⟩ := hp
      refine m_iload_n F rfl e_X10_become_37 ?_
      exact m_iret F hQ e_X10_become_38 (by rw [if_neg (fun h => h.elim q9 (fun h => absurd q16 (Int32.not_le.mpr h)))])
    · refine m_iconst F (v := (-1)) (by decide) e_X10_become_19 ?_
      exact m_iret F hQ e_X10_become_20 (by rw [if_pos (Or.inr (Int32.not_le.mp q16))])
set_option maxRecDepth 20000 in
theorem n_all (l : Launch) (V : VX) (N : Nat) (σ : Mem) (m : Nat) (x : Int32) (hZ : MZ V σ m) : Ct l V yX10_all cX10_all 4 (some .long) 3 0 0 N σ [.ref m, .int x] (fun r _ => r = some (.long (if x < 0 ∨ 72 < x then -1 else 0))) := by
  refine Ct.of (by decide) (Nat.le_of_ble_eq_true rfl) [(0, .ref m), (1, .int x)] rfl (fun X hX F hQ => ?_)
  obtain ⟨z0, z1, z2, z3, z4, z5, z6, z7, z8, z9, z10, z11, z12, z13, z14, z15, z16, z17, z18, z19, z20, z21, z22⟩ := hZ
  refine m_aload_n F rfl e_X10_all_0 ?_
  refine m_iconst F (v := 0) (by decide) e_X10_all_1 ?_
  refine m_put F e_X10_all_2 fp_X10_91 z0 rfl rfl (Nat.le_of_ble_eq_true rfl) (fs' := [.int 0, .ref (m + 1), .int 0, .ref (m + 2), .ref (m + 3), .ref (m + 4), .ref (m + 5), .ref (m + 6), .ref (m + 7), .ref (m + 8), .ref (m + 9), .ref (m + 10), .ref (m + 11), .ref (m + 12), .ref (m + 13), .ref (m + 14), .ref (m + 15), .int 0, .int 0, .int 0, .int 0, .int 0, .int 0, .int 0, .int 0, .int 0, .int (-1), .ref (m + 16), .ref (m + 17), .ref (m + 18), .ref (m + 19), .ref (m + 20), .int 0, .int 0, .ref (m + 21), .ref (m + 22), .int 0]) rfl (up_self z0).symm ?_
  refine m_iload_n F rfl e_X10_all_5 ?_
  by_cases hx9 : x < 0 ∨ 72 < x
  · refine m_callS F e_X10_all_6 (k_areAhead (x_l X) V _ _ x) cb_X10_areAhead ml_X10_326 sm_X10_areAhead rfl (rest := []) rfl (Nat.le_of_ble_eq_true rfl) ⟨Nat.le_of_ble_eq_true rfl, Nat.le_of_ble_eq_true rfl⟩ ⟨Nat.le_of_ble_eq_true rfl, Nat.le_of_ble_eq_true rfl⟩ (k' := 0) (z' := 0) (N' := N) rfl rfl rfl (fun r τ hp => ?_)
    obtain ⟨rfl, rfl⟩ := hp
    refine Wm.topE (w := 0) (if_pos hx9) ?_
    refine m_if_ne F e_X10_all_9 (fun q => absurd (by decide) q) (fun _ => ?_)
    refine m_ldc2 F kc_X10_245 e_X10_all_12 ?_
    exact m_lret F hQ e_X10_all_15 (by rw [if_pos hx9])
  · obtain ⟨k, hk, ek⟩ := nI_of2 (x := x) (M := 72) (n := 72) (by decide) (fun h => hx9 (Or.inl h)) (Int32.not_lt.mp (fun h => hx9 (Or.inr h)))
    subst ek
    refine m_callS F e_X10_all_6 (k_areAhead (x_l X) V _ _ (nI k)) cb_X10_areAhead ml_X10_326 sm_X10_areAhead rfl (rest := []) rfl (Nat.le_of_ble_eq_true rfl) ⟨Nat.le_of_ble_eq_true rfl, Nat.le_of_ble_eq_true rfl⟩ ⟨Nat.le_of_ble_eq_true rfl, Nat.le_of_ble_eq_true rfl⟩ (k' := 0) (z' := 0) (N' := N) rfl rfl rfl (fun r τ hp => ?_)
    obtain ⟨rfl, rfl⟩ := hp
    refine Wm.topE (w := 1) (if_neg hx9) ?_
    refine m_if_ne F e_X10_all_9 (fun _ => ?_) (fun q => absurd q (by decide))
    refine m_aload_n F rfl e_X10_all_16 ?_
    refine m_iload_n F rfl e_X10_all_17 ?_
    refine m_callV F e_X10_all_18 (k_ahead0 (x_l X) V _ _ m 0 0 0 0 0 0 k ⟨z0, z2, sZ, (fun _ => 0), (fun _ => 0), (fun _ => 0), (fun _ => 0), z16, z17, z18, z19, z20, sZ744, rfl, rfl⟩ (by omega)) cb_X10_ahead ml_X10_329 im_X10_ahead se_X10_ahead z0 rfl rfl (rest := []) rfl (Nat.le_of_ble_eq_true rfl) ⟨Nat.le_of_ble_eq_true rfl, Nat.le_of_ble_eq_true rfl⟩ ⟨Nat.le_of_ble_eq_true rfl, Nat.le_of_ble_eq_true rfl⟩ (k' := 0) (z' := 0) (N' := N) rfl rfl rfl (fun r τ44 hp => ?_)
    obtain ⟨rfl, hp⟩ := hp
    obtain ⟨ho45, hn45, f45, ga45, gf45, gi45, gk45, hs45, ha45, hfu45, him45, hk45, ef45, ea45, eu45⟩ := hp
    refine m_aload_n F rfl e_X10_all_21 ?_
    refine m_callV F e_X10_all_22 (k_owedAll0 (x_l X) V _ _ m 0 0 0 0 0 0 0 0 0 0 0 (-1) 0 0 0  ho45 hn45 ) cb_X10_owedAll ml_X10_335 im_X10_owedAll se_X10_owedAll ho45 rfl rfl (rest := []) rfl (Nat.le_of_ble_eq_true rfl) ⟨Nat.le_of_ble_eq_true rfl, Nat.le_of_ble_eq_true rfl⟩ ⟨Nat.le_of_ble_eq_true rfl, Nat.le_of_ble_eq_true rfl⟩ (k' := 0) (z' := 0) (N' := N) rfl rfl rfl (fun r τ hp => ?_)
    obtain ⟨rfl, rfl⟩ := hp
    refine m_lstore_n F (lv' := [(2, .long 0), (0, .ref m), (1, .int (nI k))]) e_X10_all_25 (by decide) rfl ?_
    refine m_aload_n F rfl e_X10_all_26 ?_
    refine m_callV F e_X10_all_27 (k_back1 (x_l X) V _ _ m 0 0 0 (0 + k) 0 0  ⟨ho45, hn45, f45, ga45, gf45, gi45, gk45, hs45, ha45, hfu45, him45, hk45, ef45, ea45, eu45⟩ ) cb_X10_back1 ml_X10_332 im_X10_back1 se_X10_back1 ho45 rfl rfl (rest := []) rfl (Nat.le_of_ble_eq_true rfl) ⟨Nat.le_of_ble_eq_true rfl, Nat.le_of_ble_eq_true rfl⟩ ⟨Nat.le_of_ble_eq_true rfl, Nat.le_of_ble_eq_true rfl⟩ (k' := 0) (z' := 0) (N' := N) rfl rfl rfl (fun r τ46 hp => ?_)
    obtain ⟨rfl, hp⟩ := hp
    obtain ⟨ho47, hn47, f47, ga47, gf47, gi47, gk47, hs47, ha47, hfu47, him47, hk47, ef47, ea47, eu47⟩ := hp
    refine m_lload_n F rfl e_X10_all_30 ?_
    exact m_lret F hQ e_X10_all_31 (by rw [if_neg hx9])
theorem lp_peak0 {V : VX} {X : MX} {N : Nat} {Post : Option Value → Mem → Prop} (F : Fx V X yX10_peak cX10_peak 8 (some .long) (rmd 2 0 0)) (hQ : Rt V X 0 0 N Post) {m : Nat} {x : Int32} (hp : ∀ τ : Mem, Post (some (.long (-2))) τ) : ∀ (n i : Nat) (τ : Mem), i ≤ 72 → 72 - i < n → ME V τ m 0 0 0 i 0 0 → Wm V X 8 N τ 0 0 40 [(5, .int (nI i)), (0, .ref m), (1, .int x), (2, .long 0), (4, .int (-2))] [] := by
  intro n
  induction n with
  | zero => intro i τ h1 h2; exact absurd h2 (by omega)
  | succ n ih =>
    intro i τ h1 h2 hM
    obtain ⟨ho48, hn48, f48, ga48, gf48, gi48, gk48, hs48, ha48, hfu48, him48, hk48, ef48, ea48, eu48⟩ := hM
    refine m_iload F rfl e_X10_peak_40 ?_
    refine m_bipush F (v := 72) (by decide) e_X10_peak_42 ?_
    refine m_icmp_ge F e_X10_peak_44 (fun q44 => ?_) (fun q44 => ?_)
    · have c44 : i ≥ 72 := (nI_leI (a := 72) (b := i) (by omega) (by omega)).mp q44
      refine m_aload_n F rfl e_X10_peak_105 ?_
      refine m_callV F e_X10_peak_106 (k_back1 (x_l X) V _ _ m 0 0 0 i 0 0  ⟨ho48, hn48, f48, ga48, gf48, gi48, gk48, hs48, ha48, hfu48, him48, hk48, ef48, ea48, eu48⟩ ) cb_X10_back1 ml_X10_332 im_X10_back1 se_X10_back1 ho48 rfl rfl (rest := []) rfl (Nat.le_of_ble_eq_true rfl) ⟨Nat.le_of_ble_eq_true rfl, Nat.le_of_ble_eq_true rfl⟩ ⟨Nat.le_of_ble_eq_true rfl, Nat.le_of_ble_eq_true rfl⟩ (k' := 0) (z' := 0) (N' := N) rfl rfl rfl (fun r τ49 hp => ?_)
      obtain ⟨rfl, hp⟩ := hp
      obtain ⟨ho50, hn50, f50, ga50, gf50, gi50, gk50, hs50, ha50, hfu50, him50, hk50, ef50, ea50, eu50⟩ := hp
      refine m_iload F rfl e_X10_peak_109 ?_
      refine m_bipush F (v := (-2)) (by decide) e_X10_peak_111 ?_
      refine m_icmp_eq F e_X10_peak_113 (fun _ => ?_) (fun q => absurd (by decide) q)
      refine m_iload F rfl e_X10_peak_120 ?_
      refine m_i2l F e_X10_peak_122 ?_
      refine Wm.toplE (w := (-2)) (by decide) ?_
      refine m_goto F e_X10_peak_123 ?_
      exact m_lret F hQ e_X10_peak_127 (hp _)
    · have c44 : i < 72 := by have hh := mt (nI_leI (a := 72) (b := i) (by omega) (by omega)).mpr q44; omega
      refine m_aload_n F rfl e_X10_peak_47 ?_
      refine m_get F e_X10_peak_48 fl_X10_59 ho48 rfl ?_
      refine m_sipush F (v := 744) (by decide) e_X10_peak_51 ?_
      refine m_lald F (j := 744) e_X10_peak_54 hs48 (by decide) (by unfold vp_in; decide) ?_
      refine Wm.toplE (w := lN i) (ef48) ?_
      refine m_ldc2 F kc_X10_284 e_X10_peak_55 ?_
      refine m_lcmp F e_X10_peak_58 ?_
      refine m_if_ge F e_X10_peak_59 (fun q59 => ?_) (fun q59 => ?_)
      · have c59 : i ≥ 99 := (lN_le (a := 99) (b := i) (by omega) (by omega)).mp ((lg_cmp_ge _ _).mp q59)
        exfalso; omega
      · have c59 : i < 99 := by have hh := mt (fun h9 => (lg_cmp_ge (lN i) (lN 99)).mpr ((lN_le (a := 99) (b := i) (by omega) (by omega)).mpr h9)) q59; omega
        refine m_aload_n F rfl e_X10_peak_62 ?_
        refine m_callV F e_X10_peak_63 (k_paidAll0 (x_l X) V _ _ m 0 0 0 0 0 0 0 0 0 0 0 (-1) (nI 0) 0 0  ho48 hn48 ) cb_X10_paidAll ml_X10_343 im_X10_paidAll se_X10_paidAll ho48 rfl rfl (rest := []) rfl (Nat.le_of_ble_eq_true rfl) ⟨Nat.le_of_ble_eq_true rfl, Nat.le_of_ble_eq_true rfl⟩ ⟨Nat.le_of_ble_eq_true rfl, Nat.le_of_ble_eq_true rfl⟩ (k' := 0) (z' := 0) (N' := N) rfl rfl rfl (fun r τ hp => ?_)
        obtain ⟨rfl, rfl⟩ := hp
        refine m_lstore F (lv' := [(6, .long 0), (5, .int (nI i)), (0, .ref m), (1, .int x), (2, .long 0), (4, .int (-2))]) e_X10_peak_66 (by decide) rfl ?_
        refine m_aload_n F rfl e_X10_peak_68 ?_
        refine m_callV F e_X10_peak_69 (k_periodGoes0 (x_l X) V _ _ m 0 0 0 i 0 0  ⟨ho48, hn48, f48, ga48, gf48, gi48, gk48, hs48, ha48, hfu48, him48, hk48, ef48, ea48, eu48⟩ ) cb_X10_periodGoes ml_X10_289 im_X10_periodGoes se_X10_periodGoes ho48 rfl rfl (rest := []) rfl (Nat.le_of_ble_eq_true rfl) ⟨Nat.le_of_ble_eq_true rfl, Nat.le_of_ble_eq_true rfl⟩ ⟨Nat.le_of_ble_eq_true rfl, Nat.le_of_ble_eq_true rfl⟩ (k' := 0) (z' := 0) (N' := N) rfl rfl rfl (fun r τ51 hp => ?_)
        obtain ⟨rfl, hp⟩ := hp
        obtain ⟨ho52, hn52, f52, ga52, gf52, gi52, gk52, hs52, ha52, hfu52, him52, hk52, ef52, ea52, eu52⟩ := hp
        refine m_aload_n F rfl e_X10_peak_72 ?_
        refine m_callV F e_X10_peak_73 (k_paidAll0 (x_l X) V _ _ m 0 0 0 0 0 0 0 0 0 0 0 (-1) (nI 0) 0 0  ho52 hn52 ) cb_X10_paidAll ml_X10_343 im_X10_paidAll se_X10_paidAll ho52 rfl rfl (rest := []) rfl (Nat.le_of_ble_eq_true rfl) ⟨Nat.le_of_ble_eq_true rfl, Nat.le_of_ble_eq_true rfl⟩ ⟨Nat.le_of_ble_eq_true rfl, Nat.le_of_ble_eq_true rfl⟩ (k' := 0) (z' := 0) (N' := N) rfl rfl rfl (fun r τ hp => ?_)
        obtain ⟨rfl, rfl⟩ := hp
        refine m_lload F rfl e_X10_peak_76 ?_
        refine m_lsub F e_X10_peak_78 ?_
        refine Wm.toplE (w := 0) (by decide) ?_
        refine m_lload_n F rfl e_X10_peak_79 ?_
        refine m_lcmp F e_X10_peak_80 ?_
        refine Wm.topE (w := 0) (by decide) ?_
        refine m_if_gt F e_X10_peak_81 (fun q => absurd q (by decide)) (fun _ => ?_)
        refine m_goto F e_X10_peak_84 ?_
        refine m_iinc F (v := nI (i + 1)) (lv' := [(5, .int (nI (i + 1))), (6, .long 0), (0, .ref m), (1, .int x), (2, .long 0), (4, .int (-2))]) e_X10_peak_99 rfl (nI_add i 1) (by decide) rfl ?_
        refine m_goto F e_X10_peak_102 ?_
        refine Wm.lvsub (lv' := [(5, .int (nI (i + 1))), (0, .ref m), (1, .int x), (2, .long 0), (4, .int (-2))]) ?_ [0, 2, 3, 4, 5] rfl
        exact ih (i + 1) _ (by omega) (by omega) ⟨ho52, hn52, f52, ga52, gf52, gi52, gk52, hs52, ha52, hfu52, him52, hk52, ef52, ea52, eu52⟩
set_option maxRecDepth 20000 in
theorem n_peak (l : Launch) (V : VX) (N : Nat) (σ : Mem) (m : Nat) (x : Int32) (hZ : MZ V σ m) : Ct l V yX10_peak cX10_peak 8 (some .long) 2 0 0 N σ [.ref m, .int x] (fun r _ => r = some (.long (if x < 0 ∨ 1 < x then -1 else -2))) := by
  refine Ct.of (by decide) (Nat.le_of_ble_eq_true rfl) [(0, .ref m), (1, .int x)] rfl (fun X hX F hQ => ?_)
  obtain ⟨z0, z1, z2, z3, z4, z5, z6, z7, z8, z9, z10, z11, z12, z13, z14, z15, z16, z17, z18, z19, z20, z21, z22⟩ := hZ
  refine m_aload_n F rfl e_X10_peak_0 ?_
  refine m_iconst F (v := 0) (by decide) e_X10_peak_1 ?_
  refine m_put F e_X10_peak_2 fp_X10_91 z0 rfl rfl (Nat.le_of_ble_eq_true rfl) (fs' := [.int 0, .ref (m + 1), .int 0, .ref (m + 2), .ref (m + 3), .ref (m + 4), .ref (m + 5), .ref (m + 6), .ref (m + 7), .ref (m + 8), .ref (m + 9), .ref (m + 10), .ref (m + 11), .ref (m + 12), .ref (m + 13), .ref (m + 14), .ref (m + 15), .int 0, .int 0, .int 0, .int 0, .int 0, .int 0, .int 0, .int 0, .int 0, .int (-1), .ref (m + 16), .ref (m + 17), .ref (m + 18), .ref (m + 19), .ref (m + 20), .int 0, .int 0, .ref (m + 21), .ref (m + 22), .int 0]) rfl (up_self z0).symm ?_
  refine m_iload_n F rfl e_X10_peak_5 ?_
  refine m_if_lt F e_X10_peak_6 (fun q6 => ?_) (fun q6 => ?_)
  · refine m_ldc2 F kc_X10_245 e_X10_peak_14 ?_
    exact m_lret F hQ e_X10_peak_17 (by rw [if_pos (Or.inl q6)])
  · refine m_iload_n F rfl e_X10_peak_9 ?_
    refine m_iconst F (v := 1) (by decide) e_X10_peak_10 ?_
    refine m_icmp_le F e_X10_peak_11 (fun q11 => ?_) (fun q11 => ?_)
    · refine m_aload_n F rfl e_X10_peak_18 ?_
      refine m_get F e_X10_peak_19 fl_X10_59 z0 rfl ?_
      refine m_iconst F (v := 0) (by decide) e_X10_peak_22 ?_
      refine m_aload_n F rfl e_X10_peak_23 ?_
      refine m_get F e_X10_peak_24 fl_X10_63 z0 rfl ?_
      refine m_iconst F (v := 0) (by decide) e_X10_peak_27 ?_
      refine m_callS F e_X10_peak_28 (k_copies (x_l X) V _ _ (m + 16) (m + 17) 1113 1113 0 0 sZ (fun _ => 0) (by omega) (by omega) (by omega) (by omega) (by omega) z16 z17) cb_X10_copies ml_X10_230 sm_X10_copies rfl (rest := []) rfl (Nat.le_of_ble_eq_true rfl) ⟨Nat.le_of_ble_eq_true rfl, Nat.le_of_ble_eq_true rfl⟩ ⟨Nat.le_of_ble_eq_true rfl, Nat.le_of_ble_eq_true rfl⟩ (k' := 0) (z' := 0) (N' := N) rfl rfl rfl (fun r τ hp => ?_)
      obtain ⟨rfl, rfl⟩ := hp
      refine m_lconst F (v := 0) (by decide) e_X10_peak_31 ?_
      refine m_lstore_n F (lv' := [(2, .long 0), (0, .ref m), (1, .int x)]) e_X10_peak_32 (by decide) rfl ?_
      refine m_bipush F (v := (-2)) (by decide) e_X10_peak_33 ?_
      refine m_istore F (lv' := [(4, .int (-2)), (2, .long 0), (0, .ref m), (1, .int x)]) e_X10_peak_35 (by decide) rfl ?_
      refine m_iconst F (v := 0) (by decide) e_X10_peak_37 ?_
      refine m_istore F (lv' := [(5, .int 0), (4, .int (-2)), (2, .long 0), (0, .ref m), (1, .int x)]) e_X10_peak_38 (by decide) rfl ?_
      refine Wm.lvsub (lv' := [(5, .int 0), (0, .ref m), (1, .int x), (2, .long 0), (4, .int (-2))]) ?_ [0, 3, 4, 2, 1] rfl
      exact lp_peak0 F hQ (fun τ => by rw [if_neg (fun h => h.elim q6 (fun h => absurd q11 (Int32.not_le.mpr h)))]) 73 0 _ (by omega) (by omega) ⟨(ru_ne (by omega) z0), (ru_ne (by omega) z2), sZ, (cpJ sZ (fun _ => 0) 0 0 1113), (fun _ => 0), (fun _ => 0), (fun _ => 0), (ru_ne (by omega) z16), ru_eq, (ru_ne (by omega) z18), (ru_ne (by omega) z19), (ru_ne (by omega) z20), sZ744, ((cpJ_in (by omega) (by omega)).trans sZ744), rfl⟩
    · refine m_ldc2 F kc_X10_245 e_X10_peak_14 ?_
      exact m_lret F hQ e_X10_peak_17 (by rw [if_pos (Or.inr (Int32.not_le.mp q11))])
set_option maxRecDepth 20000 in
theorem n_cash (l : Launch) (V : VX) (N : Nat) (σ : Mem) (m : Nat) (x y : Int32) (hZ : MZ V σ m) : Ct l V yX10_cash cX10_cash 7 (some .long) 3 0 0 N σ [.ref m, .int x, .int y] (fun r _ => r = some (.long (if x < 0 ∨ 71 < y ∨ y < x then -1 else 0))) := by
  refine Ct.of (by decide) (Nat.le_of_ble_eq_true rfl) [(0, .ref m), (1, .int x), (2, .int y)] rfl (fun X hX F hQ => ?_)
  obtain ⟨z0, z1, z2, z3, z4, z5, z6, z7, z8, z9, z10, z11, z12, z13, z14, z15, z16, z17, z18, z19, z20, z21, z22⟩ := hZ
  refine m_aload_n F rfl e_X10_cash_0 ?_
  refine m_iconst F (v := 0) (by decide) e_X10_cash_1 ?_
  refine m_put F e_X10_cash_2 fp_X10_91 z0 rfl rfl (Nat.le_of_ble_eq_true rfl) (fs' := [.int 0, .ref (m + 1), .int 0, .ref (m + 2), .ref (m + 3), .ref (m + 4), .ref (m + 5), .ref (m + 6), .ref (m + 7), .ref (m + 8), .ref (m + 9), .ref (m + 10), .ref (m + 11), .ref (m + 12), .ref (m + 13), .ref (m + 14), .ref (m + 15), .int 0, .int 0, .int 0, .int 0, .int 0, .int 0, .int 0, .int 0, .int 0, .int (-1), .ref (m + 16), .ref (m + 17), .ref (m + 18), .ref (m + 19), .ref (m + 20), .int 0, .int 0, .ref (m + 21), .ref (m + 22), .int 0]) rfl (up_self z0).symm ?_
  refine m_iload_n F rfl e_X10_cash_5 ?_
  refine m_if_lt F e_X10_cash_6 (fun q6 => ?_) (fun q6 => ?_)
  · refine m_ldc2 F kc_X10_245 e_X10_cash_20 ?_
    exact m_lret F hQ e_X10_cash_23 (by rw [if_pos (Or.inl q6)])
  · refine m_iload_n F rfl e_X10_cash_9 ?_
    refine m_bipush F (v := 71) (by decide) e_X10_cash_10 ?_
    refine m_icmp_gt F e_X10_cash_12 (fun q12 => ?_) (fun q12 => ?_)
    · refine m_ldc2 F kc_X10_245 e_X10_cash_20 ?_
      exact m_lret F hQ e_X10_cash_23 (by rw [if_pos (Or.inr (Or.inl q12))])
    · refine m_iload_n F rfl e_X10_cash_15 ?_
      refine m_iload_n F rfl e_X10_cash_16 ?_
      refine m_icmp_le F e_X10_cash_17 (fun q17 => ?_) (fun q17 => ?_)
      · have hx0 : ¬ x < 0 := q6
        have hy0 : ¬ y < 0 := fun h => q6 (Int32.lt_of_le_of_lt q17 h)
        obtain ⟨b, hb, eb⟩ := nI_of2 (x := y) (M := 71) (n := 71) (by decide) hy0 (Int32.not_lt.mp q12)
        obtain ⟨a, ha, ea9⟩ := nI_of2 (x := x) (M := 71) (n := 71) (by decide) hx0 (Int32.le_trans q17 (Int32.not_lt.mp q12))
        subst eb; subst ea9
        refine m_aload_n F rfl e_X10_cash_24 ?_
        refine m_iload_n F rfl e_X10_cash_25 ?_
        refine m_callV F e_X10_cash_26 (k_ahead0 (x_l X) V _ _ m 0 0 0 0 0 0 a ⟨z0, z2, sZ, (fun _ => 0), (fun _ => 0), (fun _ => 0), (fun _ => 0), z16, z17, z18, z19, z20, sZ744, rfl, rfl⟩ (by omega)) cb_X10_ahead ml_X10_329 im_X10_ahead se_X10_ahead z0 rfl rfl (rest := []) rfl (Nat.le_of_ble_eq_true rfl) ⟨Nat.le_of_ble_eq_true rfl, Nat.le_of_ble_eq_true rfl⟩ ⟨Nat.le_of_ble_eq_true rfl, Nat.le_of_ble_eq_true rfl⟩ (k' := 0) (z' := 0) (N' := N) rfl rfl rfl (fun r τ53 hp => ?_)
        obtain ⟨rfl, hp⟩ := hp
        obtain ⟨ho54, hn54, f54, ga54, gf54, gi54, gk54, hs54, ha54, hfu54, him54, hk54, ef54, ea54, eu54⟩ := hp
        refine m_aload_n F rfl e_X10_cash_29 ?_
        refine m_callV F e_X10_cash_30 (k_paidAll0 (x_l X) V _ _ m 0 0 0 0 0 0 0 0 0 0 0 (-1) 0 0 0  ho54 hn54 ) cb_X10_paidAll ml_X10_343 im_X10_paidAll se_X10_paidAll ho54 rfl rfl (rest := []) rfl (Nat.le_of_ble_eq_true rfl) ⟨Nat.le_of_ble_eq_true rfl, Nat.le_of_ble_eq_true rfl⟩ ⟨Nat.le_of_ble_eq_true rfl, Nat.le_of_ble_eq_true rfl⟩ (k' := 0) (z' := 0) (N' := N) rfl rfl rfl (fun r τ hp => ?_)
        obtain ⟨rfl, rfl⟩ := hp
        refine m_lstore_n F (lv' := [(3, .long 0), (0, .ref m), (1, .int (nI a)), (2, .int (nI b))]) e_X10_cash_33 (by decide) rfl ?_
        refine m_aload_n F rfl e_X10_cash_34 ?_
        refine m_callV F e_X10_cash_35 (k_back1 (x_l X) V _ _ m 0 0 0 (0 + a) 0 0  ⟨ho54, hn54, f54, ga54, gf54, gi54, gk54, hs54, ha54, hfu54, him54, hk54, ef54, ea54, eu54⟩ ) cb_X10_back1 ml_X10_332 im_X10_back1 se_X10_back1 ho54 rfl rfl (rest := []) rfl (Nat.le_of_ble_eq_true rfl) ⟨Nat.le_of_ble_eq_true rfl, Nat.le_of_ble_eq_true rfl⟩ ⟨Nat.le_of_ble_eq_true rfl, Nat.le_of_ble_eq_true rfl⟩ (k' := 0) (z' := 0) (N' := N) rfl rfl rfl (fun r τ55 hp => ?_)
        obtain ⟨rfl, hp⟩ := hp
        obtain ⟨ho56, hn56, f56, ga56, gf56, gi56, gk56, hs56, ha56, hfu56, him56, hk56, ef56, ea56, eu56⟩ := hp
        refine m_aload_n F rfl e_X10_cash_38 ?_
        refine m_iload_n F rfl e_X10_cash_39 ?_
        refine m_iconst F (v := 1) (by decide) e_X10_cash_40 ?_
        refine m_iadd F e_X10_cash_41 ?_
        refine Wm.topE (w := nI (b + 1)) (nI_add b 1) ?_
        refine m_callV F e_X10_cash_42 (k_ahead0 (x_l X) V _ _ m 0 0 0 0 0 0 (b + 1) ⟨ho56, hn56, f56, ga56, gf56, gi56, gk56, hs56, ha56, hfu56, him56, hk56, ef56, ea56, eu56⟩ (by omega)) cb_X10_ahead ml_X10_329 im_X10_ahead se_X10_ahead ho56 rfl rfl (rest := []) rfl (Nat.le_of_ble_eq_true rfl) ⟨Nat.le_of_ble_eq_true rfl, Nat.le_of_ble_eq_true rfl⟩ ⟨Nat.le_of_ble_eq_true rfl, Nat.le_of_ble_eq_true rfl⟩ (k' := 0) (z' := 0) (N' := N) rfl rfl rfl (fun r τ57 hp => ?_)
        obtain ⟨rfl, hp⟩ := hp
        obtain ⟨ho58, hn58, f58, ga58, gf58, gi58, gk58, hs58, ha58, hfu58, him58, hk58, ef58, ea58, eu58⟩ := hp
        refine m_aload_n F rfl e_X10_cash_45 ?_
        refine m_callV F e_X10_cash_46 (k_paidAll0 (x_l X) V _ _ m 0 0 0 0 0 0 0 0 0 0 0 (-1) 0 0 0  ho58 hn58 ) cb_X10_paidAll ml_X10_343 im_X10_paidAll se_X10_paidAll ho58 rfl rfl (rest := []) rfl (Nat.le_of_ble_eq_true rfl) ⟨Nat.le_of_ble_eq_true rfl, Nat.le_of_ble_eq_true rfl⟩ ⟨Nat.le_of_ble_eq_true rfl, Nat.le_of_ble_eq_true rfl⟩ (k' := 0) (z' := 0) (N' := N) rfl rfl rfl (fun r τ hp => ?_)
        obtain ⟨rfl, rfl⟩ := hp
        refine m_lstore F (lv' := [(5, .long 0), (3, .long 0), (0, .ref m), (1, .int (nI a)), (2, .int (nI b))]) e_X10_cash_49 (by decide) rfl ?_
        refine m_aload_n F rfl e_X10_cash_51 ?_
        refine m_callV F e_X10_cash_52 (k_back1 (x_l X) V _ _ m 0 0 0 (0 + (b + 1)) 0 0  ⟨ho58, hn58, f58, ga58, gf58, gi58, gk58, hs58, ha58, hfu58, him58, hk58, ef58, ea58, eu58⟩ ) cb_X10_back1 ml_X10_332 im_X10_back1 se_X10_back1 ho58 rfl rfl (rest := []) rfl (Nat.le_of_ble_eq_true rfl) ⟨Nat.le_of_ble_eq_true rfl, Nat.le_of_ble_eq_true rfl⟩ ⟨Nat.le_of_ble_eq_true rfl, Nat.le_of_ble_eq_true rfl⟩ (k' := 0) (z' := 0) (N' := N) rfl rfl rfl (fun r τ59 hp => ?_)
        obtain ⟨rfl, hp⟩ := hp
        obtain ⟨ho60, hn60, f60, ga60, gf60, gi60, gk60, hs60, ha60, hfu60, him60, hk60, ef60, ea60, eu60⟩ := hp
        refine m_lload F rfl e_X10_cash_55 ?_
        refine m_lload_n F rfl e_X10_cash_57 ?_
        refine m_lsub F e_X10_cash_58 ?_
        refine Wm.toplE (w := 0) (by decide) ?_
        exact m_lret F hQ e_X10_cash_59 (by rw [if_neg (fun h => h.elim q6 (fun h => h.elim q12 (fun h => absurd q17 (Int32.not_le.mpr h))))])
      · refine m_ldc2 F kc_X10_245 e_X10_cash_20 ?_
        exact m_lret F hQ e_X10_cash_23 (by rw [if_pos (Or.inr (Or.inr (Int32.not_le.mp q17)))])
