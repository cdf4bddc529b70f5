theorem e_X10_amount_0 : DC cX10_amount 0 1 1 (.aload_n 0) := ⟨by decide +kernel, rfl⟩
theorem e_X10_amount_1 : DC cX10_amount 1 1 2 (.iconst 0) := ⟨by decide +kernel, rfl⟩
theorem e_X10_amount_2 : DC cX10_amount 2 3 5 (.putfield 91) := ⟨by decide +kernel, rfl⟩
theorem fp_X10_91 : FP RX10 91 8 0 false .int := ⟨RX10, TX10, 37, tyX10, rfl, by decide, uw_8, tb_in 1460 (by decide +kernel) (by decide +kernel), rfl, rfl, by decide +kernel, tyX10_ok, nmX10⟩
theorem e_X10_amount_5 : DC cX10_amount 5 1 6 (.aload_n 0) := ⟨by decide +kernel, rfl⟩
theorem e_X10_amount_6 : DC cX10_amount 6 1 7 (.iload_n 1) := ⟨by decide +kernel, rfl⟩
theorem e_X10_amount_7 : DC cX10_amount 7 3 10 (.invokevirtual 292) := ⟨by decide +kernel, rfl⟩
theorem e_X10_amount_10 : DJ cX10_amount 10 40 13 (.ifCond .eq) := DJ.mk 30 (by decide +kernel) (by decide) rfl
theorem e_X10_amount_40 : DC cX10_amount 40 3 43 (.ldc2_w 245) := ⟨by decide +kernel, rfl⟩
theorem kc_X10_245 : Cond.constantLong RX10 245 (-1) ∈ tb := tb_in 1445 (by decide +kernel) (by decide +kernel)
theorem e_X10_amount_43 : DC cX10_amount 43 1 44 (.lreturn) := ⟨by decide +kernel, rfl⟩
theorem e_X10_due_0 : DC cX10_due 0 1 1 (.aload_n 0) := ⟨by decide +kernel, rfl⟩
theorem e_X10_due_1 : DC cX10_due 1 1 2 (.iconst 0) := ⟨by decide +kernel, rfl⟩
theorem e_X10_due_2 : DC cX10_due 2 3 5 (.putfield 91) := ⟨by decide +kernel, rfl⟩
theorem e_X10_due_5 : DC cX10_due 5 1 6 (.aload_n 0) := ⟨by decide +kernel, rfl⟩
theorem e_X10_due_6 : DC cX10_due 6 1 7 (.iload_n 1) := ⟨by decide +kernel, rfl⟩
theorem e_X10_due_7 : DC cX10_due 7 1 8 (.iload_n 2) := ⟨by decide +kernel, rfl⟩
theorem e_X10_due_8 : DC cX10_due 8 3 11 (.invokevirtual 295) := ⟨by decide +kernel, rfl⟩
theorem cb_X10_isOwn : CB yX10_isOwn cX10_isOwn 3 (some .boolean) 2 := ⟨tb_in 1775 (by decide +kernel) (by decide +kernel), tb_in 10 (by decide +kernel) (by decide +kernel), by decide +kernel⟩
theorem ml_X10_295 : Cond.methodLink RX10 295 yX10_isOwn ∈ tb := tb_in 1772 (by decide +kernel) (by decide +kernel)
theorem im_X10_isOwn : Cond.instanceMethod yX10_isOwn ∈ tb := tb_in 1774 (by decide +kernel) (by decide +kernel)
theorem se_X10_isOwn : Cond.selects (yX10_isOwn).cls yX10_isOwn yX10_isOwn ∈ tb := tb_sel 48 (by decide +kernel) (by decide +kernel)
theorem e_X10_due_11 : DJ cX10_due 11 34 14 (.ifCond .eq) := DJ.mk 23 (by decide +kernel) (by decide) rfl
theorem e_X10_due_34 : DC cX10_due 34 3 37 (.ldc2_w 245) := ⟨by decide +kernel, rfl⟩
theorem e_X10_due_37 : DC cX10_due 37 1 38 (.lreturn) := ⟨by decide +kernel, rfl⟩
theorem e_X10_worth_0 : DC cX10_worth 0 1 1 (.aload_n 0) := ⟨by decide +kernel, rfl⟩
theorem e_X10_worth_1 : DC cX10_worth 1 1 2 (.iconst 0) := ⟨by decide +kernel, rfl⟩
theorem e_X10_worth_2 : DC cX10_worth 2 3 5 (.putfield 91) := ⟨by decide +kernel, rfl⟩
theorem e_X10_worth_5 : DC cX10_worth 5 1 6 (.aload_n 0) := ⟨by decide +kernel, rfl⟩
theorem e_X10_worth_6 : DC cX10_worth 6 1 7 (.iload_n 1) := ⟨by decide +kernel, rfl⟩
theorem e_X10_worth_7 : DC cX10_worth 7 1 8 (.iload_n 2) := ⟨by decide +kernel, rfl⟩
theorem e_X10_worth_8 : DC cX10_worth 8 3 11 (.invokevirtual 295) := ⟨by decide +kernel, rfl⟩
theorem e_X10_worth_11 : DJ cX10_worth 11 41 14 (.ifCond .eq) := DJ.mk 30 (by decide +kernel) (by decide) rfl
theorem e_X10_worth_41 : DC cX10_worth 41 3 44 (.ldc2_w 245) := ⟨by decide +kernel, rfl⟩
theorem e_X10_worth_44 : DC cX10_worth 44 1 45 (.lreturn) := ⟨by decide +kernel, rfl⟩
theorem e_X10_plan_0 : DC cX10_plan 0 1 1 (.aload_n 0) := ⟨by decide +kernel, rfl⟩
theorem e_X10_plan_1 : DC cX10_plan 1 1 2 (.iconst 0) := ⟨by decide +kernel, rfl⟩
theorem e_X10_plan_2 : DC cX10_plan 2 3 5 (.putfield 91) := ⟨by decide +kernel, rfl⟩
theorem e_X10_plan_5 : DC cX10_plan 5 1 6 (.aload_n 0) := ⟨by decide +kernel, rfl⟩
theorem e_X10_plan_6 : DC cX10_plan 6 1 7 (.iload_n 1) := ⟨by decide +kernel, rfl⟩
theorem e_X10_plan_7 : DC cX10_plan 7 3 10 (.invokevirtual 292) := ⟨by decide +kernel, rfl⟩
theorem e_X10_plan_10 : DJ cX10_plan 10 29 13 (.ifCond .eq) := DJ.mk 19 (by decide +kernel) (by decide) rfl
theorem e_X10_plan_29 : DC cX10_plan 29 3 32 (.ldc2_w 245) := ⟨by decide +kernel, rfl⟩
theorem e_X10_plan_32 : DC cX10_plan 32 1 33 (.lreturn) := ⟨by decide +kernel, rfl⟩
theorem e_X10_soon_0 : DC cX10_soon 0 1 1 (.aload_n 0) := ⟨by decide +kernel, rfl⟩
theorem e_X10_soon_1 : DC cX10_soon 1 1 2 (.iconst 0) := ⟨by decide +kernel, rfl⟩
theorem e_X10_soon_2 : DC cX10_soon 2 3 5 (.putfield 91) := ⟨by decide +kernel, rfl⟩
theorem e_X10_soon_5 : DC cX10_soon 5 1 6 (.aload_n 0) := ⟨by decide +kernel, rfl⟩
theorem e_X10_soon_6 : DC cX10_soon 6 1 7 (.iload_n 1) := ⟨by decide +kernel, rfl⟩
theorem e_X10_soon_7 : DC cX10_soon 7 3 10 (.invokevirtual 292) := ⟨by decide +kernel, rfl⟩
theorem e_X10_soon_10 : DJ cX10_soon 10 22 13 (.ifCond .eq) := DJ.mk 12 (by decide +kernel) (by decide) rfl
theorem e_X10_soon_22 : DC cX10_soon 22 3 25 (.ldc2_w 245) := ⟨by decide +kernel, rfl⟩
theorem e_X10_soon_25 : DC cX10_soon 25 1 26 (.lreturn) := ⟨by decide +kernel, rfl⟩
theorem e_X10_life_0 : DC cX10_life 0 1 1 (.aload_n 0) := ⟨by decide +kernel, rfl⟩
theorem e_X10_life_1 : DC cX10_life 1 1 2 (.iconst 0) := ⟨by decide +kernel, rfl⟩
theorem e_X10_life_2 : DC cX10_life 2 3 5 (.putfield 91) := ⟨by decide +kernel, rfl⟩
theorem e_X10_life_5 : DC cX10_life 5 1 6 (.aload_n 0) := ⟨by decide +kernel, rfl⟩
theorem e_X10_life_6 : DC cX10_life 6 1 7 (.iload_n 1) := ⟨by decide +kernel, rfl⟩
theorem e_X10_life_7 : DC cX10_life 7 3 10 (.invokevirtual 292) := ⟨by decide +kernel, rfl⟩
theorem e_X10_life_10 : DJ cX10_life 10 17 13 (.ifCond .ne) := DJ.mk 7 (by decide +kernel) (by decide) rfl
theorem e_X10_life_13 : DC cX10_life 13 3 16 (.ldc2_w 245) := ⟨by decide +kernel, rfl⟩
theorem e_X10_life_16 : DC cX10_life 16 1 17 (.lreturn) := ⟨by decide +kernel, rfl⟩
theorem e_X10_ifIndex_0 : DC cX10_ifIndex 0 1 1 (.aload_n 0) := ⟨by decide +kernel, rfl⟩
theorem e_X10_ifIndex_1 : DC cX10_ifIndex 1 1 2 (.iconst 0) := ⟨by decide +kernel, rfl⟩
theorem e_X10_ifIndex_2 : DC cX10_ifIndex 2 3 5 (.putfield 91) := ⟨by decide +kernel, rfl⟩
theorem e_X10_ifIndex_5 : DC cX10_ifIndex 5 1 6 (.aload_n 0) := ⟨by decide +kernel, rfl⟩
theorem e_X10_ifIndex_6 : DC cX10_ifIndex 6 1 7 (.iload_n 1) := ⟨by decide +kernel, rfl⟩
theorem e_X10_ifIndex_7 : DC cX10_ifIndex 7 3 10 (.invokevirtual 292) := ⟨by decide +kernel, rfl⟩
theorem e_X10_ifIndex_10 : DJ cX10_ifIndex 10 27 13 (.ifCond .eq) := DJ.mk 17 (by decide +kernel) (by decide) rfl
theorem e_X10_ifIndex_27 : DC cX10_ifIndex 27 3 30 (.ldc2_w 245) := ⟨by decide +kernel, rfl⟩
theorem e_X10_ifIndex_30 : DC cX10_ifIndex 30 1 31 (.lreturn) := ⟨by decide +kernel, rfl⟩
theorem e_X10_moved_0 : DC cX10_moved 0 1 1 (.aload_n 0) := ⟨by decide +kernel, rfl⟩
theorem e_X10_moved_1 : DC cX10_moved 1 1 2 (.iconst 0) := ⟨by decide +kernel, rfl⟩
theorem e_X10_moved_2 : DC cX10_moved 2 3 5 (.putfield 91) := ⟨by decide +kernel, rfl⟩
theorem e_X10_moved_5 : DC cX10_moved 5 1 6 (.aload_n 0) := ⟨by decide +kernel, rfl⟩
theorem e_X10_moved_6 : DC cX10_moved 6 1 7 (.iload_n 1) := ⟨by decide +kernel, rfl⟩
theorem e_X10_moved_7 : DC cX10_moved 7 3 10 (.invokevirtual 292) := ⟨by decide +kernel, rfl⟩
theorem e_X10_moved_10 : DJ cX10_moved 10 40 13 (.ifCond .eq) := DJ.mk 30 (by decide +kernel) (by decide) rfl
theorem e_X10_moved_40 : DC cX10_moved 40 3 43 (.ldc2_w 299) := ⟨by decide +kernel, rfl⟩
theorem kc_X10_299 : Cond.constantLong RX10 299 (-9223372036854775808) ∈ tb := tb_in 1788 (by decide +kernel) (by decide +kernel)
theorem e_X10_moved_43 : DC cX10_moved 43 1 44 (.lreturn) := ⟨by decide +kernel, rfl⟩
theorem e_X10_rate_0 : DC cX10_rate 0 1 1 (.aload_n 0) := ⟨by decide +kernel, rfl⟩
theorem e_X10_rate_1 : DC cX10_rate 1 1 2 (.iconst 0) := ⟨by decide +kernel, rfl⟩
theorem e_X10_rate_2 : DC cX10_rate 2 3 5 (.putfield 91) := ⟨by decide +kernel, rfl⟩
theorem e_X10_rate_5 : DC cX10_rate 5 1 6 (.aload_n 0) := ⟨by decide +kernel, rfl⟩
theorem e_X10_rate_6 : DC cX10_rate 6 1 7 (.iload_n 1) := ⟨by decide +kernel, rfl⟩
theorem e_X10_rate_7 : DC cX10_rate 7 3 10 (.invokevirtual 301) := ⟨by decide +kernel, rfl⟩
theorem cb_X10_isRunning : CB yX10_isRunning cX10_isRunning 2 (some .boolean) 1 := ⟨tb_in 1808 (by decide +kernel) (by decide +kernel), tb_in 10 (by decide +kernel) (by decide +kernel), by decide +kernel⟩
theorem ml_X10_301 : Cond.methodLink RX10 301 yX10_isRunning ∈ tb := tb_in 1805 (by decide +kernel) (by decide +kernel)
theorem im_X10_isRunning : Cond.instanceMethod yX10_isRunning ∈ tb := tb_in 1807 (by decide +kernel) (by decide +kernel)
theorem se_X10_isRunning : Cond.selects (yX10_isRunning).cls yX10_isRunning yX10_isRunning ∈ tb := tb_sel 49 (by decide +kernel) (by decide +kernel)
theorem e_X10_rate_10 : DJ cX10_rate 10 23 13 (.ifCond .eq) := DJ.mk 13 (by decide +kernel) (by decide) rfl
theorem e_X10_rate_23 : DC cX10_rate 23 3 26 (.ldc2_w 299) := ⟨by decide +kernel, rfl⟩
theorem e_X10_rate_26 : DC cX10_rate 26 1 27 (.lreturn) := ⟨by decide +kernel, rfl⟩
theorem e_X10_extend_0 : DC cX10_extend 0 1 1 (.aload_n 0) := ⟨by decide +kernel, rfl⟩
theorem e_X10_extend_1 : DC cX10_extend 1 1 2 (.iconst 0) := ⟨by decide +kernel, rfl⟩
theorem e_X10_extend_2 : DC cX10_extend 2 3 5 (.putfield 91) := ⟨by decide +kernel, rfl⟩
theorem e_X10_extend_5 : DC cX10_extend 5 1 6 (.aload_n 0) := ⟨by decide +kernel, rfl⟩
theorem e_X10_extend_6 : DC cX10_extend 6 1 7 (.iload_n 1) := ⟨by decide +kernel, rfl⟩
theorem e_X10_extend_7 : DC cX10_extend 7 3 10 (.invokevirtual 301) := ⟨by decide +kernel, rfl⟩
theorem e_X10_extend_10 : DJ cX10_extend 10 33 13 (.ifCond .eq) := DJ.mk 23 (by decide +kernel) (by decide) rfl
theorem e_X10_extend_33 : DC cX10_extend 33 3 36 (.ldc2_w 299) := ⟨by decide +kernel, rfl⟩
theorem e_X10_extend_36 : DC cX10_extend 36 1 37 (.lreturn) := ⟨by decide +kernel, rfl⟩
theorem e_X10_take_0 : DC cX10_take 0 1 1 (.aload_n 0) := ⟨by decide +kernel, rfl⟩
theorem e_X10_take_1 : DC cX10_take 1 1 2 (.iconst 0) := ⟨by decide +kernel, rfl⟩
theorem e_X10_take_2 : DC cX10_take 2 3 5 (.putfield 91) := ⟨by decide +kernel, rfl⟩
theorem e_X10_take_5 : DC cX10_take 5 1 6 (.aload_n 0) := ⟨by decide +kernel, rfl⟩
theorem e_X10_take_6 : DC cX10_take 6 1 7 (.iload_n 1) := ⟨by decide +kernel, rfl⟩
theorem e_X10_take_7 : DC cX10_take 7 3 10 (.invokevirtual 313) := ⟨by decide +kernel, rfl⟩
theorem cb_X10_canTake : CB yX10_canTake cX10_canTake 2 (some .boolean) 1 := ⟨tb_in 1829 (by decide +kernel) (by decide +kernel), tb_in 10 (by decide +kernel) (by decide +kernel), by decide +kernel⟩
theorem ml_X10_313 : Cond.methodLink RX10 313 yX10_canTake ∈ tb := tb_in 1826 (by decide +kernel) (by decide +kernel)
theorem im_X10_canTake : Cond.instanceMethod yX10_canTake ∈ tb := tb_in 1828 (by decide +kernel) (by decide +kernel)
theorem se_X10_canTake : Cond.selects (yX10_canTake).cls yX10_canTake yX10_canTake ∈ tb := tb_sel 52 (by decide +kernel) (by decide +kernel)
theorem e_X10_take_10 : DJ cX10_take 10 17 13 (.ifCond .ne) := DJ.mk 7 (by decide +kernel) (by decide) rfl
theorem e_X10_take_13 : DC cX10_take 13 3 16 (.ldc2_w 299) := ⟨by decide +kernel, rfl⟩
theorem e_X10_take_16 : DC cX10_take 16 1 17 (.lreturn) := ⟨by decide +kernel, rfl⟩
theorem e_X10_part_0 : DC cX10_part 0 1 1 (.aload_n 0) := ⟨by decide +kernel, rfl⟩
theorem e_X10_part_1 : DC cX10_part 1 1 2 (.iconst 0) := ⟨by decide +kernel, rfl⟩
theorem e_X10_part_2 : DC cX10_part 2 3 5 (.putfield 91) := ⟨by decide +kernel, rfl⟩
theorem e_X10_part_5 : DC cX10_part 5 1 6 (.aload_n 0) := ⟨by decide +kernel, rfl⟩
theorem e_X10_part_6 : DC cX10_part 6 1 7 (.iload_n 1) := ⟨by decide +kernel, rfl⟩
theorem e_X10_part_7 : DC cX10_part 7 3 10 (.invokevirtual 301) := ⟨by decide +kernel, rfl⟩
theorem e_X10_part_10 : DJ cX10_part 10 25 13 (.ifCond .eq) := DJ.mk 15 (by decide +kernel) (by decide) rfl
theorem e_X10_part_25 : DC cX10_part 25 3 28 (.ldc2_w 299) := ⟨by decide +kernel, rfl⟩
theorem e_X10_part_28 : DC cX10_part 28 1 29 (.lreturn) := ⟨by decide +kernel, rfl⟩
theorem e_X10_end_0 : DC cX10_end 0 1 1 (.aload_n 0) := ⟨by decide +kernel, rfl⟩
theorem e_X10_end_1 : DC cX10_end 1 1 2 (.iconst 0) := ⟨by decide +kernel, rfl⟩
theorem e_X10_end_2 : DC cX10_end 2 3 5 (.putfield 91) := ⟨by decide +kernel, rfl⟩
theorem e_X10_end_5 : DC cX10_end 5 1 6 (.aload_n 0) := ⟨by decide +kernel, rfl⟩
theorem e_X10_end_6 : DC cX10_end 6 1 7 (.iload_n 1) := ⟨by decide +kernel, rfl⟩
theorem e_X10_end_7 : DC cX10_end 7 3 10 (.invokevirtual 301) := ⟨by decide +kernel, rfl⟩
theorem e_X10_end_10 : DJ cX10_end 10 17 13 (.ifCond .ne) := DJ.mk 7 (by decide +kernel) (by decide) rfl
theorem e_X10_end_13 : DC cX10_end 13 3 16 (.ldc2_w 299) := ⟨by decide +kernel, rfl⟩
theorem e_X10_end_16 : DC cX10_end 16 1 17 (.lreturn) := ⟨by decide +kernel, rfl⟩
theorem e_X10_putOff_0 : DC cX10_putOff 0 1 1 (.aload_n 0) := ⟨by decide +kernel, rfl⟩
theorem e_X10_putOff_1 : DC cX10_putOff 1 1 2 (.iconst 0) := ⟨by decide +kernel, rfl⟩
theorem e_X10_putOff_2 : DC cX10_putOff 2 3 5 (.putfield 91) := ⟨by decide +kernel, rfl⟩
theorem e_X10_putOff_5 : DC cX10_putOff 5 1 6 (.aload_n 0) := ⟨by decide +kernel, rfl⟩
theorem e_X10_putOff_6 : DC cX10_putOff 6 1 7 (.iload_n 1) := ⟨by decide +kernel, rfl⟩
theorem e_X10_putOff_7 : DC cX10_putOff 7 3 10 (.invokevirtual 301) := ⟨by decide +kernel, rfl⟩
theorem e_X10_putOff_10 : DJ cX10_putOff 10 54 13 (.ifCond .eq) := DJ.mk 44 (by decide +kernel) (by decide) rfl
theorem e_X10_putOff_54 : DC cX10_putOff 54 3 57 (.ldc2_w 299) := ⟨by decide +kernel, rfl⟩
theorem e_X10_putOff_57 : DC cX10_putOff 57 1 58 (.lreturn) := ⟨by decide +kernel, rfl⟩
theorem e_X10_ifTaken_0 : DC cX10_ifTaken 0 1 1 (.aload_n 0) := ⟨by decide +kernel, rfl⟩
theorem e_X10_ifTaken_1 : DC cX10_ifTaken 1 1 2 (.iconst 0) := ⟨by decide +kernel, rfl⟩
theorem e_X10_ifTaken_2 : DC cX10_ifTaken 2 3 5 (.putfield 91) := ⟨by decide +kernel, rfl⟩
theorem e_X10_ifTaken_5 : DC cX10_ifTaken 5 1 6 (.aload_n 0) := ⟨by decide +kernel, rfl⟩
theorem e_X10_ifTaken_6 : DC cX10_ifTaken 6 1 7 (.iload_n 1) := ⟨by decide +kernel, rfl⟩
theorem e_X10_ifTaken_7 : DC cX10_ifTaken 7 3 10 (.invokevirtual 313) := ⟨by decide +kernel, rfl⟩
theorem e_X10_ifTaken_10 : DJ cX10_ifTaken 10 17 13 (.ifCond .ne) := DJ.mk 7 (by decide +kernel) (by decide) rfl
theorem e_X10_ifTaken_13 : DC cX10_ifTaken 13 3 16 (.ldc2_w 299) := ⟨by decide +kernel, rfl⟩
theorem e_X10_ifTaken_16 : DC cX10_ifTaken 16 1 17 (.lreturn) := ⟨by decide +kernel, rfl⟩
theorem e_X10_down_0 : DC cX10_down 0 1 1 (.aload_n 0) := ⟨by decide +kernel, rfl⟩
theorem e_X10_down_1 : DC cX10_down 1 1 2 (.iconst 0) := ⟨by decide +kernel, rfl⟩
theorem e_X10_down_2 : DC cX10_down 2 3 5 (.putfield 91) := ⟨by decide +kernel, rfl⟩
theorem e_X10_down_5 : DC cX10_down 5 1 6 (.aload_n 0) := ⟨by decide +kernel, rfl⟩
theorem e_X10_down_6 : DC cX10_down 6 1 7 (.iload_n 1) := ⟨by decide +kernel, rfl⟩
theorem e_X10_down_7 : DC cX10_down 7 3 10 (.invokevirtual 301) := ⟨by decide +kernel, rfl⟩
theorem e_X10_down_10 : DJ cX10_down 10 37 13 (.ifCond .eq) := DJ.mk 27 (by decide +kernel) (by decide) rfl
theorem e_X10_down_37 : DC cX10_down 37 3 40 (.ldc2_w 299) := ⟨by decide +kernel, rfl⟩
theorem e_X10_down_40 : DC cX10_down 40 1 41 (.lreturn) := ⟨by decide +kernel, rfl⟩
theorem e_X10_named_0 : DC cX10_named 0 1 1 (.aload_n 0) := ⟨by decide +kernel, rfl⟩
theorem e_X10_named_1 : DC cX10_named 1 1 2 (.iconst 0) := ⟨by decide +kernel, rfl⟩
theorem e_X10_named_2 : DC cX10_named 2 3 5 (.putfield 91) := ⟨by decide +kernel, rfl⟩
theorem e_X10_named_5 : DC cX10_named 5 1 6 (.aload_n 0) := ⟨by decide +kernel, rfl⟩
theorem e_X10_named_6 : DC cX10_named 6 1 7 (.iconst 0) := ⟨by decide +kernel, rfl⟩
theorem e_X10_named_7 : DC cX10_named 7 1 8 (.aload_n 0) := ⟨by decide +kernel, rfl⟩
theorem e_X10_named_8 : DC cX10_named 8 3 11 (.invokevirtual 221) := ⟨by decide +kernel, rfl⟩
theorem e_X10_named_11 : DC cX10_named 11 1 12 (.iload_n 1) := ⟨by decide +kernel, rfl⟩
theorem e_X10_named_12 : DC cX10_named 12 3 15 (.invokevirtual 161) := ⟨by decide +kernel, rfl⟩
theorem cb_X10_namedAt : CB yX10_namedAt cX10_namedAt 5 (some .int) 3 := ⟨tb_in 1657 (by decide +kernel) (by decide +kernel), tb_in 10 (by decide +kernel) (by decide +kernel), by decide +kernel⟩
theorem ml_X10_161 : Cond.methodLink RX10 161 yX10_namedAt ∈ tb := tb_in 1654 (by decide +kernel) (by decide +kernel)
theorem im_X10_namedAt : Cond.instanceMethod yX10_namedAt ∈ tb := tb_in 1656 (by decide +kernel) (by decide +kernel)
theorem se_X10_namedAt : Cond.selects (yX10_namedAt).cls yX10_namedAt yX10_namedAt ∈ tb := tb_sel 26 (by decide +kernel) (by decide +kernel)
theorem e_X10_named_15 : DC cX10_named 15 1 16 (.ireturn) := ⟨by decide +kernel, rfl⟩
theorem e_X10_choose_0 : DC cX10_choose 0 1 1 (.aload_n 0) := ⟨by decide +kernel, rfl⟩
theorem e_X10_choose_1 : DC cX10_choose 1 1 2 (.iconst 0) := ⟨by decide +kernel, rfl⟩
theorem e_X10_choose_2 : DC cX10_choose 2 3 5 (.putfield 91) := ⟨by decide +kernel, rfl⟩
theorem e_X10_choose_5 : DC cX10_choose 5 1 6 (.aload_n 0) := ⟨by decide +kernel, rfl⟩
theorem e_X10_choose_6 : DC cX10_choose 6 1 7 (.iload_n 1) := ⟨by decide +kernel, rfl⟩
theorem e_X10_choose_7 : DC cX10_choose 7 3 10 (.invokevirtual 292) := ⟨by decide +kernel, rfl⟩
theorem e_X10_choose_10 : DJ cX10_choose 10 15 13 (.ifCond .ne) := DJ.mk 5 (by decide +kernel) (by decide) rfl
theorem e_X10_choose_13 : DC cX10_choose 13 1 14 (.iconst (-1)) := ⟨by decide +kernel, rfl⟩
theorem e_X10_choose_14 : DC cX10_choose 14 1 15 (.ireturn) := ⟨by decide +kernel, rfl⟩
theorem e_X10_partFor_0 : DC cX10_partFor 0 1 1 (.aload_n 0) := ⟨by decide +kernel, rfl⟩
theorem e_X10_partFor_1 : DC cX10_partFor 1 1 2 (.iconst 0) := ⟨by decide +kernel, rfl⟩
theorem e_X10_partFor_2 : DC cX10_partFor 2 3 5 (.putfield 91) := ⟨by decide +kernel, rfl⟩
theorem e_X10_partFor_5 : DC cX10_partFor 5 1 6 (.aload_n 0) := ⟨by decide +kernel, rfl⟩
theorem e_X10_partFor_6 : DC cX10_partFor 6 1 7 (.iload_n 1) := ⟨by decide +kernel, rfl⟩
theorem e_X10_partFor_7 : DC cX10_partFor 7 3 10 (.invokevirtual 292) := ⟨by decide +kernel, rfl⟩
theorem e_X10_partFor_10 : DJ cX10_partFor 10 15 13 (.ifCond .ne) := DJ.mk 5 (by decide +kernel) (by decide) rfl
theorem e_X10_partFor_13 : DC cX10_partFor 13 1 14 (.iconst (-1)) := ⟨by decide +kernel, rfl⟩
theorem e_X10_partFor_14 : DC cX10_partFor 14 1 15 (.ireturn) := ⟨by decide +kernel, rfl⟩
theorem e_X10_latest_0 : DC cX10_latest 0 1 1 (.aload_n 0) := ⟨by decide +kernel, rfl⟩
theorem e_X10_latest_1 : DC cX10_latest 1 1 2 (.iconst 0) := ⟨by decide +kernel, rfl⟩
theorem e_X10_latest_2 : DC cX10_latest 2 3 5 (.putfield 91) := ⟨by decide +kernel, rfl⟩
theorem e_X10_latest_5 : DC cX10_latest 5 1 6 (.aload_n 0) := ⟨by decide +kernel, rfl⟩
theorem e_X10_latest_6 : DC cX10_latest 6 1 7 (.iload_n 1) := ⟨by decide +kernel, rfl⟩
theorem e_X10_latest_7 : DC cX10_latest 7 3 10 (.invokevirtual 292) := ⟨by decide +kernel, rfl⟩
theorem e_X10_latest_10 : DJ cX10_latest 10 22 13 (.ifCond .eq) := DJ.mk 12 (by decide +kernel) (by decide) rfl
theorem e_X10_latest_22 : DC cX10_latest 22 1 23 (.iconst (-1)) := ⟨by decide +kernel, rfl⟩
theorem e_X10_latest_23 : DC cX10_latest 23 1 24 (.ireturn) := ⟨by decide +kernel, rfl⟩
theorem e_X10_half_0 : DC cX10_half 0 1 1 (.aload_n 0) := ⟨by decide +kernel, rfl⟩
theorem e_X10_half_1 : DC cX10_half 1 1 2 (.iconst 0) := ⟨by decide +kernel, rfl⟩
theorem e_X10_half_2 : DC cX10_half 2 3 5 (.putfield 91) := ⟨by decide +kernel, rfl⟩
theorem e_X10_half_5 : DC cX10_half 5 1 6 (.aload_n 0) := ⟨by decide +kernel, rfl⟩
theorem e_X10_half_6 : DC cX10_half 6 1 7 (.iload_n 1) := ⟨by decide +kernel, rfl⟩
theorem e_X10_half_7 : DC cX10_half 7 3 10 (.invokevirtual 292) := ⟨by decide +kernel, rfl⟩
theorem e_X10_half_10 : DJ cX10_half 10 30 13 (.ifCond .eq) := DJ.mk 20 (by decide +kernel) (by decide) rfl
theorem e_X10_half_30 : DC cX10_half 30 1 31 (.iconst (-1)) := ⟨by decide +kernel, rfl⟩
theorem e_X10_half_31 : DC cX10_half 31 1 32 (.ireturn) := ⟨by decide +kernel, rfl⟩
theorem e_X10_yields_0 : DC cX10_yields 0 1 1 (.aload_n 0) := ⟨by decide +kernel, rfl⟩
theorem e_X10_yields_1 : DC cX10_yields 1 1 2 (.iconst 0) := ⟨by decide +kernel, rfl⟩
theorem e_X10_yields_2 : DC cX10_yields 2 3 5 (.putfield 91) := ⟨by decide +kernel, rfl⟩
theorem e_X10_yields_5 : DC cX10_yields 5 1 6 (.aload_n 0) := ⟨by decide +kernel, rfl⟩
theorem e_X10_yields_6 : DC cX10_yields 6 1 7 (.iload_n 1) := ⟨by decide +kernel, rfl⟩
theorem e_X10_yields_7 : DC cX10_yields 7 1 8 (.iload_n 2) := ⟨by decide +kernel, rfl⟩
theorem e_X10_yields_8 : DC cX10_yields 8 3 11 (.invokevirtual 295) := ⟨by decide +kernel, rfl⟩
theorem e_X10_yields_11 : DJ cX10_yields 11 38 14 (.ifCond .eq) := DJ.mk 27 (by decide +kernel) (by decide) rfl
theorem e_X10_yields_38 : DC cX10_yields 38 1 39 (.iconst (-1)) := ⟨by decide +kernel, rfl⟩
theorem e_X10_yields_39 : DC cX10_yields 39 1 40 (.ireturn) := ⟨by decide +kernel, rfl⟩
theorem e_X10_level_0 : DC cX10_level 0 1 1 (.aload_n 0) := ⟨by decide +kernel, rfl⟩
theorem e_X10_level_1 : DC cX10_level 1 1 2 (.iconst 0) := ⟨by decide +kernel, rfl⟩
theorem e_X10_level_2 : DC cX10_level 2 3 5 (.putfield 91) := ⟨by decide +kernel, rfl⟩
theorem e_X10_level_5 : DC cX10_level 5 1 6 (.aload_n 0) := ⟨by decide +kernel, rfl⟩
theorem e_X10_level_6 : DC cX10_level 6 1 7 (.iload_n 1) := ⟨by decide +kernel, rfl⟩
theorem e_X10_level_7 : DC cX10_level 7 3 10 (.invokevirtual 292) := ⟨by decide +kernel, rfl⟩
theorem e_X10_level_10 : DJ cX10_level 10 27 13 (.ifCond .eq) := DJ.mk 17 (by decide +kernel) (by decide) rfl
theorem e_X10_level_27 : DC cX10_level 27 1 28 (.iconst (-1)) := ⟨by decide +kernel, rfl⟩
theorem e_X10_level_28 : DC cX10_level 28 1 29 (.ireturn) := ⟨by decide +kernel, rfl⟩
theorem e_X10_undo_0 : DC cX10_undo 0 1 1 (.aload_n 0) := ⟨by decide +kernel, rfl⟩
theorem e_X10_undo_1 : DC cX10_undo 1 1 2 (.iconst 0) := ⟨by decide +kernel, rfl⟩
theorem e_X10_undo_2 : DC cX10_undo 2 3 5 (.putfield 91) := ⟨by decide +kernel, rfl⟩
theorem e_X10_undo_5 : DC cX10_undo 5 1 6 (.aload_n 0) := ⟨by decide +kernel, rfl⟩
theorem e_X10_undo_6 : DC cX10_undo 6 3 9 (.getfield 214) := ⟨by decide +kernel, rfl⟩
theorem e_X10_undo_9 : DJ cX10_undo 9 14 12 (.ifCond .ne) := DJ.mk 5 (by decide +kernel) (by decide) rfl
theorem e_X10_undo_12 : DC cX10_undo 12 1 13 (.iconst (-1)) := ⟨by decide +kernel, rfl⟩
theorem e_X10_undo_13 : DC cX10_undo 13 1 14 (.ireturn) := ⟨by decide +kernel, rfl⟩
theorem e_X10_back_0 : DC cX10_back 0 1 1 (.aload_n 0) := ⟨by decide +kernel, rfl⟩
theorem e_X10_back_1 : DC cX10_back 1 1 2 (.iconst 0) := ⟨by decide +kernel, rfl⟩
theorem e_X10_back_2 : DC cX10_back 2 3 5 (.putfield 91) := ⟨by decide +kernel, rfl⟩
theorem e_X10_back_5 : DC cX10_back 5 1 6 (.aload_n 0) := ⟨by decide +kernel, rfl⟩
theorem e_X10_back_6 : DC cX10_back 6 3 9 (.getfield 217) := ⟨by decide +kernel, rfl⟩
theorem fl_X10_217 : FL RX10 217 8 33 := ⟨RX10, TX10, 37, rfl, by decide, uw_8, tb_in 1493 (by decide +kernel) (by decide +kernel), rfl⟩
theorem e_X10_back_9 : DJ cX10_back 9 14 12 (.ifCond .ne) := DJ.mk 5 (by decide +kernel) (by decide) rfl
theorem e_X10_back_12 : DC cX10_back 12 1 13 (.iconst (-1)) := ⟨by decide +kernel, rfl⟩
theorem e_X10_back_13 : DC cX10_back 13 1 14 (.ireturn) := ⟨by decide +kernel, rfl⟩
theorem e_X10_heaviest_0 : DC cX10_heaviest 0 1 1 (.aload_n 0) := ⟨by decide +kernel, rfl⟩
theorem e_X10_heaviest_1 : DC cX10_heaviest 1 1 2 (.iconst 0) := ⟨by decide +kernel, rfl⟩
theorem e_X10_heaviest_2 : DC cX10_heaviest 2 3 5 (.putfield 91) := ⟨by decide +kernel, rfl⟩
theorem e_X10_heaviest_5 : DC cX10_heaviest 5 2 7 (.bipush (-2)) := ⟨by decide +kernel, rfl⟩
theorem e_X10_heaviest_7 : DC cX10_heaviest 7 1 8 (.istore_n 1) := ⟨by decide +kernel, rfl⟩
theorem e_X10_heaviest_8 : DC cX10_heaviest 8 1 9 (.iconst 0) := ⟨by decide +kernel, rfl⟩
theorem e_X10_heaviest_9 : DC cX10_heaviest 9 1 10 (.istore_n 2) := ⟨by decide +kernel, rfl⟩
theorem e_X10_heaviest_10 : DC cX10_heaviest 10 1 11 (.iload_n 2) := ⟨by decide +kernel, rfl⟩
theorem e_X10_heaviest_11 : DC cX10_heaviest 11 1 12 (.aload_n 0) := ⟨by decide +kernel, rfl⟩
theorem e_X10_heaviest_12 : DC cX10_heaviest 12 3 15 (.invokevirtual 221) := ⟨by decide +kernel, rfl⟩
theorem e_X10_heaviest_15 : DJ cX10_heaviest 15 87 18 (.if_icmp .ge) := DJ.mk 72 (by decide +kernel) (by decide) rfl
theorem e_X10_heaviest_87 : DC cX10_heaviest 87 1 88 (.iload_n 1) := ⟨by decide +kernel, rfl⟩
theorem e_X10_heaviest_88 : DC cX10_heaviest 88 1 89 (.ireturn) := ⟨by decide +kernel, rfl⟩
theorem e_X10_keep_0 : DC cX10_keep 0 1 1 (.aload_n 0) := ⟨by decide +kernel, rfl⟩
theorem e_X10_keep_1 : DC cX10_keep 1 1 2 (.iconst 0) := ⟨by decide +kernel, rfl⟩
theorem e_X10_keep_2 : DC cX10_keep 2 3 5 (.putfield 91) := ⟨by decide +kernel, rfl⟩
theorem e_X10_keep_5 : DC cX10_keep 5 1 6 (.aload_n 0) := ⟨by decide +kernel, rfl⟩
theorem e_X10_keep_6 : DC cX10_keep 6 3 9 (.getfield 59) := ⟨by decide +kernel, rfl⟩
theorem e_X10_keep_9 : DC cX10_keep 9 1 10 (.iconst 0) := ⟨by decide +kernel, rfl⟩
theorem e_X10_keep_10 : DC cX10_keep 10 1 11 (.aload_n 0) := ⟨by decide +kernel, rfl⟩
theorem e_X10_keep_11 : DC cX10_keep 11 3 14 (.getfield 69) := ⟨by decide +kernel, rfl⟩
theorem fl_X10_69 : FL RX10 69 8 30 := ⟨RX10, TX10, 37, rfl, by decide, uw_8, tb_in 1490 (by decide +kernel) (by decide +kernel), rfl⟩
theorem e_X10_keep_14 : DC cX10_keep 14 1 15 (.iconst 0) := ⟨by decide +kernel, rfl⟩
theorem e_X10_keep_15 : DC cX10_keep 15 3 18 (.invokestatic 230) := ⟨by decide +kernel, rfl⟩
theorem e_X10_keep_18 : DC cX10_keep 18 1 19 (.aload_n 0) := ⟨by decide +kernel, rfl⟩
theorem e_X10_keep_19 : DC cX10_keep 19 1 20 (.iconst 1) := ⟨by decide +kernel, rfl⟩
theorem e_X10_keep_20 : DC cX10_keep 20 3 23 (.putfield 217) := ⟨by decide +kernel, rfl⟩
theorem fp_X10_217 : FP RX10 217 8 33 false .boolean := ⟨RX10, TX10, 37, tyX10, rfl, by decide, uw_8, tb_in 1493 (by decide +kernel) (by decide +kernel), rfl, rfl, by decide +kernel, tyX10_ok, nmX10⟩
theorem e_X10_keep_23 : DC cX10_keep 23 1 24 (.aload_n 0) := ⟨by decide +kernel, rfl⟩
theorem e_X10_keep_24 : DC cX10_keep 24 3 27 (.getfield 59) := ⟨by decide +kernel, rfl⟩
theorem e_X10_keep_27 : DC cX10_keep 27 3 30 (.sipush 744) := ⟨by decide +kernel, rfl⟩
theorem e_X10_keep_30 : DC cX10_keep 30 1 31 (.laload) := ⟨by decide +kernel, rfl⟩
theorem e_X10_keep_31 : DC cX10_keep 31 1 32 (.l2i) := ⟨by decide +kernel, rfl⟩
theorem e_X10_keep_32 : DC cX10_keep 32 1 33 (.ireturn) := ⟨by decide +kernel, rfl⟩
theorem e_X10_lease_0 : DC cX10_lease 0 1 1 (.aload_n 0) := ⟨by decide +kernel, rfl⟩
theorem e_X10_lease_1 : DC cX10_lease 1 1 2 (.iconst 0) := ⟨by decide +kernel, rfl⟩
theorem e_X10_lease_2 : DC cX10_lease 2 3 5 (.putfield 91) := ⟨by decide +kernel, rfl⟩
theorem e_X10_lease_5 : DC cX10_lease 5 1 6 (.aload_n 0) := ⟨by decide +kernel, rfl⟩
theorem e_X10_lease_6 : DC cX10_lease 6 1 7 (.iload_n 1) := ⟨by decide +kernel, rfl⟩
theorem e_X10_lease_7 : DC cX10_lease 7 3 10 (.invokevirtual 292) := ⟨by decide +kernel, rfl⟩
theorem e_X10_lease_10 : DJ cX10_lease 10 20 13 (.ifCond .ne) := DJ.mk 10 (by decide +kernel) (by decide) rfl
theorem e_X10_lease_13 : DC cX10_lease 13 1 14 (.aload_n 0) := ⟨by decide +kernel, rfl⟩
theorem e_X10_lease_14 : DC cX10_lease 14 1 15 (.iconst 1) := ⟨by decide +kernel, rfl⟩
theorem e_X10_lease_15 : DC cX10_lease 15 3 18 (.putfield 91) := ⟨by decide +kernel, rfl⟩
theorem e_X10_lease_18 : DC cX10_lease 18 1 19 (.iconst 0) := ⟨by decide +kernel, rfl⟩
theorem e_X10_lease_19 : DC cX10_lease 19 1 20 (.ireturn) := ⟨by decide +kernel, rfl⟩
theorem e_X10_thrown_0 : DC cX10_thrown 0 1 1 (.aload_n 0) := ⟨by decide +kernel, rfl⟩
theorem e_X10_thrown_1 : DC cX10_thrown 1 3 4 (.getfield 91) := ⟨by decide +kernel, rfl⟩
theorem fl_X10_91 : FL RX10 91 8 0 := ⟨RX10, TX10, 37, rfl, by decide, uw_8, tb_in 1460 (by decide +kernel) (by decide +kernel), rfl⟩
theorem e_X10_thrown_4 : DC cX10_thrown 4 1 5 (.ireturn) := ⟨by decide +kernel, rfl⟩
theorem e_X10_fault_0 : DC cX10_fault 0 1 1 (.aload_n 0) := ⟨by decide +kernel, rfl⟩
theorem e_X10_fault_1 : DC cX10_fault 1 1 2 (.iconst 0) := ⟨by decide +kernel, rfl⟩
theorem e_X10_fault_2 : DC cX10_fault 2 3 5 (.putfield 91) := ⟨by decide +kernel, rfl⟩
theorem e_X10_fault_5 : DC cX10_fault 5 1 6 (.iload_n 1) := ⟨by decide +kernel, rfl⟩
theorem e_X10_fault_6 : DJ cX10_fault 6 16 9 (.ifCond .ne) := DJ.mk 10 (by decide +kernel) (by decide) rfl
theorem e_X10_fault_16 : DC cX10_fault 16 1 17 (.iload_n 1) := ⟨by decide +kernel, rfl⟩
theorem e_X10_fault_17 : DC cX10_fault 17 1 18 (.iconst 1) := ⟨by decide +kernel, rfl⟩
theorem e_X10_fault_18 : DJ cX10_fault 18 28 21 (.if_icmp .ne) := DJ.mk 10 (by decide +kernel) (by decide) rfl
theorem e_X10_fault_28 : DC cX10_fault 28 1 29 (.iconst (-1)) := ⟨by decide +kernel, rfl⟩
theorem e_X10_fault_29 : DC cX10_fault 29 1 30 (.ireturn) := ⟨by decide +kernel, rfl⟩
theorem e_X10_fault_21 : DC cX10_fault 21 1 22 (.aload_n 0) := ⟨by decide +kernel, rfl⟩
theorem e_X10_fault_22 : DC cX10_fault 22 3 25 (.getfield 55) := ⟨by decide +kernel, rfl⟩
theorem fl_X10_55 : FL RX10 55 8 26 := ⟨RX10, TX10, 37, rfl, by decide, uw_8, tb_in 1486 (by decide +kernel) (by decide +kernel), rfl⟩
theorem e_X10_fault_25 : DJ cX10_fault 25 29 28 .goto := DJ.mk 4 (by decide +kernel) (by decide) rfl
theorem e_X10_fault_9 : DC cX10_fault 9 1 10 (.aload_n 0) := ⟨by decide +kernel, rfl⟩
theorem e_X10_fault_10 : DC cX10_fault 10 3 13 (.getfield 211) := ⟨by decide +kernel, rfl⟩
theorem fl_X10_211 : FL RX10 211 8 25 := ⟨RX10, TX10, 37, rfl, by decide, uw_8, tb_in 1485 (by decide +kernel) (by decide +kernel), rfl⟩
theorem e_X10_fault_13 : DJ cX10_fault 13 29 16 .goto := DJ.mk 16 (by decide +kernel) (by decide) rfl
theorem e_X10_index_0 : DC cX10_index 0 1 1 (.aload_n 0) := ⟨by decide +kernel, rfl⟩
theorem e_X10_index_1 : DC cX10_index 1 1 2 (.iconst 0) := ⟨by decide +kernel, rfl⟩
theorem e_X10_index_2 : DC cX10_index 2 3 5 (.putfield 91) := ⟨by decide +kernel, rfl⟩
theorem e_X10_index_5 : DC cX10_index 5 1 6 (.iload_n 1) := ⟨by decide +kernel, rfl⟩
theorem e_X10_index_6 : DJ cX10_index 6 29 9 (.ifCond .lt) := DJ.mk 23 (by decide +kernel) (by decide) rfl
theorem e_X10_index_29 : DC cX10_index 29 1 30 (.iconst (-1)) := ⟨by decide +kernel, rfl⟩
theorem e_X10_index_30 : DC cX10_index 30 1 31 (.ireturn) := ⟨by decide +kernel, rfl⟩
theorem e_X10_index_9 : DC cX10_index 9 1 10 (.iload_n 1) := ⟨by decide +kernel, rfl⟩
theorem e_X10_index_10 : DC cX10_index 10 2 12 (.bipush 99) := ⟨by decide +kernel, rfl⟩
theorem e_X10_index_12 : DJ cX10_index 12 29 15 (.if_icmp .gt) := DJ.mk 17 (by decide +kernel) (by decide) rfl
theorem e_X10_index_15 : DC cX10_index 15 1 16 (.aload_n 0) := ⟨by decide +kernel, rfl⟩
theorem e_X10_index_16 : DC cX10_index 16 3 19 (.getfield 59) := ⟨by decide +kernel, rfl⟩
theorem e_X10_index_19 : DC cX10_index 19 3 22 (.sipush 644) := ⟨by decide +kernel, rfl⟩
theorem e_X10_index_22 : DC cX10_index 22 1 23 (.iload_n 1) := ⟨by decide +kernel, rfl⟩
theorem e_X10_index_23 : DC cX10_index 23 1 24 (.iadd) := ⟨by decide +kernel, rfl⟩
theorem e_X10_index_24 : DC cX10_index 24 1 25 (.laload) := ⟨by decide +kernel, rfl⟩
theorem e_X10_index_25 : DC cX10_index 25 1 26 (.l2i) := ⟨by decide +kernel, rfl⟩
theorem e_X10_index_26 : DJ cX10_index 26 30 29 .goto := DJ.mk 4 (by decide +kernel) (by decide) rfl
theorem e_X10_account_0 : DC cX10_account 0 1 1 (.aload_n 0) := ⟨by decide +kernel, rfl⟩
theorem e_X10_account_1 : DC cX10_account 1 1 2 (.iconst 0) := ⟨by decide +kernel, rfl⟩
theorem e_X10_account_2 : DC cX10_account 2 3 5 (.putfield 91) := ⟨by decide +kernel, rfl⟩
theorem e_X10_account_5 : DC cX10_account 5 1 6 (.iload_n 1) := ⟨by decide +kernel, rfl⟩
theorem e_X10_account_6 : DJ cX10_account 6 28 9 (.ifCond .lt) := DJ.mk 22 (by decide +kernel) (by decide) rfl
theorem e_X10_account_28 : DC cX10_account 28 3 31 (.ldc2_w 299) := ⟨by decide +kernel, rfl⟩
theorem e_X10_account_31 : DC cX10_account 31 1 32 (.lreturn) := ⟨by decide +kernel, rfl⟩
theorem e_X10_account_9 : DC cX10_account 9 1 10 (.iload_n 1) := ⟨by decide +kernel, rfl⟩
theorem e_X10_account_10 : DC cX10_account 10 2 12 (.bipush 6) := ⟨by decide +kernel, rfl⟩
theorem e_X10_account_12 : DJ cX10_account 12 28 15 (.if_icmp .ge) := DJ.mk 16 (by decide +kernel) (by decide) rfl
theorem e_X10_account_15 : DC cX10_account 15 1 16 (.aload_n 0) := ⟨by decide +kernel, rfl⟩
theorem e_X10_account_16 : DC cX10_account 16 3 19 (.getfield 59) := ⟨by decide +kernel, rfl⟩
theorem e_X10_account_19 : DC cX10_account 19 3 22 (.sipush 745) := ⟨by decide +kernel, rfl⟩
theorem e_X10_account_22 : DC cX10_account 22 1 23 (.iload_n 1) := ⟨by decide +kernel, rfl⟩
theorem e_X10_account_23 : DC cX10_account 23 1 24 (.iadd) := ⟨by decide +kernel, rfl⟩
theorem e_X10_account_24 : DC cX10_account 24 1 25 (.laload) := ⟨by decide +kernel, rfl⟩
theorem e_X10_account_25 : DJ cX10_account 25 31 28 .goto := DJ.mk 6 (by decide +kernel) (by decide) rfl
theorem e_X10_entry__0 : DC cX10_entry_ 0 1 1 (.aload_n 0) := ⟨by decide +kernel, rfl⟩
theorem e_X10_entry__1 : DC cX10_entry_ 1 1 2 (.iconst 0) := ⟨by decide +kernel, rfl⟩
theorem e_X10_entry__2 : DC cX10_entry_ 2 3 5 (.putfield 91) := ⟨by decide +kernel, rfl⟩
theorem e_X10_entry__5 : DC cX10_entry_ 5 1 6 (.iload_n 1) := ⟨by decide +kernel, rfl⟩
theorem e_X10_entry__6 : DJ cX10_entry_ 6 23 9 (.ifCond .lt) := DJ.mk 17 (by decide +kernel) (by decide) rfl
theorem e_X10_entry__23 : DC cX10_entry_ 23 3 26 (.ldc2_w 299) := ⟨by decide +kernel, rfl⟩
theorem e_X10_entry__26 : DC cX10_entry_ 26 1 27 (.lreturn) := ⟨by decide +kernel, rfl⟩
theorem e_X10_entry__9 : DC cX10_entry_ 9 1 10 (.iload_n 1) := ⟨by decide +kernel, rfl⟩
theorem e_X10_entry__10 : DC cX10_entry_ 10 1 11 (.i2l) := ⟨by decide +kernel, rfl⟩
theorem e_X10_entry__11 : DC cX10_entry_ 11 1 12 (.aload_n 0) := ⟨by decide +kernel, rfl⟩
theorem e_X10_entry__12 : DC cX10_entry_ 12 3 15 (.getfield 59) := ⟨by decide +kernel, rfl⟩
theorem e_X10_entry__15 : DC cX10_entry_ 15 3 18 (.sipush 751) := ⟨by decide +kernel, rfl⟩
theorem e_X10_entry__18 : DC cX10_entry_ 18 1 19 (.laload) := ⟨by decide +kernel, rfl⟩
theorem e_X10_entry__19 : DC cX10_entry_ 19 1 20 (.lcmp) := ⟨by decide +kernel, rfl⟩
theorem e_X10_entry__20 : DJ cX10_entry_ 20 27 23 (.ifCond .lt) := DJ.mk 7 (by decide +kernel) (by decide) rfl
theorem e_X10_sum_0 : DC cX10_sum 0 1 1 (.aload_n 0) := ⟨by decide +kernel, rfl⟩
theorem e_X10_sum_1 : DC cX10_sum 1 1 2 (.iconst 0) := ⟨by decide +kernel, rfl⟩
theorem e_X10_sum_2 : DC cX10_sum 2 3 5 (.putfield 91) := ⟨by decide +kernel, rfl⟩
theorem e_X10_sum_5 : DC cX10_sum 5 1 6 (.iload_n 1) := ⟨by decide +kernel, rfl⟩
theorem e_X10_sum_6 : DJ cX10_sum 6 23 9 (.ifCond .lt) := DJ.mk 17 (by decide +kernel) (by decide) rfl
theorem e_X10_sum_23 : DC cX10_sum 23 3 26 (.ldc2_w 299) := ⟨by decide +kernel, rfl⟩
theorem e_X10_sum_26 : DC cX10_sum 26 1 27 (.lreturn) := ⟨by decide +kernel, rfl⟩
theorem e_X10_sum_9 : DC cX10_sum 9 1 10 (.iload_n 1) := ⟨by decide +kernel, rfl⟩
theorem e_X10_sum_10 : DC cX10_sum 10 1 11 (.iconst 5) := ⟨by decide +kernel, rfl⟩
theorem e_X10_sum_11 : DJ cX10_sum 11 23 14 (.if_icmp .gt) := DJ.mk 12 (by decide +kernel) (by decide) rfl
theorem e_X10_sum_14 : DC cX10_sum 14 1 15 (.iload_n 2) := ⟨by decide +kernel, rfl⟩
theorem e_X10_sum_15 : DJ cX10_sum 15 23 18 (.ifCond .lt) := DJ.mk 8 (by decide +kernel) (by decide) rfl
theorem e_X10_sum_18 : DC cX10_sum 18 1 19 (.iload_n 2) := ⟨by decide +kernel, rfl⟩
theorem e_X10_sum_19 : DC cX10_sum 19 1 20 (.iconst 5) := ⟨by decide +kernel, rfl⟩
theorem e_X10_sum_20 : DJ cX10_sum 20 27 23 (.if_icmp .le) := DJ.mk 7 (by decide +kernel) (by decide) rfl
theorem e_X10_sum_27 : DC cX10_sum 27 1 28 (.lconst 0) := ⟨by decide +kernel, rfl⟩
theorem e_X10_sum_28 : DC cX10_sum 28 1 29 (.lstore_n 3) := ⟨by decide +kernel, rfl⟩
theorem e_X10_sum_29 : DC cX10_sum 29 1 30 (.iconst 0) := ⟨by decide +kernel, rfl⟩
theorem e_X10_sum_30 : DC cX10_sum 30 2 32 (.istore 5) := ⟨by decide +kernel, rfl⟩
theorem e_X10_sum_32 : DC cX10_sum 32 2 34 (.iload 5) := ⟨by decide +kernel, rfl⟩
theorem e_X10_sum_34 : DC cX10_sum 34 1 35 (.i2l) := ⟨by decide +kernel, rfl⟩
theorem e_X10_sum_35 : DC cX10_sum 35 1 36 (.aload_n 0) := ⟨by decide +kernel, rfl⟩
theorem e_X10_sum_36 : DC cX10_sum 36 3 39 (.getfield 59) := ⟨by decide +kernel, rfl⟩
theorem e_X10_sum_39 : DC cX10_sum 39 3 42 (.sipush 751) := ⟨by decide +kernel, rfl⟩
theorem e_X10_sum_42 : DC cX10_sum 42 1 43 (.laload) := ⟨by decide +kernel, rfl⟩
theorem e_X10_sum_43 : DC cX10_sum 43 1 44 (.lcmp) := ⟨by decide +kernel, rfl⟩
theorem e_X10_sum_44 : DJ cX10_sum 44 94 47 (.ifCond .ge) := DJ.mk 50 (by decide +kernel) (by decide) rfl
theorem e_X10_sum_94 : DC cX10_sum 94 1 95 (.lload_n 3) := ⟨by decide +kernel, rfl⟩
theorem e_X10_sum_95 : DC cX10_sum 95 1 96 (.lreturn) := ⟨by decide +kernel, rfl⟩
theorem e_X10_count_0 : DC cX10_count 0 1 1 (.aload_n 0) := ⟨by decide +kernel, rfl⟩
theorem e_X10_count_1 : DC cX10_count 1 1 2 (.iconst 0) := ⟨by decide +kernel, rfl⟩
theorem e_X10_count_2 : DC cX10_count 2 3 5 (.putfield 91) := ⟨by decide +kernel, rfl⟩
theorem e_X10_count_5 : DC cX10_count 5 1 6 (.iload_n 1) := ⟨by decide +kernel, rfl⟩
theorem e_X10_count_6 : decode cX10_count 6 = .ok (.tableswitch 103 0 7 #[46, 51, 58, 68, 78, 88, 93, 98], 46) := by decide +kernel
theorem e_X10_count_109 : DC cX10_count 109 1 110 (.iconst (-1)) := ⟨by decide +kernel, rfl⟩
theorem e_X10_count_110 : DC cX10_count 110 1 111 (.ireturn) := ⟨by decide +kernel, rfl⟩
theorem e_X10_count_52 : DC cX10_count 52 1 53 (.aload_n 0) := ⟨by decide +kernel, rfl⟩
theorem e_X10_count_53 : DC cX10_count 53 3 56 (.invokevirtual 221) := ⟨by decide +kernel, rfl⟩
theorem e_X10_count_56 : DC cX10_count 56 1 57 (.ireturn) := ⟨by decide +kernel, rfl⟩
theorem e_X10_count_57 : DC cX10_count 57 1 58 (.aload_n 0) := ⟨by decide +kernel, rfl⟩
theorem e_X10_count_58 : DC cX10_count 58 3 61 (.getfield 13) := ⟨by decide +kernel, rfl⟩
theorem e_X10_count_61 : DC cX10_count 61 1 62 (.iconst 3) := ⟨by decide +kernel, rfl⟩
theorem e_X10_count_62 : DC cX10_count 62 1 63 (.iaload) := ⟨by decide +kernel, rfl⟩
theorem e_X10_count_63 : DC cX10_count 63 1 64 (.ireturn) := ⟨by decide +kernel, rfl⟩
theorem e_X10_count_64 : DC cX10_count 64 1 65 (.aload_n 0) := ⟨by decide +kernel, rfl⟩
theorem e_X10_count_65 : DC cX10_count 65 3 68 (.getfield 59) := ⟨by decide +kernel, rfl⟩
theorem e_X10_count_68 : DC cX10_count 68 3 71 (.sipush 744) := ⟨by decide +kernel, rfl⟩
theorem e_X10_count_71 : DC cX10_count 71 1 72 (.laload) := ⟨by decide +kernel, rfl⟩
theorem e_X10_count_72 : DC cX10_count 72 1 73 (.l2i) := ⟨by decide +kernel, rfl⟩
theorem e_X10_count_73 : DC cX10_count 73 1 74 (.ireturn) := ⟨by decide +kernel, rfl⟩
theorem e_X10_count_74 : DC cX10_count 74 1 75 (.aload_n 0) := ⟨by decide +kernel, rfl⟩
theorem e_X10_count_75 : DC cX10_count 75 3 78 (.getfield 59) := ⟨by decide +kernel, rfl⟩
theorem e_X10_count_78 : DC cX10_count 78 3 81 (.sipush 751) := ⟨by decide +kernel, rfl⟩
theorem e_X10_count_81 : DC cX10_count 81 1 82 (.laload) := ⟨by decide +kernel, rfl⟩
theorem e_X10_count_82 : DC cX10_count 82 1 83 (.l2i) := ⟨by decide +kernel, rfl⟩
theorem e_X10_count_83 : DC cX10_count 83 1 84 (.ireturn) := ⟨by decide +kernel, rfl⟩
theorem e_X10_count_84 : DC cX10_count 84 1 85 (.aload_n 0) := ⟨by decide +kernel, rfl⟩
theorem e_X10_count_85 : DC cX10_count 85 3 88 (.getfield 59) := ⟨by decide +kernel, rfl⟩
theorem e_X10_count_88 : DC cX10_count 88 3 91 (.sipush 752) := ⟨by decide +kernel, rfl⟩
theorem e_X10_count_91 : DC cX10_count 91 1 92 (.laload) := ⟨by decide +kernel, rfl⟩
theorem e_X10_count_92 : DC cX10_count 92 1 93 (.l2i) := ⟨by decide +kernel, rfl⟩
theorem e_X10_count_93 : DC cX10_count 93 1 94 (.ireturn) := ⟨by decide +kernel, rfl⟩
theorem e_X10_count_94 : DC cX10_count 94 1 95 (.aload_n 0) := ⟨by decide +kernel, rfl⟩
theorem e_X10_count_95 : DC cX10_count 95 3 98 (.invokevirtual 373) := ⟨by decide +kernel, rfl⟩
theorem cb_X10_running : CB yX10_running cX10_running 3 (some .int) 0 := ⟨tb_in 1987 (by decide +kernel) (by decide +kernel), tb_in 10 (by decide +kernel) (by decide +kernel), by decide +kernel⟩
theorem ml_X10_373 : Cond.methodLink RX10 373 yX10_running ∈ tb := tb_in 1984 (by decide +kernel) (by decide +kernel)
theorem im_X10_running : Cond.instanceMethod yX10_running ∈ tb := tb_in 1986 (by decide +kernel) (by decide +kernel)
theorem se_X10_running : Cond.selects (yX10_running).cls yX10_running yX10_running ∈ tb := tb_sel 62 (by decide +kernel) (by decide +kernel)
theorem e_X10_count_98 : DC cX10_count 98 1 99 (.ireturn) := ⟨by decide +kernel, rfl⟩
theorem e_X10_count_99 : DC cX10_count 99 1 100 (.aload_n 0) := ⟨by decide +kernel, rfl⟩
theorem e_X10_count_100 : DC cX10_count 100 3 103 (.getfield 214) := ⟨by decide +kernel, rfl⟩
theorem e_X10_count_103 : DC cX10_count 103 1 104 (.ireturn) := ⟨by decide +kernel, rfl⟩
theorem e_X10_count_104 : DC cX10_count 104 1 105 (.aload_n 0) := ⟨by decide +kernel, rfl⟩
theorem e_X10_count_105 : DC cX10_count 105 3 108 (.getfield 94) := ⟨by decide +kernel, rfl⟩
theorem fl_X10_94 : FL RX10 94 8 2 := ⟨RX10, TX10, 37, rfl, by decide, uw_8, tb_in 1462 (by decide +kernel) (by decide +kernel), rfl⟩
theorem e_X10_count_108 : DC cX10_count 108 1 109 (.ireturn) := ⟨by decide +kernel, rfl⟩
theorem sZ744 : sZ 744 = lN 0 := by simp only [sZ, fillJ]; rw [if_neg (by omega)]; rfl
theorem sZ_hi {j : Nat} (h : 744 ≤ j) : sZ j = 0 := by simp only [sZ, fillJ]; rw [if_neg (by omega)]
theorem sZ_ix {j : Nat} (h : j < 100) : sZ (644 + j) = 1000 := by simp only [sZ, fillJ]; rw [if_pos (by omega)]
theorem rng1 {x M : Int32} {n : Nat} (hM : M.toInt = n) (h1 : ¬ x < 1) (h5 : x ≤ M) : ∃ j : Nat, 1 ≤ j ∧ j ≤ n ∧ x = nI j := by
  obtain ⟨j, hj, rfl⟩ := nI_of2 (x := x) (M := M) (n := n) hM (fun h => h1 (Int32.lt_trans h (by decide))) h5
  refine ⟨j, ?_, hj, rfl⟩
  rcases Nat.lt_or_ge j 1 with h | h
  · have : j = 0 := by omega
    subst this
    exact absurd (by decide) h1
  · exact h
def NOA : Int64 := -9223372036854775808
theorem i2l_nn {x : Int32} (h : 0 ≤ x) : 0 ≤ x.toInt64 := by
  rw [Int64.le_iff_toInt_le]
  have h1 := Int32.le_iff_toInt_le.mp h
  rw [Int32.toInt_toInt64]
  exact h1
set_option maxRecDepth 20000 in
theorem n_amount (l : Launch) (V : VX) (N : Nat) (σ : Mem) (m : Nat) (x y : Int32) (hZ : MZ V σ m) : Ct l V yX10_amount cX10_amount 3 (some .long) 3 0 0 N σ [.ref m, .int x, .int y] (fun r _ => r = some (.long (-1))) := by
  refine Ct.of (by decide) (Nat.le_of_ble_eq_true rfl) [(0, .ref m), (1, .int x), (2, .int y)] rfl (fun X hX F hQ => ?_)
  obtain ⟨z0, z1, z2, z3, z4, z5, z6, z7, z8, z9, z10, z11, z12, z13, z14, z15, z16, z17, z18, z19, z20, z21, z22⟩ := hZ
  refine m_aload_n F rfl e_X10_amount_0 ?_
  refine m_iconst F (v := 0) (by decide) e_X10_amount_1 ?_
  refine m_put F e_X10_amount_2 fp_X10_91 z0 rfl rfl (Nat.le_of_ble_eq_true rfl) (fs' := [.int 0, .ref (m + 1), .int 0, .ref (m + 2), .ref (m + 3), .ref (m + 4), .ref (m + 5), .ref (m + 6), .ref (m + 7), .ref (m + 8), .ref (m + 9), .ref (m + 10), .ref (m + 11), .ref (m + 12), .ref (m + 13), .ref (m + 14), .ref (m + 15), .int 0, .int 0, .int 0, .int 0, .int 0, .int 0, .int 0, .int 0, .int 0, .int (-1), .ref (m + 16), .ref (m + 17), .ref (m + 18), .ref (m + 19), .ref (m + 20), .int 0, .int 0, .ref (m + 21), .ref (m + 22), .int 0]) rfl (up_self z0).symm ?_
  refine m_aload_n F rfl e_X10_amount_5 ?_
  refine m_iload_n F rfl e_X10_amount_6 ?_
  refine m_callV F e_X10_amount_7 (k_isLease0 (x_l X) V _ _ m 0 0 0 0 0 0 0 0 0 0 0 (-1) 0 0 0 x z0 z2 ) cb_X10_isLease ml_X10_292 im_X10_isLease se_X10_isLease z0 rfl rfl (rest := []) rfl (Nat.le_of_ble_eq_true rfl) ⟨Nat.le_of_ble_eq_true rfl, Nat.le_of_ble_eq_true rfl⟩ ⟨Nat.le_of_ble_eq_true rfl, Nat.le_of_ble_eq_true rfl⟩ (k' := 0) (z' := 0) (N' := N) rfl rfl rfl (fun r τ hp => ?_)
  obtain ⟨rfl, rfl⟩ := hp
  refine m_if_eq F e_X10_amount_10 (fun _ => ?_) (fun q => absurd (by decide) q)
  refine m_ldc2 F kc_X10_245 e_X10_amount_40 ?_
  exact m_lret F hQ e_X10_amount_43 (rfl)
set_option maxRecDepth 20000 in
theorem n_due (l : Launch) (V : VX) (N : Nat) (σ : Mem) (m : Nat) (x y : Int32) (hZ : MZ V σ m) : Ct l V yX10_due cX10_due 3 (some .long) 3 0 0 N σ [.ref m, .int x, .int y] (fun r _ => r = some (.long (-1))) := by
  refine Ct.of (by decide) (Nat.le_of_ble_eq_true rfl) [(0, .ref m), (1, .int x), (2, .int y)] rfl (fun X hX F hQ => ?_)
  obtain ⟨z0, z1, z2, z3, z4, z5, z6, z7, z8, z9, z10, z11, z12, z13, z14, z15, z16, z17, z18, z19, z20, z21, z22⟩ := hZ
  refine m_aload_n F rfl e_X10_due_0 ?_
  refine m_iconst F (v := 0) (by decide) e_X10_due_1 ?_
  refine m_put F e_X10_due_2 fp_X10_91 z0 rfl rfl (Nat.le_of_ble_eq_true rfl) (fs' := [.int 0, .ref (m + 1), .int 0, .ref (m + 2), .ref (m + 3), .ref (m + 4), .ref (m + 5), .ref (m + 6), .ref (m + 7), .ref (m + 8), .ref (m + 9), .ref (m + 10), .ref (m + 11), .ref (m + 12), .ref (m + 13), .ref (m + 14), .ref (m + 15), .int 0, .int 0, .int 0, .int 0, .int 0, .int 0, .int 0, .int 0, .int 0, .int (-1), .ref (m + 16), .ref (m + 17), .ref (m + 18), .ref (m + 19), .ref (m + 20), .int 0, .int 0, .ref (m + 21), .ref (m + 22), .int 0]) rfl (up_self z0).symm ?_
  refine m_aload_n F rfl e_X10_due_5 ?_
  refine m_iload_n F rfl e_X10_due_6 ?_
  refine m_iload_n F rfl e_X10_due_7 ?_
  refine m_callV F e_X10_due_8 (k_isOwn0 (x_l X) V _ _ m 0 0 0 0 0 0 0 0 0 0 0 (-1) 0 0 0 x y z0 z2 ) cb_X10_isOwn ml_X10_295 im_X10_isOwn se_X10_isOwn z0 rfl rfl (rest := []) rfl (Nat.le_of_ble_eq_true rfl) ⟨Nat.le_of_ble_eq_true rfl, Nat.le_of_ble_eq_true rfl⟩ ⟨Nat.le_of_ble_eq_true rfl, Nat.le_of_ble_eq_true rfl⟩ (k' := 0) (z' := 0) (N' := N) rfl rfl rfl (fun r τ hp => ?_)
  obtain ⟨rfl, rfl⟩ := hp
  refine m_if_eq F e_X10_due_11 (fun _ => ?_) (fun q => absurd (by decide) q)
  refine m_ldc2 F kc_X10_245 e_X10_due_34 ?_
  exact m_lret F hQ e_X10_due_37 (rfl)
set_option maxRecDepth 20000 in
theorem n_worth (l : Launch) (V : VX) (N : Nat) (σ : Mem) (m : Nat) (x y z : Int32) (hZ : MZ V σ m) : Ct l V yX10_worth cX10_worth 4 (some .long) 3 0 0 N σ [.ref m, .int x, .int y, .int z] (fun r _ => r = some (.long (-1))) := by
  refine Ct.of (by decide) (Nat.le_of_ble_eq_true rfl) [(0, .ref m), (1, .int x), (2, .int y), (3, .int z)] rfl (fun X hX F hQ => ?_)
  obtain ⟨z0, z1, z2, z3, z4, z5, z6, z7, z8, z9, z10, z11, z12, z13, z14, z15, z16, z17, z18, z19, z20, z21, z22⟩ := hZ
  refine m_aload_n F rfl e_X10_worth_0 ?_
  refine m_iconst F (v := 0) (by decide) e_X10_worth_1 ?_
  refine m_put F e_X10_worth_2 fp_X10_91 z0 rfl rfl (Nat.le_of_ble_eq_true rfl) (fs' := [.int 0, .ref (m + 1), .int 0, .ref (m + 2), .ref (m + 3), .ref (m + 4), .ref (m + 5), .ref (m + 6), .ref (m + 7), .ref (m + 8), .ref (m + 9), .ref (m + 10), .ref (m + 11), .ref (m + 12), .ref (m + 13), .ref (m + 14), .ref (m + 15), .int 0, .int 0, .int 0, .int 0, .int 0, .int 0, .int 0, .int 0, .int 0, .int (-1), .ref (m + 16), .ref (m + 17), .ref (m + 18), .ref (m + 19), .ref (m + 20), .int 0, .int 0, .ref (m + 21), .ref (m + 22), .int 0]) rfl (up_self z0).symm ?_
  refine m_aload_n F rfl e_X10_worth_5 ?_
  refine m_iload_n F rfl e_X10_worth_6 ?_
  refine m_iload_n F rfl e_X10_worth_7 ?_
  refine m_callV F e_X10_worth_8 (k_isOwn0 (x_l X) V _ _ m 0 0 0 0 0 0 0 0 0 0 0 (-1) 0 0 0 x y z0 z2 ) cb_X10_isOwn ml_X10_295 im_X10_isOwn se_X10_isOwn z0 rfl rfl (rest := []) rfl (Nat.le_of_ble_eq_true rfl) ⟨Nat.le_of_ble_eq_true rfl, Nat.le_of_ble_eq_true rfl⟩ ⟨Nat.le_of_ble_eq_true rfl, Nat.le_of_ble_eq_true rfl⟩ (k' := 0) (z' := 0) (N' := N) rfl rfl rfl (fun r τ hp => ?_)
  obtain ⟨rfl, rfl⟩ := hp
  refine m_if_eq F e_X10_worth_11 (fun _ => ?_) (fun q => absurd (by decide) q)
  refine m_ldc2 F kc_X10_245 e_X10_worth_41 ?_
  exact m_lret F hQ e_X10_worth_44 (rfl)
set_option maxRecDepth 20000 in
theorem n_plan (l : Launch) (V : VX) (N : Nat) (σ : Mem) (m : Nat) (x y z : Int32) (hZ : MZ V σ m) : Ct l V yX10_plan cX10_plan 10 (some .long) 3 0 0 N σ [.ref m, .int x, .int y, .int z] (fun r _ => r = some (.long (-1))) := by
  refine Ct.of (by decide) (Nat.le_of_ble_eq_true rfl) [(0, .ref m), (1, .int x), (2, .int y), (3, .int z)] rfl (fun X hX F hQ => ?_)
  obtain ⟨z0, z1, z2, z3, z4, z5, z6, z7, z8, z9, z10, z11, z12, z13, z14, z15, z16, z17, z18, z19, z20, z21, z22⟩ := hZ
  refine m_aload_n F rfl e_X10_plan_0 ?_
  refine m_iconst F (v := 0) (by decide) e_X10_plan_1 ?_
  refine m_put F e_X10_plan_2 fp_X10_91 z0 rfl rfl (Nat.le_of_ble_eq_true rfl) (fs' := [.int 0, .ref (m + 1), .int 0, .ref (m + 2), .ref (m + 3), .ref (m + 4), .ref (m + 5), .ref (m + 6), .ref (m + 7), .ref (m + 8), .ref (m + 9), .ref (m + 10), .ref (m + 11), .ref (m + 12), .ref (m + 13), .ref (m + 14), .ref (m + 15), .int 0, .int 0, .int 0, .int 0, .int 0, .int 0, .int 0, .int 0, .int 0, .int (-1), .ref (m + 16), .ref (m + 17), .ref (m + 18), .ref (m + 19), .ref (m + 20), .int 0, .int 0, .ref (m + 21), .ref (m + 22), .int 0]) rfl (up_self z0).symm ?_
  refine m_aload_n F rfl e_X10_plan_5 ?_
  refine m_iload_n F rfl e_X10_plan_6 ?_
  refine m_callV F e_X10_plan_7 (k_isLease0 (x_l X) V _ _ m 0 0 0 0 0 0 0 0 0 0 0 (-1) 0 0 0 x z0 z2 ) cb_X10_isLease ml_X10_292 im_X10_isLease se_X10_isLease z0 rfl rfl (rest := []) rfl (Nat.le_of_ble_eq_true rfl) ⟨Nat.le_of_ble_eq_true rfl, Nat.le_of_ble_eq_true rfl⟩ ⟨Nat.le_of_ble_eq_true rfl, Nat.le_of_ble_eq_true rfl⟩ (k' := 0) (z' := 0) (N' := N) rfl rfl rfl (fun r τ hp => ?_)
  obtain ⟨rfl, rfl⟩ := hp
  refine m_if_eq F e_X10_plan_10 (fun _ => ?_) (fun q => absurd (by decide) q)
  refine m_ldc2 F kc_X10_245 e_X10_plan_29 ?_
  exact m_lret F hQ e_X10_plan_32 (rfl)
set_option maxRecDepth 20000 in
theorem n_soon (l : Launch) (V : VX) (N : Nat) (σ : Mem) (m : Nat) (x y : Int32) (hZ : MZ V σ m) : Ct l V yX10_soon cX10_soon 7 (some .long) 3 0 0 N σ [.ref m, .int x, .int y] (fun r _ => r = some (.long (-1))) := by
  refine Ct.of (by decide) (Nat.le_of_ble_eq_true rfl) [(0, .ref m), (1, .int x), (2, .int y)] rfl (fun X hX F hQ => ?_)
  obtain ⟨z0, z1, z2, z3, z4, z5, z6, z7, z8, z9, z10, z11, z12, z13, z14, z15, z16, z17, z18, z19, z20, z21, z22⟩ := hZ
  refine m_aload_n F rfl e_X10_soon_0 ?_
  refine m_iconst F (v := 0) (by decide) e_X10_soon_1 ?_
  refine m_put F e_X10_soon_2 fp_X10_91 z0 rfl rfl (Nat.le_of_ble_eq_true rfl) (fs' := [.int 0, .ref (m + 1), .int 0, .ref (m + 2), .ref (m + 3), .ref (m + 4), .ref (m + 5), .ref (m + 6), .ref (m + 7), .ref (m + 8), .ref (m + 9), .ref (m + 10), .ref (m + 11), .ref (m + 12), .ref (m + 13), .ref (m + 14), .ref (m + 15), .int 0, .int 0, .int 0, .int 0, .int 0, .int 0, .int 0, .int 0, .int 0, .int (-1), .ref (m + 16), .ref (m + 17), .ref (m + 18), .ref (m + 19), .ref (m + 20), .int 0, .int 0, .ref (m + 21), .ref (m + 22), .int 0]) rfl (up_self z0).symm ?_
  refine m_aload_n F rfl e_X10_soon_5 ?_
  refine m_iload_n F rfl e_X10_soon_6 ?_
  refine m_callV F e_X10_soon_7 (k_isLease0 (x_l X) V _ _ m 0 0 0 0 0 0 0 0 0 0 0 (-1) 0 0 0 x z0 z2 ) cb_X10_isLease ml_X10_292 im_X10_isLease se_X10_isLease z0 rfl rfl (rest := []) rfl (Nat.le_of_ble_eq_true rfl) ⟨Nat.le_of_ble_eq_true rfl, Nat.le_of_ble_eq_true rfl⟩ ⟨Nat.le_of_ble_eq_true rfl, Nat.le_of_ble_eq_true rfl⟩ (k' := 0) (z' := 0) (N' := N) rfl rfl rfl (fun r τ hp => ?_)
  obtain ⟨rfl, rfl⟩ := hp
  refine m_if_eq F e_X10_soon_10 (fun _ => ?_) (fun q => absurd (by decide) q)
  refine m_ldc2 F kc_X10_245 e_X10_soon_22 ?_
  exact m_lret F hQ e_X10_soon_25 (rfl)
set_option maxRecDepth 20000 in
theorem n_life (l : Launch) (V : VX) (N : Nat) (σ : Mem) (m : Nat) (x y : Int32) (hZ : MZ V σ m) : Ct l V yX10_life cX10_life 11 (some .long) 3 0 0 N σ [.ref m, .int x, .int y] (fun r _ => r = some (.long (-1))) := by
  refine Ct.of (by decide) (Nat.le_of_ble_eq_true rfl) [(0, .ref m), (1, .int x), (2, .int y)] rfl (fun X hX F hQ => ?_)
  obtain ⟨z0, z1, z2, z3, z4, z5, z6, z7, z8, z9, z10, z11, z12, z13, z14, z15, z16, z17, z18, z19, z20, z21, z22⟩ := hZ
  refine m_aload_n F rfl e_X10_life_0 ?_
  refine m_iconst F (v := 0) (by decide) e_X10_life_1 ?_
  refine m_put F e_X10_life_2 fp_X10_91 z0 rfl rfl (Nat.le_of_ble_eq_true rfl) (fs' := [.int 0, .ref (m + 1), .int 0, .ref (m + 2), .ref (m + 3), .ref (m + 4), .ref (m + 5), .ref (m + 6), .ref (m + 7), .ref (m + 8), .ref (m + 9), .ref (m + 10), .ref (m + 11), .ref (m + 12), .ref (m + 13), .ref (m + 14), .ref (m + 15), .int 0, .int 0, .int 0, .int 0, .int 0, .int 0, .int 0, .int 0, .int 0, .int (-1), .ref (m + 16), .ref (m + 17), .ref (m + 18), .ref (m + 19), .ref (m + 20), .int 0, .int 0, .ref (m + 21), .ref (m + 22), .int 0]) rfl (up_self z0).symm ?_
  refine m_aload_n F rfl e_X10_life_5 ?_
  refine m_iload_n F rfl e_X10_life_6 ?_
  refine m_callV F e_X10_life_7 (k_isLease0 (x_l X) V _ _ m 0 0 0 0 0 0 0 0 0 0 0 (-1) 0 0 0 x z0 z2 ) cb_X10_isLease ml_X10_292 im_X10_isLease se_X10_isLease z0 rfl rfl (rest := []) rfl (Nat.le_of_ble_eq_true rfl) ⟨Nat.le_of_ble_eq_true rfl, Nat.le_of_ble_eq_true rfl⟩ ⟨Nat.le_of_ble_eq_true rfl, Nat.le_of_ble_eq_true rfl⟩ (k' := 0) (z' := 0) (N' := N) rfl rfl rfl (fun r τ hp => ?_)
  obtain ⟨rfl, rfl⟩ := hp
  refine m_if_ne F e_X10_life_10 (fun q => absurd (by decide) q) (fun _ => ?_)
  refine m_ldc2 F kc_X10_245 e_X10_life_13 ?_
  exact m_lret F hQ e_X10_life_16 (rfl)
set_option maxRecDepth 20000 in
theorem n_ifIndex (l : Launch) (V : VX) (N : Nat) (σ : Mem) (m : Nat) (x y : Int32) (hZ : MZ V σ m) : Ct l V yX10_ifIndex cX10_ifIndex 5 (some .long) 3 0 0 N σ [.ref m, .int x, .int y] (fun r _ => r = some (.long (-1))) := by
  refine Ct.of (by decide) (Nat.le_of_ble_eq_true rfl) [(0, .ref m), (1, .int x), (2, .int y)] rfl (fun X hX F hQ => ?_)
  obtain ⟨z0, z1, z2, z3, z4, z5, z6, z7, z8, z9, z10, z11, z12, z13, z14, z15, z16, z17, z18, z19, z20, z21, z22⟩ := hZ
  refine m_aload_n F rfl e_X10_ifIndex_0 ?_
  refine m_iconst F (v := 0) (by decide) e_X10_ifIndex_1 ?_
  refine m_put F e_X10_ifIndex_2 fp_X10_91 z0 rfl rfl (Nat.le_of_ble_eq_true rfl) (fs' := [.int 0, .ref (m + 1), .int 0, .ref (m + 2), .ref (m + 3), .ref (m + 4), .ref (m + 5), .ref (m + 6), .ref (m + 7), .ref (m + 8), .ref (m + 9), .ref (m + 10), .ref (m + 11), .ref (m + 12), .ref (m + 13), .ref (m + 14), .ref (m + 15), .int 0, .int 0, .int 0, .int 0, .int 0, .int 0, .int 0, .int 0, .int 0, .int (-1), .ref (m + 16), .ref (m + 17), .ref (m + 18), .ref (m + 19), .ref (m + 20), .int 0, .int 0, .ref (m + 21), .ref (m + 22), .int 0]) rfl (up_self z0).symm ?_
  refine m_aload_n F rfl e_X10_ifIndex_5 ?_
  refine m_iload_n F rfl e_X10_ifIndex_6 ?_
  refine m_callV F e_X10_ifIndex_7 (k_isLease0 (x_l X) V _ _ m 0 0 0 0 0 0 0 0 0 0 0 (-1) 0 0 0 x z0 z2 ) cb_X10_isLease ml_X10_292 im_X10_isLease se_X10_isLease z0 rfl rfl (rest := []) rfl (Nat.le_of_ble_eq_true rfl) ⟨Nat.le_of_ble_eq_true rfl, Nat.le_of_ble_eq_true rfl⟩ ⟨Nat.le_of_ble_eq_true rfl, Nat.le_of_ble_eq_true rfl⟩ (k' := 0) (z' := 0) (N' := N) rfl rfl rfl (fun r τ hp => ?_)
  obtain ⟨rfl, rfl⟩ := hp
  refine m_if_eq F e_X10_ifIndex_10 (fun _ => ?_) (fun q => absurd (by decide) q)
  refine m_ldc2 F kc_X10_245 e_X10_ifIndex_27 ?_
  exact m_lret F hQ e_X10_ifIndex_30 (rfl)
set_option maxRecDepth 20000 in
theorem n_moved (l : Launch) (V : VX) (N : Nat) (σ : Mem) (m : Nat) (x y : Int32) (hZ : MZ V σ m) : Ct l V yX10_moved cX10_moved 3 (some .long) 3 0 0 N σ [.ref m, .int x, .int y] (fun r _ => r = some (.long NOA)) := by
  refine Ct.of (by decide) (Nat.le_of_ble_eq_true rfl) [(0, .ref m), (1, .int x), (2, .int y)] rfl (fun X hX F hQ => ?_)
  obtain ⟨z0, z1, z2, z3, z4, z5, z6, z7, z8, z9, z10, z11, z12, z13, z14, z15, z16, z17, z18, z19, z20, z21, z22⟩ := hZ
  refine m_aload_n F rfl e_X10_moved_0 ?_
  refine m_iconst F (v := 0) (by decide) e_X10_moved_1 ?_
  refine m_put F e_X10_moved_2 fp_X10_91 z0 rfl rfl (Nat.le_of_ble_eq_true rfl) (fs' := [.int 0, .ref (m + 1), .int 0, .ref (m + 2), .ref (m + 3), .ref (m + 4), .ref (m + 5), .ref (m + 6), .ref (m + 7), .ref (m + 8), .ref (m + 9), .ref (m + 10), .ref (m + 11), .ref (m + 12), .ref (m + 13), .ref (m + 14), .ref (m + 15), .int 0, .int 0, .int 0, .int 0, .int 0, .int 0, .int 0, .int 0, .int 0, .int (-1), .ref (m + 16), .ref (m + 17), .ref (m + 18), .ref (m + 19), .ref (m + 20), .int 0, .int 0, .ref (m + 21), .ref (m + 22), .int 0]) rfl (up_self z0).symm ?_
  refine m_aload_n F rfl e_X10_moved_5 ?_
  refine m_iload_n F rfl e_X10_moved_6 ?_
  refine m_callV F e_X10_moved_7 (k_isLease0 (x_l X) V _ _ m 0 0 0 0 0 0 0 0 0 0 0 (-1) 0 0 0 x z0 z2 ) cb_X10_isLease ml_X10_292 im_X10_isLease se_X10_isLease z0 rfl rfl (rest := []) rfl (Nat.le_of_ble_eq_true rfl) ⟨Nat.le_of_ble_eq_true rfl, Nat.le_of_ble_eq_true rfl⟩ ⟨Nat.le_of_ble_eq_true rfl, Nat.le_of_ble_eq_true rfl⟩ (k' := 0) (z' := 0) (N' := N) rfl rfl rfl (fun r τ hp => ?_)
  obtain ⟨rfl, rfl⟩ := hp
  refine m_if_eq F e_X10_moved_10 (fun _ => ?_) (fun q => absurd (by decide) q)
  refine m_ldc2 F kc_X10_299 e_X10_moved_40 ?_
  exact m_lret F hQ e_X10_moved_43 (rfl)
set_option maxRecDepth 20000 in
theorem n_rate (l : Launch) (V : VX) (N : Nat) (σ : Mem) (m : Nat) (x y : Int32) (hZ : MZ V σ m) : Ct l V yX10_rate cX10_rate 3 (some .long) 3 0 0 N σ [.ref m, .int x, .int y] (fun r _ => r = some (.long NOA)) := by
  refine Ct.of (by decide) (Nat.le_of_ble_eq_true rfl) [(0, .ref m), (1, .int x), (2, .int y)] rfl (fun X hX F hQ => ?_)
  obtain ⟨z0, z1, z2, z3, z4, z5, z6, z7, z8, z9, z10, z11, z12, z13, z14, z15, z16, z17, z18, z19, z20, z21, z22⟩ := hZ
  refine m_aload_n F rfl e_X10_rate_0 ?_
  refine m_iconst F (v := 0) (by decide) e_X10_rate_1 ?_
  refine m_put F e_X10_rate_2 fp_X10_91 z0 rfl rfl (Nat.le_of_ble_eq_true rfl) (fs' := [.int 0, .ref (m + 1), .int 0, .ref (m + 2), .ref (m + 3), .ref (m + 4), .ref (m + 5), .ref (m + 6), .ref (m + 7), .ref (m + 8), .ref (m + 9), .ref (m + 10), .ref (m + 11), .ref (m + 12), .ref (m + 13), .ref (m + 14), .ref (m + 15), .int 0, .int 0, .int 0, .int 0, .int 0, .int 0, .int 0, .int 0, .int 0, .int (-1), .ref (m + 16), .ref (m + 17), .ref (m + 18), .ref (m + 19), .ref (m + 20), .int 0, .int 0, .ref (m + 21), .ref (m + 22), .int 0]) rfl (up_self z0).symm ?_
  refine m_aload_n F rfl e_X10_rate_5 ?_
  refine m_iload_n F rfl e_X10_rate_6 ?_
  refine m_callV F e_X10_rate_7 (k_isRunning0 (x_l X) V _ _ m 0 0 0 0 0 0 0 0 0 0 0 (-1) 0 0 0 x z0 z2 ) cb_X10_isRunning ml_X10_301 im_X10_isRunning se_X10_isRunning z0 rfl rfl (rest := []) rfl (Nat.le_of_ble_eq_true rfl) ⟨Nat.le_of_ble_eq_true rfl, Nat.le_of_ble_eq_true rfl⟩ ⟨Nat.le_of_ble_eq_true rfl, Nat.le_of_ble_eq_true rfl⟩ (k' := 0) (z' := 0) (N' := N) rfl rfl rfl (fun r τ hp => ?_)
  obtain ⟨rfl, rfl⟩ := hp
  refine m_if_eq F e_X10_rate_10 (fun _ => ?_) (fun q => absurd (by decide) q)
  refine m_ldc2 F kc_X10_299 e_X10_rate_23 ?_
  exact m_lret F hQ e_X10_rate_26 (rfl)
set_option maxRecDepth 20000 in
theorem n_extend (l : Launch) (V : VX) (N : Nat) (σ : Mem) (m : Nat) (x y : Int32) (hZ : MZ V σ m) : Ct l V yX10_extend cX10_extend 4 (some .long) 3 0 0 N σ [.ref m, .int x, .int y] (fun r _ => r = some (.long NOA)) := by
  refine Ct.of (by decide) (Nat.le_of_ble_eq_true rfl) [(0, .ref m), (1, .int x), (2, .int y)] rfl (fun X hX F hQ => ?_)
  obtain ⟨z0, z1, z2, z3, z4, z5, z6, z7, z8, z9, z10, z11, z12, z13, z14, z15, z16, z17, z18, z19, z20, z21, z22⟩ := hZ
  refine m_aload_n F rfl e_X10_extend_0 ?_
  refine m_iconst F (v := 0) (by decide) e_X10_extend_1 ?_
  refine m_put F e_X10_extend_2 fp_X10_91 z0 rfl rfl (Nat.le_of_ble_eq_true rfl) (fs' := [.int 0, .ref (m + 1), .int 0, .ref (m + 2), .ref (m + 3), .ref (m + 4), .ref (m + 5), .ref (m + 6), .ref (m + 7), .ref (m + 8), .ref (m + 9), .ref (m + 10), .ref (m + 11), .ref (m + 12), .ref (m + 13), .ref (m + 14), .ref (m + 15), .int 0, .int 0, .int 0, .int 0, .int 0, .int 0, .int 0, .int 0, .int 0, .int (-1), .ref (m + 16), .ref (m + 17), .ref (m + 18), .ref (m + 19), .ref (m + 20), .int 0, .int 0, .ref (m + 21), .ref (m + 22), .int 0]) rfl (up_self z0).symm ?_
  refine m_aload_n F rfl e_X10_extend_5 ?_
  refine m_iload_n F rfl e_X10_extend_6 ?_
  refine m_callV F e_X10_extend_7 (k_isRunning0 (x_l X) V _ _ m 0 0 0 0 0 0 0 0 0 0 0 (-1) 0 0 0 x z0 z2 ) cb_X10_isRunning ml_X10_301 im_X10_isRunning se_X10_isRunning z0 rfl rfl (rest := []) rfl (Nat.le_of_ble_eq_true rfl) ⟨Nat.le_of_ble_eq_true rfl, Nat.le_of_ble_eq_true rfl⟩ ⟨Nat.le_of_ble_eq_true rfl, Nat.le_of_ble_eq_true rfl⟩ (k' := 0) (z' := 0) (N' := N) rfl rfl rfl (fun r τ hp => ?_)
  obtain ⟨rfl, rfl⟩ := hp
  refine m_if_eq F e_X10_extend_10 (fun _ => ?_) (fun q => absurd (by decide) q)
  refine m_ldc2 F kc_X10_299 e_X10_extend_33 ?_
  exact m_lret F hQ e_X10_extend_36 (rfl)
set_option maxRecDepth 20000 in
theorem n_take (l : Launch) (V : VX) (N : Nat) (σ : Mem) (m : Nat) (x : Int32) (hZ : MZ V σ m) : Ct l V yX10_take cX10_take 2 (some .long) 3 0 0 N σ [.ref m, .int x] (fun r _ => r = some (.long NOA)) := by
  refine Ct.of (by decide) (Nat.le_of_ble_eq_true rfl) [(0, .ref m), (1, .int x)] rfl (fun X hX F hQ => ?_)
  obtain ⟨z0, z1, z2, z3, z4, z5, z6, z7, z8, z9, z10, z11, z12, z13, z14, z15, z16, z17, z18, z19, z20, z21, z22⟩ := hZ
  refine m_aload_n F rfl e_X10_take_0 ?_
  refine m_iconst F (v := 0) (by decide) e_X10_take_1 ?_
  refine m_put F e_X10_take_2 fp_X10_91 z0 rfl rfl (Nat.le_of_ble_eq_true rfl) (fs' := [.int 0, .ref (m + 1), .int 0, .ref (m + 2), .ref (m + 3), .ref (m + 4), .ref (m + 5), .ref (m + 6), .ref (m + 7), .ref (m + 8), .ref (m + 9), .ref (m + 10), .ref (m + 11), .ref (m + 12), .ref (m + 13), .ref (m + 14), .ref (m + 15), .int 0, .int 0, .int 0, .int 0, .int 0, .int 0, .int 0, .int 0, .int 0, .int (-1), .ref (m + 16), .ref (m + 17), .ref (m + 18), .ref (m + 19), .ref (m + 20), .int 0, .int 0, .ref (m + 21), .ref (m + 22), .int 0]) rfl (up_self z0).symm ?_
  refine m_aload_n F rfl e_X10_take_5 ?_
  refine m_iload_n F rfl e_X10_take_6 ?_
  refine m_callV F e_X10_take_7 (k_canTake0 (x_l X) V _ _ m 0 0 0 0 0 0 0 0 0 0 0 (-1) 0 0 0 x z0 z2 ) cb_X10_canTake ml_X10_313 im_X10_canTake se_X10_canTake z0 rfl rfl (rest := []) rfl (Nat.le_of_ble_eq_true rfl) ⟨Nat.le_of_ble_eq_true rfl, Nat.le_of_ble_eq_true rfl⟩ ⟨Nat.le_of_ble_eq_true rfl, Nat.le_of_ble_eq_true rfl⟩ (k' := 0) (z' := 0) (N' := N) rfl rfl rfl (fun r τ hp => ?_)
  obtain ⟨rfl, rfl⟩ := hp
  refine m_if_ne F e_X10_take_10 (fun q => absurd (by decide) q) (fun _ => ?_)
  refine m_ldc2 F kc_X10_299 e_X10_take_13 ?_
  exact m_lret F hQ e_X10_take_16 (rfl)
set_option maxRecDepth 20000 in
theorem n_part (l : Launch) (V : VX) (N : Nat) (σ : Mem) (m : Nat) (x y : Int32) (hZ : MZ V σ m) : Ct l V yX10_part cX10_part 9 (some .long) 3 0 0 N σ [.ref m, .int x, .int y] (fun r _ => r = some (.long NOA)) := by
  refine Ct.of (by decide) (Nat.le_of_ble_eq_true rfl) [(0, .ref m), (1, .int x), (2, .int y)] rfl (fun X hX F hQ => ?_)
  obtain ⟨z0, z1, z2, z3, z4, z5, z6, z7, z8, z9, z10, z11, z12, z13, z14, z15, z16, z17, z18, z19, z20, z21, z22⟩ := hZ
  refine m_aload_n F rfl e_X10_part_0 ?_
  refine m_iconst F (v := 0) (by decide) e_X10_part_1 ?_
  refine m_put F e_X10_part_2 fp_X10_91 z0 rfl rfl (Nat.le_of_ble_eq_true rfl) (fs' := [.int 0, .ref (m + 1), .int 0, .ref (m + 2), .ref (m + 3), .ref (m + 4), .ref (m + 5), .ref (m + 6), .ref (m + 7), .ref (m + 8), .ref (m + 9), .ref (m + 10), .ref (m + 11), .ref (m + 12), .ref (m + 13), .ref (m + 14), .ref (m + 15), .int 0, .int 0, .int 0, .int 0, .int 0, .int 0, .int 0, .int 0, .int 0, .int (-1), .ref (m + 16), .ref (m + 17), .ref (m + 18), .ref (m + 19), .ref (m + 20), .int 0, .int 0, .ref (m + 21), .ref (m + 22), .int 0]) rfl (up_self z0).symm ?_
  refine m_aload_n F rfl e_X10_part_5 ?_
  refine m_iload_n F rfl e_X10_part_6 ?_
  refine m_callV F e_X10_part_7 (k_isRunning0 (x_l X) V _ _ m 0 0 0 0 0 0 0 0 0 0 0 (-1) 0 0 0 x z0 z2 ) cb_X10_isRunning ml_X10_301 im_X10_isRunning se_X10_isRunning z0 rfl rfl (rest := []) rfl (Nat.le_of_ble_eq_true rfl) ⟨Nat.le_of_ble_eq_true rfl, Nat.le_of_ble_eq_true rfl⟩ ⟨Nat.le_of_ble_eq_true rfl, Nat.le_of_ble_eq_true rfl⟩ (k' := 0) (z' := 0) (N' := N) rfl rfl rfl (fun r τ hp => ?_)
  obtain ⟨rfl, rfl⟩ := hp
  refine m_if_eq F e_X10_part_10 (fun _ => ?_) (fun q => absurd (by decide) q)
  refine m_ldc2 F kc_X10_299 e_X10_part_25 ?_
  exact m_lret F hQ e_X10_part_28 (rfl)
set_option maxRecDepth 20000 in
theorem n_end (l : Launch) (V : VX) (N : Nat) (σ : Mem) (m : Nat) (x : Int32) (hZ : MZ V σ m) : Ct l V yX10_end cX10_end 5 (some .long) 3 0 0 N σ [.ref m, .int x] (fun r _ => r = some (.long NOA)) := by
  refine Ct.of (by decide) (Nat.le_of_ble_eq_true rfl) [(0, .ref m), (1, .int x)] rfl (fun X hX F hQ => ?_)
  obtain ⟨z0, z1, z2, z3, z4, z5, z6, z7, z8, z9, z10, z11, z12, z13, z14, z15, z16, z17, z18, z19, z20, z21, z22⟩ := hZ
  refine m_aload_n F rfl e_X10_end_0 ?_
  refine m_iconst F (v := 0) (by decide) e_X10_end_1 ?_
  refine m_put F e_X10_end_2 fp_X10_91 z0 rfl rfl (Nat.le_of_ble_eq_true rfl) (fs' := [.int 0, .ref (m + 1), .int 0, .ref (m + 2), .ref (m + 3), .ref (m + 4), .ref (m + 5), .ref (m + 6), .ref (m + 7), .ref (m + 8), .ref (m + 9), .ref (m + 10), .ref (m + 11), .ref (m + 12), .ref (m + 13), .ref (m + 14), .ref (m + 15), .int 0, .int 0, .int 0, .int 0, .int 0, .int 0, .int 0, .int 0, .int 0, .int (-1), .ref (m + 16), .ref (m + 17), .ref (m + 18), .ref (m + 19), .ref (m + 20), .int 0, .int 0, .ref (m + 21), .ref (m + 22), .int 0]) rfl (up_self z0).symm ?_
  refine m_aload_n F rfl e_X10_end_5 ?_
  refine m_iload_n F rfl e_X10_end_6 ?_
  refine m_callV F e_X10_end_7 (k_isRunning0 (x_l X) V _ _ m 0 0 0 0 0 0 0 0 0 0 0 (-1) 0 0 0 x z0 z2 ) cb_X10_isRunning ml_X10_301 im_X10_isRunning se_X10_isRunning z0 rfl rfl (rest := []) rfl (Nat.le_of_ble_eq_true rfl) ⟨Nat.le_of_ble_eq_true rfl, Nat.le_of_ble_eq_true rfl⟩ ⟨Nat.le_of_ble_eq_true rfl, Nat.le_of_ble_eq_true rfl⟩ (k' := 0) (z' := 0) (N' := N) rfl rfl rfl (fun r τ hp => ?_)
  obtain ⟨rfl, rfl⟩ := hp
  refine m_if_ne F e_X10_end_10 (fun q => absurd (by decide) q) (fun _ => ?_)
  refine m_ldc2 F kc_X10_299 e_X10_end_13 ?_
  exact m_lret F hQ e_X10_end_16 (rfl)
set_option maxRecDepth 20000 in
theorem n_putOff (l : Launch) (V : VX) (N : Nat) (σ : Mem) (m : Nat) (x y z : Int32) (hZ : MZ V σ m) : Ct l V yX10_putOff cX10_putOff 5 (some .long) 3 0 0 N σ [.ref m, .int x, .int y, .int z] (fun r _ => r = some (.long NOA)) := by
  refine Ct.of (by decide) (Nat.le_of_ble_eq_true rfl) [(0, .ref m), (1, .int x), (2, .int y), (3, .int z)] rfl (fun X hX F hQ => ?_)
  obtain ⟨z0, z1, z2, z3, z4, z5, z6, z7, z8, z9, z10, z11, z12, z13, z14, z15, z16, z17, z18, z19, z20, z21, z22⟩ := hZ
  refine m_aload_n F rfl e_X10_putOff_0 ?_
  refine m_iconst F (v := 0) (by decide) e_X10_putOff_1 ?_
  refine m_put F e_X10_putOff_2 fp_X10_91 z0 rfl rfl (Nat.le_of_ble_eq_true rfl) (fs' := [.int 0, .ref (m + 1), .int 0, .ref (m + 2), .ref (m + 3), .ref (m + 4), .ref (m + 5), .ref (m + 6), .ref (m + 7), .ref (m + 8), .ref (m + 9), .ref (m + 10), .ref (m + 11), .ref (m + 12), .ref (m + 13), .ref (m + 14), .ref (m + 15), .int 0, .int 0, .int 0, .int 0, .int 0, .int 0, .int 0, .int 0, .int 0, .int (-1), .ref (m + 16), .ref (m + 17), .ref (m + 18), .ref (m + 19), .ref (m + 20), .int 0, .int 0, .ref (m + 21), .ref (m + 22), .int 0]) rfl (up_self z0).symm ?_
  refine m_aload_n F rfl e_X10_putOff_5 ?_
  refine m_iload_n F rfl e_X10_putOff_6 ?_
  refine m_callV F e_X10_putOff_7 (k_isRunning0 (x_l X) V _ _ m 0 0 0 0 0 0 0 0 0 0 0 (-1) 0 0 0 x z0 z2 ) cb_X10_isRunning ml_X10_301 im_X10_isRunning se_X10_isRunning z0 rfl rfl (rest := []) rfl (Nat.le_of_ble_eq_true rfl) ⟨Nat.le_of_ble_eq_true rfl, Nat.le_of_ble_eq_true rfl⟩ ⟨Nat.le_of_ble_eq_true rfl, Nat.le_of_ble_eq_true rfl⟩ (k' := 0) (z' := 0) (N' := N) rfl rfl rfl (fun r τ hp => ?_)
  obtain ⟨rfl, rfl⟩ := hp
  refine m_if_eq F e_X10_putOff_10 (fun _ => ?_) (fun q => absurd (by decide) q)
  refine m_ldc2 F kc_X10_299 e_X10_putOff_54 ?_
  exact m_lret F hQ e_X10_putOff_57 (rfl)
set_option maxRecDepth 20000 in
theorem n_ifTaken (l : Launch) (V : VX) (N : Nat) (σ : Mem) (m : Nat) (x : Int32) (hZ : MZ V σ m) : Ct l V yX10_ifTaken cX10_ifTaken 4 (some .long) 3 0 0 N σ [.ref m, .int x] (fun r _ => r = some (.long NOA)) := by
  refine Ct.of (by decide) (Nat.le_of_ble_eq_true rfl) [(0, .ref m), (1, .int x)] rfl (fun X hX F hQ => ?_)
  obtain ⟨z0, z1, z2, z3, z4, z5, z6, z7, z8, z9, z10, z11, z12, z13, z14, z15, z16, z17, z18, z19, z20, z21, z22⟩ := hZ
  refine m_aload_n F rfl e_X10_ifTaken_0 ?_
  refine m_iconst F (v := 0) (by decide) e_X10_ifTaken_1 ?_
  refine m_put F e_X10_ifTaken_2 fp_X10_91 z0 rfl rfl (Nat.le_of_ble_eq_true rfl) (fs' := [.int 0, .ref (m + 1), .int 0, .ref (m + 2), .ref (m + 3), .ref (m + 4), .ref (m + 5), .ref (m + 6), .ref (m + 7), .ref (m + 8), .ref (m + 9), .ref (m + 10), .ref (m + 11), .ref (m + 12), .ref (m + 13), .ref (m + 14), .ref (m + 15), .int 0, .int 0, .int 0, .int 0, .int 0, .int 0, .int 0, .int 0, .int 0, .int (-1), .ref (m + 16), .ref (m + 17), .ref (m + 18), .ref (m + 19), .ref (m + 20), .int 0, .int 0, .ref (m + 21), .ref (m + 22), .int 0]) rfl (up_self z0).symm ?_
  refine m_aload_n F rfl e_X10_ifTaken_5 ?_
  refine m_iload_n F rfl e_X10_ifTaken_6 ?_
  refine m_callV F e_X10_ifTaken_7 (k_canTake0 (x_l X) V _ _ m 0 0 0 0 0 0 0 0 0 0 0 (-1) 0 0 0 x z0 z2 ) cb_X10_canTake ml_X10_313 im_X10_canTake se_X10_canTake z0 rfl rfl (rest := []) rfl (Nat.le_of_ble_eq_true rfl) ⟨Nat.le_of_ble_eq_true rfl, Nat.le_of_ble_eq_true rfl⟩ ⟨Nat.le_of_ble_eq_true rfl, Nat.le_of_ble_eq_true rfl⟩ (k' := 0) (z' := 0) (N' := N) rfl rfl rfl (fun r τ hp => ?_)
  obtain ⟨rfl, rfl⟩ := hp
  refine m_if_ne F e_X10_ifTaken_10 (fun q => absurd (by decide) q) (fun _ => ?_)
  refine m_ldc2 F kc_X10_299 e_X10_ifTaken_13 ?_
  exact m_lret F hQ e_X10_ifTaken_16 (rfl)
set_option maxRecDepth 20000 in
theorem n_down (l : Launch) (V : VX) (N : Nat) (σ : Mem) (m : Nat) (x : Int32) (v : Int64) (hZ : MZ V σ m) : Ct l V yX10_down cX10_down 4 (some .long) 3 0 0 N σ [.ref m, .int x, .long v] (fun r _ => r = some (.long NOA)) := by
  refine Ct.of (by decide) (Nat.le_of_ble_eq_true rfl) [(0, .ref m), (1, .int x), (2, .long v)] rfl (fun X hX F hQ => ?_)
  obtain ⟨z0, z1, z2, z3, z4, z5, z6, z7, z8, z9, z10, z11, z12, z13, z14, z15, z16, z17, z18, z19, z20, z21, z22⟩ := hZ
  refine m_aload_n F rfl e_X10_down_0 ?_
  refine m_iconst F (v := 0) (by decide) e_X10_down_1 ?_
  refine m_put F e_X10_down_2 fp_X10_91 z0 rfl rfl (Nat.le_of_ble_eq_true rfl) (fs' := [.int 0, .ref (m + 1), .int 0, .ref (m + 2), .ref (m + 3), .ref (m + 4), .ref (m + 5), .ref (m + 6), .ref (m + 7), .ref (m + 8), .ref (m + 9), .ref (m + 10), .ref (m + 11), .ref (m + 12), .ref (m + 13), .ref (m + 14), .ref (m + 15), .int 0, .int 0, .int 0, .int 0, .int 0, .int 0, .int 0, .int 0, .int 0, .int (-1), .ref (m + 16), .ref (m + 17), .ref (m + 18), .ref (m + 19), .ref (m + 20), .int 0, .int 0, .ref (m + 21), .ref (m + 22), .int 0]) rfl (up_self z0).symm ?_
  refine m_aload_n F rfl e_X10_down_5 ?_
  refine m_iload_n F rfl e_X10_down_6 ?_
  refine m_callV F e_X10_down_7 (k_isRunning0 (x_l X) V _ _ m 0 0 0 0 0 0 0 0 0 0 0 (-1) 0 0 0 x z0 z2 ) cb_X10_isRunning ml_X10_301 im_X10_isRunning se_X10_isRunning z0 rfl rfl (rest := []) rfl (Nat.le_of_ble_eq_true rfl) ⟨Nat.le_of_ble_eq_true rfl, Nat.le_of_ble_eq_true rfl⟩ ⟨Nat.le_of_ble_eq_true rfl, Nat.le_of_ble_eq_true rfl⟩ (k' := 0) (z' := 0) (N' := N) rfl rfl rfl (fun r τ hp => ?_)
  obtain ⟨rfl, rfl⟩ := hp
  refine m_if_eq F e_X10_down_10 (fun _ => ?_) (fun q => absurd (by decide) q)
  refine m_ldc2 F kc_X10_299 e_X10_down_37 ?_
  exact m_lret F hQ e_X10_down_40 (rfl)
set_option maxRecDepth 20000 in
theorem n_named (l : Launch) (V : VX) (N : Nat) (σ : Mem) (m : Nat) (x : Int32) (hZ : MZ V σ m) : Ct l V yX10_named cX10_named 2 (some .int) 3 0 0 N σ [.ref m, .int x] (fun r _ => r = some (.int (-1))) := by
  refine Ct.of (by decide) (Nat.le_of_ble_eq_true rfl) [(0, .ref m), (1, .int x)] rfl (fun X hX F hQ => ?_)
  obtain ⟨z0, z1, z2, z3, z4, z5, z6, z7, z8, z9, z10, z11, z12, z13, z14, z15, z16, z17, z18, z19, z20, z21, z22⟩ := hZ
  refine m_aload_n F rfl e_X10_named_0 ?_
  refine m_iconst F (v := 0) (by decide) e_X10_named_1 ?_
  refine m_put F e_X10_named_2 fp_X10_91 z0 rfl rfl (Nat.le_of_ble_eq_true rfl) (fs' := [.int 0, .ref (m + 1), .int 0, .ref (m + 2), .ref (m + 3), .ref (m + 4), .ref (m + 5), .ref (m + 6), .ref (m + 7), .ref (m + 8), .ref (m + 9), .ref (m + 10), .ref (m + 11), .ref (m + 12), .ref (m + 13), .ref (m + 14), .ref (m + 15), .int 0, .int 0, .int 0, .int 0, .int 0, .int 0, .int 0, .int 0, .int 0, .int (-1), .ref (m + 16), .ref (m + 17), .ref (m + 18), .ref (m + 19), .ref (m + 20), .int 0, .int 0, .ref (m + 21), .ref (m + 22), .int 0]) rfl (up_self z0).symm ?_
  refine m_aload_n F rfl e_X10_named_5 ?_
  refine m_iconst F (v := 0) (by decide) e_X10_named_6 ?_
  refine m_aload_n F rfl e_X10_named_7 ?_
  refine m_callV F e_X10_named_8 (k_leases0 (x_l X) V _ _ m 0 0 0 0 0 0 0 0 0 0 0 (-1) 0 0 0  z0 z2 ) cb_X10_leases ml_X10_221 im_X10_leases se_X10_leases z0 rfl rfl (rest := [.int 0, .ref m]) rfl (Nat.le_of_ble_eq_true rfl) ⟨Nat.le_of_ble_eq_true rfl, Nat.le_of_ble_eq_true rfl⟩ ⟨Nat.le_of_ble_eq_true rfl, Nat.le_of_ble_eq_true rfl⟩ (k' := 0) (z' := 0) (N' := N) rfl rfl rfl (fun r τ hp => ?_)
  obtain ⟨rfl, rfl⟩ := hp
  refine m_iload_n F rfl e_X10_named_11 ?_
  refine m_callV F e_X10_named_12 (k_namedAt0 (x_l X) V _ _ m 0 0 0 0 0 0 0 0 0 0 0 (-1) 0 0 0 x z0  ) cb_X10_namedAt ml_X10_161 im_X10_namedAt se_X10_namedAt z0 rfl rfl (rest := []) rfl (Nat.le_of_ble_eq_true rfl) ⟨Nat.le_of_ble_eq_true rfl, Nat.le_of_ble_eq_true rfl⟩ ⟨Nat.le_of_ble_eq_true rfl, Nat.le_of_ble_eq_true rfl⟩ (k' := 0) (z' := 0) (N' := N) rfl rfl rfl (fun r τ hp => ?_)
  obtain ⟨rfl, rfl⟩ := hp
  exact m_iret F hQ e_X10_named_15 (rfl)
set_option maxRecDepth 20000 in
theorem n_choose (l : Launch) (V : VX) (N : Nat) (σ : Mem) (m : Nat) (x : Int32) (hZ : MZ V σ m) : Ct l V yX10_choose cX10_choose 13 (some .int) 3 0 0 N σ [.ref m, .int x] (fun r _ => r = some (.int (-1))) := by
  refine Ct.of (by decide) (Nat.le_of_ble_eq_true rfl) [(0, .ref m), (1, .int x)] rfl (fun X hX F hQ => ?_)
  obtain ⟨z0, z1, z2, z3, z4, z5, z6, z7, z8, z9, z10, z11, z12, z13, z14, z15, z16, z17, z18, z19, z20, z21, z22⟩ := hZ
  refine m_aload_n F rfl e_X10_choose_0 ?_
  refine m_iconst F (v := 0) (by decide) e_X10_choose_1 ?_
  refine m_put F e_X10_choose_2 fp_X10_91 z0 rfl rfl (Nat.le_of_ble_eq_true rfl) (fs' := [.int 0, .ref (m + 1), .int 0, .ref (m + 2), .ref (m + 3), .ref (m + 4), .ref (m + 5), .ref (m + 6), .ref (m + 7), .ref (m + 8), .ref (m + 9), .ref (m + 10), .ref (m + 11), .ref (m + 12), .ref (m + 13), .ref (m + 14), .ref (m + 15), .int 0, .int 0, .int 0, .int 0, .int 0, .int 0, .int 0, .int 0, .int 0, .int (-1), .ref (m + 16), .ref (m + 17), .ref (m + 18), .ref (m + 19), .ref (m + 20), .int 0, .int 0, .ref (m + 21), .ref (m + 22), .int 0]) rfl (up_self z0).symm ?_
  refine m_aload_n F rfl e_X10_choose_5 ?_
  refine m_iload_n F rfl e_X10_choose_6 ?_
  refine m_callV F e_X10_choose_7 (k_isLease0 (x_l X) V _ _ m 0 0 0 0 0 0 0 0 0 0 0 (-1) 0 0 0 x z0 z2 ) cb_X10_isLease ml_X10_292 im_X10_isLease se_X10_isLease z0 rfl rfl (rest := []) rfl (Nat.le_of_ble_eq_true rfl) ⟨Nat.le_of_ble_eq_true rfl, Nat.le_of_ble_eq_true rfl⟩ ⟨Nat.le_of_ble_eq_true rfl, Nat.le_of_ble_eq_true rfl⟩ (k' := 0) (z' := 0) (N' := N) rfl rfl rfl (fun r τ hp => ?_)
  obtain ⟨rfl, rfl⟩ := hp
  refine m_if_ne F e_X10_choose_10 (fun q => absurd (by decide) q) (fun _ => ?_)
  refine m_iconst F (v := (-1)) (by decide) e_X10_choose_13 ?_
  exact m_iret F hQ e_X10_choose_14 (rfl)
set_option maxRecDepth 20000 in
theorem n_partFor (l : Launch) (V : VX) (N : Nat) (σ : Mem) (m : Nat) (x : Int32) (v : Int64) (hZ : MZ V σ m) : Ct l V yX10_partFor cX10_partFor 6 (some .int) 3 0 0 N σ [.ref m, .int x, .long v] (fun r _ => r = some (.int (-1))) := by
  refine Ct.of (by decide) (Nat.le_of_ble_eq_true rfl) [(0, .ref m), (1, .int x), (2, .long v)] rfl (fun X hX F hQ => ?_)
  obtain ⟨z0, z1, z2, z3, z4, z5, z6, z7, z8, z9, z10, z11, z12, z13, z14, z15, z16, z17, z18, z19, z20, z21, z22⟩ := hZ
  refine m_aload_n F rfl e_X10_partFor_0 ?_
  refine m_iconst F (v := 0) (by decide) e_X10_partFor_1 ?_
  refine m_put F e_X10_partFor_2 fp_X10_91 z0 rfl rfl (Nat.le_of_ble_eq_true rfl) (fs' := [.int 0, .ref (m + 1), .int 0, .ref (m + 2), .ref (m + 3), .ref (m + 4), .ref (m + 5), .ref (m + 6), .ref (m + 7), .ref (m + 8), .ref (m + 9), .ref (m + 10), .ref (m + 11), .ref (m + 12), .ref (m + 13), .ref (m + 14), .ref (m + 15), .int 0, .int 0, .int 0, .int 0, .int 0, .int 0, .int 0, .int 0, .int 0, .int (-1), .ref (m + 16), .ref (m + 17), .ref (m + 18), .ref (m + 19), .ref (m + 20), .int 0, .int 0, .ref (m + 21), .ref (m + 22), .int 0]) rfl (up_self z0).symm ?_
  refine m_aload_n F rfl e_X10_partFor_5 ?_
  refine m_iload_n F rfl e_X10_partFor_6 ?_
  refine m_callV F e_X10_partFor_7 (k_isLease0 (x_l X) V _ _ m 0 0 0 0 0 0 0 0 0 0 0 (-1) 0 0 0 x z0 z2 ) cb_X10_isLease ml_X10_292 im_X10_isLease se_X10_isLease z0 rfl rfl (rest := []) rfl (Nat.le_of_ble_eq_true rfl) ⟨Nat.le_of_ble_eq_true rfl, Nat.le_of_ble_eq_true rfl⟩ ⟨Nat.le_of_ble_eq_true rfl, Nat.le_of_ble_eq_true rfl⟩ (k' := 0) (z' := 0) (N' := N) rfl rfl rfl (fun r τ hp => ?_)
  obtain ⟨rfl, rfl⟩ := hp
  refine m_if_ne F e_X10_partFor_10 (fun q => absurd (by decide) q) (fun _ => ?_)
  refine m_iconst F (v := (-1)) (by decide) e_X10_partFor_13 ?_
  exact m_iret F hQ e_X10_partFor_14 (rfl)
set_option maxRecDepth 20000 in
theorem n_latest (l : Launch) (V : VX) (N : Nat) (σ : Mem) (m : Nat) (x y : Int32) (hZ : MZ V σ m) : Ct l V yX10_latest cX10_latest 4 (some .int) 3 0 0 N σ [.ref m, .int x, .int y] (fun r _ => r = some (.int (-1))) := by
  refine Ct.of (by decide) (Nat.le_of_ble_eq_true rfl) [(0, .ref m), (1, .int x), (2, .int y)] rfl (fun X hX F hQ => ?_)
  obtain ⟨z0, z1, z2, z3, z4, z5, z6, z7, z8, z9, z10, z11, z12, z13, z14, z15, z16, z17, z18, z19, z20, z21, z22⟩ := hZ
  refine m_aload_n F rfl e_X10_latest_0 ?_
  refine m_iconst F (v := 0) (by decide) e_X10_latest_1 ?_
  refine m_put F e_X10_latest_2 fp_X10_91 z0 rfl rfl (Nat.le_of_ble_eq_true rfl) (fs' := [.int 0, .ref (m + 1), .int 0, .ref (m + 2), .ref (m + 3), .ref (m + 4), .ref (m + 5), .ref (m + 6), .ref (m + 7), .ref (m + 8), .ref (m + 9), .ref (m + 10), .ref (m + 11), .ref (m + 12), .ref (m + 13), .ref (m + 14), .ref (m + 15), .int 0, .int 0, .int 0, .int 0, .int 0, .int 0, .int 0, .int 0, .int 0, .int (-1), .ref (m + 16), .ref (m + 17), .ref (m + 18), .ref (m + 19), .ref (m + 20), .int 0, .int 0, .ref (m + 21), .ref (m + 22), .int 0]) rfl (up_self z0).symm ?_
  refine m_aload_n F rfl e_X10_latest_5 ?_
  refine m_iload_n F rfl e_X10_latest_6 ?_
  refine m_callV F e_X10_latest_7 (k_isLease0 (x_l X) V _ _ m 0 0 0 0 0 0 0 0 0 0 0 (-1) 0 0 0 x z0 z2 ) cb_X10_isLease ml_X10_292 im_X10_isLease se_X10_isLease z0 rfl rfl (rest := []) rfl (Nat.le_of_ble_eq_true rfl) ⟨Nat.le_of_ble_eq_true rfl, Nat.le_of_ble_eq_true rfl⟩ ⟨Nat.le_of_ble_eq_true rfl, Nat.le_of_ble_eq_true rfl⟩ (k' := 0) (z' := 0) (N' := N) rfl rfl rfl (fun r τ hp => ?_)
  obtain ⟨rfl, rfl⟩ := hp
  refine m_if_eq F e_X10_latest_10 (fun _ => ?_) (fun q => absurd (by decide) q)
  refine m_iconst F (v := (-1)) (by decide) e_X10_latest_22 ?_
  exact m_iret F hQ e_X10_latest_23 (rfl)
set_option maxRecDepth 20000 in
theorem n_half (l : Launch) (V : VX) (N : Nat) (σ : Mem) (m : Nat) (x : Int32) (hZ : MZ V σ m) : Ct l V yX10_half cX10_half 6 (some .int) 3 0 0 N σ [.ref m, .int x] (fun r _ => r = some (.int (-1))) := by
  refine Ct.of (by decide) (Nat.le_of_ble_eq_true rfl) [(0, .ref m), (1, .int x)] rfl (fun X hX F hQ => ?_)
  obtain ⟨z0, z1, z2, z3, z4, z5, z6, z7, z8, z9, z10, z11, z12, z13, z14, z15, z16, z17, z18, z19, z20, z21, z22⟩ := hZ
  refine m_aload_n F rfl e_X10_half_0 ?_
  refine m_iconst F (v := 0) (by decide) e_X10_half_1 ?_
  refine m_put F e_X10_half_2 fp_X10_91 z0 rfl rfl (Nat.le_of_ble_eq_true rfl) (fs' := [.int 0, .ref (m + 1), .int 0, .ref (m + 2), .ref (m + 3), .ref (m + 4), .ref (m + 5), .ref (m + 6), .ref (m + 7), .ref (m + 8), .ref (m + 9), .ref (m + 10), .ref (m + 11), .ref (m + 12), .ref (m + 13), .ref (m + 14), .ref (m + 15), .int 0, .int 0, .int 0, .int 0, .int 0, .int 0, .int 0, .int 0, .int 0, .int (-1), .ref (m + 16), .ref (m + 17), .ref (m + 18), .ref (m + 19), .ref (m + 20), .int 0, .int 0, .ref (m + 21), .ref (m + 22), .int 0]) rfl (up_self z0).symm ?_
  refine m_aload_n F rfl e_X10_half_5 ?_
  refine m_iload_n F rfl e_X10_half_6 ?_
  refine m_callV F e_X10_half_7 (k_isLease0 (x_l X) V _ _ m 0 0 0 0 0 0 0 0 0 0 0 (-1) 0 0 0 x z0 z2 ) cb_X10_isLease ml_X10_292 im_X10_isLease se_X10_isLease z0 rfl rfl (rest := []) rfl (Nat.le_of_ble_eq_true rfl) ⟨Nat.le_of_ble_eq_true rfl, Nat.le_of_ble_eq_true rfl⟩ ⟨Nat.le_of_ble_eq_true rfl, Nat.le_of_ble_eq_true rfl⟩ (k' := 0) (z' := 0) (N' := N) rfl rfl rfl (fun r τ hp => ?_)
  obtain ⟨rfl, rfl⟩ := hp
  refine m_if_eq F e_X10_half_10 (fun _ => ?_) (fun q => absurd (by decide) q)
  refine m_iconst F (v := (-1)) (by decide) e_X10_half_30 ?_
  exact m_iret F hQ e_X10_half_31 (rfl)
set_option maxRecDepth 20000 in
theorem n_yields (l : Launch) (V : VX) (N : Nat) (σ : Mem) (m : Nat) (x y : Int32) (v : Int64) (hZ : MZ V σ m) : Ct l V yX10_yields cX10_yields 5 (some .int) 3 0 0 N σ [.ref m, .int x, .int y, .long v] (fun r _ => r = some (.int (-1))) := by
  refine Ct.of (by decide) (Nat.le_of_ble_eq_true rfl) [(0, .ref m), (1, .int x), (2, .int y), (3, .long v)] rfl (fun X hX F hQ => ?_)
  obtain ⟨z0, z1, z2, z3, z4, z5, z6, z7, z8, z9, z10, z11, z12, z13, z14, z15, z16, z17, z18, z19, z20, z21, z22⟩ := hZ
  refine m_aload_n F rfl e_X10_yields_0 ?_
  refine m_iconst F (v := 0) (by decide) e_X10_yields_1 ?_
  refine m_put F e_X10_yields_2 fp_X10_91 z0 rfl rfl (Nat.le_of_ble_eq_true rfl) (fs' := [.int 0, .ref (m + 1), .int 0, .ref (m + 2), .ref (m + 3), .ref (m + 4), .ref (m + 5), .ref (m + 6), .ref (m + 7), .ref (m + 8), .ref (m + 9), .ref (m + 10), .ref (m + 11), .ref (m + 12), .ref (m + 13), .ref (m + 14), .ref (m + 15), .int 0, .int 0, .int 0, .int 0, .int 0, .int 0, .int 0, .int 0, .int 0, .int (-1), .ref (m + 16), .ref (m + 17), .ref (m + 18), .ref (m + 19), .ref (m + 20), .int 0, .int 0, .ref (m + 21), .ref (m + 22), .int 0]) rfl (up_self z0).symm ?_
  refine m_aload_n F rfl e_X10_yields_5 ?_
  refine m_iload_n F rfl e_X10_yields_6 ?_
  refine m_iload_n F rfl e_X10_yields_7 ?_
  refine m_callV F e_X10_yields_8 (k_isOwn0 (x_l X) V _ _ m 0 0 0 0 0 0 0 0 0 0 0 (-1) 0 0 0 x y z0 z2 ) cb_X10_isOwn ml_X10_295 im_X10_isOwn se_X10_isOwn z0 rfl rfl (rest := []) rfl (Nat.le_of_ble_eq_true rfl) ⟨Nat.le_of_ble_eq_true rfl, Nat.le_of_ble_eq_true rfl⟩ ⟨Nat.le_of_ble_eq_true rfl, Nat.le_of_ble_eq_true rfl⟩ (k' := 0) (z' := 0) (N' := N) rfl rfl rfl (fun r τ hp => ?_)
  obtain ⟨rfl, rfl⟩ := hp
  refine m_if_eq F e_X10_yields_11 (fun _ => ?_) (fun q => absurd (by decide) q)
  refine m_iconst F (v := (-1)) (by decide) e_X10_yields_38 ?_
  exact m_iret F hQ e_X10_yields_39 (rfl)
set_option maxRecDepth 20000 in
theorem n_level (l : Launch) (V : VX) (N : Nat) (σ : Mem) (m : Nat) (x : Int32) (v : Int64) (hZ : MZ V σ m) : Ct l V yX10_level cX10_level 9 (some .int) 3 0 0 N σ [.ref m, .int x, .long v] (fun r _ => r = some (.int (-1))) := by
  refine Ct.of (by decide) (Nat.le_of_ble_eq_true rfl) [(0, .ref m), (1, .int x), (2, .long v)] rfl (fun X hX F hQ => ?_)
  obtain ⟨z0, z1, z2, z3, z4, z5, z6, z7, z8, z9, z10, z11, z12, z13, z14, z15, z16, z17, z18, z19, z20, z21, z22⟩ := hZ
  refine m_aload_n F rfl e_X10_level_0 ?_
  refine m_iconst F (v := 0) (by decide) e_X10_level_1 ?_
  refine m_put F e_X10_level_2 fp_X10_91 z0 rfl rfl (Nat.le_of_ble_eq_true rfl) (fs' := [.int 0, .ref (m + 1), .int 0, .ref (m + 2), .ref (m + 3), .ref (m + 4), .ref (m + 5), .ref (m + 6), .ref (m + 7), .ref (m + 8), .ref (m + 9), .ref (m + 10), .ref (m + 11), .ref (m + 12), .ref (m + 13), .ref (m + 14), .ref (m + 15), .int 0, .int 0, .int 0, .int 0, .int 0, .int 0, .int 0, .int 0, .int 0, .int (-1), .ref (m + 16), .ref (m + 17), .ref (m + 18), .ref (m + 19), .ref (m + 20), .int 0, .int 0, .ref (m + 21), .ref (m + 22), .int 0]) rfl (up_self z0).symm ?_
  refine m_aload_n F rfl e_X10_level_5 ?_
  refine m_iload_n F rfl e_X10_level_6 ?_
  refine m_callV F e_X10_level_7 (k_isLease0 (x_l X) V _ _ m 0 0 0 0 0 0 0 0 0 0 0 (-1) 0 0 0 x z0 z2 ) cb_X10_isLease ml_X10_292 im_X10_isLease se_X10_isLease z0 rfl rfl (rest := []) rfl (Nat.le_of_ble_eq_true rfl) ⟨Nat.le_of_ble_eq_true rfl, Nat.le_of_ble_eq_true rfl⟩ ⟨Nat.le_of_ble_eq_true rfl, Nat.le_of_ble_eq_true rfl⟩ (k' := 0) (z' := 0) (N' := N) rfl rfl rfl (fun r τ hp => ?_)
  obtain ⟨rfl, rfl⟩ := hp
  refine m_if_eq F e_X10_level_10 (fun _ => ?_) (fun q => absurd (by decide) q)
  refine m_iconst F (v := (-1)) (by decide) e_X10_level_27 ?_
  exact m_iret F hQ e_X10_level_28 (rfl)
set_option maxRecDepth 20000 in
theorem n_undo (l : Launch) (V : VX) (N : Nat) (σ : Mem) (m : Nat)  (hZ : MZ V σ m) : Ct l V yX10_undo cX10_undo 1 (some .int) 3 0 0 N σ [.ref m] (fun r _ => r = some (.int (-1))) := by
  refine Ct.of (by decide) (Nat.le_of_ble_eq_true rfl) [(0, .ref m)] rfl (fun X hX F hQ => ?_)
  obtain ⟨z0, z1, z2, z3, z4, z5, z6, z7, z8, z9, z10, z11, z12, z13, z14, z15, z16, z17, z18, z19, z20, z21, z22⟩ := hZ
  refine m_aload_n F rfl e_X10_undo_0 ?_
  refine m_iconst F (v := 0) (by decide) e_X10_undo_1 ?_
  refine m_put F e_X10_undo_2 fp_X10_91 z0 rfl rfl (Nat.le_of_ble_eq_true rfl) (fs' := [.int 0, .ref (m + 1), .int 0, .ref (m + 2), .ref (m + 3), .ref (m + 4), .ref (m + 5), .ref (m + 6), .ref (m + 7), .ref (m + 8), .ref (m + 9), .ref (m + 10), .ref (m + 11), .ref (m + 12), .ref (m + 13), .ref (m + 14), .ref (m + 15), .int 0, .int 0, .int 0, .int 0, .int 0, .int 0, .int 0, .int 0, .int 0, .int (-1), .ref (m + 16), .ref (m + 17), .ref (m + 18), .ref (m + 19), .ref (m + 20), .int 0, .int 0, .ref (m + 21), .ref (m + 22), .int 0]) rfl (up_self z0).symm ?_
  refine m_aload_n F rfl e_X10_undo_5 ?_
  refine m_get F e_X10_undo_6 fl_X10_214 z0 rfl ?_
  refine m_if_ne F e_X10_undo_9 (fun q => absurd (by decide) q) (fun _ => ?_)
  refine m_iconst F (v := (-1)) (by decide) e_X10_undo_12 ?_
  exact m_iret F hQ e_X10_undo_13 (rfl)
set_option maxRecDepth 20000 in
theorem n_back (l : Launch) (V : VX) (N : Nat) (σ : Mem) (m : Nat)  (hZ : MZ V σ m) : Ct l V yX10_back cX10_back 1 (some .int) 3 0 0 N σ [.ref m] (fun r _ => r = some (.int (-1))) := by
  refine Ct.of (by decide) (Nat.le_of_ble_eq_true rfl) [(0, .ref m)] rfl (fun X hX F hQ => ?_)
  obtain ⟨z0, z1, z2, z3, z4, z5, z6, z7, z8, z9, z10, z11, z12, z13, z14, z15, z16, z17, z18, z19, z20, z21, z22⟩ := hZ
  refine m_aload_n F rfl e_X10_back_0 ?_
  refine m_iconst F (v := 0) (by decide) e_X10_back_1 ?_
  refine m_put F e_X10_back_2 fp_X10_91 z0 rfl rfl (Nat.le_of_ble_eq_true rfl) (fs' := [.int 0, .ref (m + 1), .int 0, .ref (m + 2), .ref (m + 3), .ref (m + 4), .ref (m + 5), .ref (m + 6), .ref (m + 7), .ref (m + 8), .ref (m + 9), .ref (m + 10), .ref (m + 11), .ref (m + 12), .ref (m + 13), .ref (m + 14), .ref (m + 15), .int 0, .int 0, .int 0, .int 0, .int 0, .int 0, .int 0, .int 0, .int 0, .int (-1), .ref (m + 16), .ref (m + 17), .ref (m + 18), .ref (m + 19), .ref (m + 20), .int 0, .int 0, .ref (m + 21), .ref (m + 22), .int 0]) rfl (up_self z0).symm ?_
  refine m_aload_n F rfl e_X10_back_5 ?_
  refine m_get F e_X10_back_6 fl_X10_217 z0 rfl ?_
  refine m_if_ne F e_X10_back_9 (fun q => absurd (by decide) q) (fun _ => ?_)
  refine m_iconst F (v := (-1)) (by decide) e_X10_back_12 ?_
  exact m_iret F hQ e_X10_back_13 (rfl)
set_option maxRecDepth 20000 in
theorem n_heaviest (l : Launch) (V : VX) (N : Nat) (σ : Mem) (m : Nat)  (hZ : MZ V σ m) : Ct l V yX10_heaviest cX10_heaviest 3 (some .int) 3 0 0 N σ [.ref m] (fun r _ => r = some (.int (-2))) := by
  refine Ct.of (by decide) (Nat.le_of_ble_eq_true rfl) [(0, .ref m)] rfl (fun X hX F hQ => ?_)
  obtain ⟨z0, z1, z2, z3, z4, z5, z6, z7, z8, z9, z10, z11, z12, z13, z14, z15, z16, z17, z18, z19, z20, z21, z22⟩ := hZ
  refine m_aload_n F rfl e_X10_heaviest_0 ?_
  refine m_iconst F (v := 0) (by decide) e_X10_heaviest_1 ?_
  refine m_put F e_X10_heaviest_2 fp_X10_91 z0 rfl rfl (Nat.le_of_ble_eq_true rfl) (fs' := [.int 0, .ref (m + 1), .int 0, .ref (m + 2), .ref (m + 3), .ref (m + 4), .ref (m + 5), .ref (m + 6), .ref (m + 7), .ref (m + 8), .ref (m + 9), .ref (m + 10), .ref (m + 11), .ref (m + 12), .ref (m + 13), .ref (m + 14), .ref (m + 15), .int 0, .int 0, .int 0, .int 0, .int 0, .int 0, .int 0, .int 0, .int 0, .int (-1), .ref (m + 16), .ref (m + 17), .ref (m + 18), .ref (m + 19), .ref (m + 20), .int 0, .int 0, .ref (m + 21), .ref (m + 22), .int 0]) rfl (up_self z0).symm ?_
  refine m_bipush F (v := (-2)) (by decide) e_X10_heaviest_5 ?_
  refine m_istore_n F (lv' := [(1, .int (-2)), (0, .ref m)]) e_X10_heaviest_7 (by decide) rfl ?_
  refine m_iconst F (v := 0) (by decide) e_X10_heaviest_8 ?_
  refine m_istore_n F (lv' := [(2, .int 0), (1, .int (-2)), (0, .ref m)]) e_X10_heaviest_9 (by decide) rfl ?_
  refine m_iload_n F rfl e_X10_heaviest_10 ?_
  refine m_aload_n F rfl e_X10_heaviest_11 ?_
  refine m_callV F e_X10_heaviest_12 (k_leases0 (x_l X) V _ _ m 0 0 0 0 0 0 0 0 0 0 0 (-1) 0 0 0  z0 z2 ) cb_X10_leases ml_X10_221 im_X10_leases se_X10_leases z0 rfl rfl (rest := [.int 0]) rfl (Nat.le_of_ble_eq_true rfl) ⟨Nat.le_of_ble_eq_true rfl, Nat.le_of_ble_eq_true rfl⟩ ⟨Nat.le_of_ble_eq_true rfl, Nat.le_of_ble_eq_true rfl⟩ (k' := 0) (z' := 0) (N' := N) rfl rfl rfl (fun r τ hp => ?_)
  obtain ⟨rfl, rfl⟩ := hp
  refine m_icmp_ge F e_X10_heaviest_15 (fun _ => ?_) (fun q => absurd (by decide) q)
  refine m_iload_n F rfl e_X10_heaviest_87 ?_
  exact m_iret F hQ e_X10_heaviest_88 (rfl)
set_option maxRecDepth 20000 in
theorem n_keep (l : Launch) (V : VX) (N : Nat) (σ : Mem) (m : Nat)  (hZ : MZ V σ m) : Ct l V yX10_keep cX10_keep 1 (some .int) 3 0 0 N σ [.ref m] (fun r _ => r = some (.int 0)) := by
  refine Ct.of (by decide) (Nat.le_of_ble_eq_true rfl) [(0, .ref m)] rfl (fun X hX F hQ => ?_)
  obtain ⟨z0, z1, z2, z3, z4, z5, z6, z7, z8, z9, z10, z11, z12, z13, z14, z15, z16, z17, z18, z19, z20, z21, z22⟩ := hZ
  refine m_aload_n F rfl e_X10_keep_0 ?_
  refine m_iconst F (v := 0) (by decide) e_X10_keep_1 ?_
  refine m_put F e_X10_keep_2 fp_X10_91 z0 rfl rfl (Nat.le_of_ble_eq_true rfl) (fs' := [.int 0, .ref (m + 1), .int 0, .ref (m + 2), .ref (m + 3), .ref (m + 4), .ref (m + 5), .ref (m + 6), .ref (m + 7), .ref (m + 8), .ref (m + 9), .ref (m + 10), .ref (m + 11), .ref (m + 12), .ref (m + 13), .ref (m + 14), .ref (m + 15), .int 0, .int 0, .int 0, .int 0, .int 0, .int 0, .int 0, .int 0, .int 0, .int (-1), .ref (m + 16), .ref (m + 17), .ref (m + 18), .ref (m + 19), .ref (m + 20), .int 0, .int 0, .ref (m + 21), .ref (m + 22), .int 0]) rfl (up_self z0).symm ?_
  refine m_aload_n F rfl e_X10_keep_5 ?_
  refine m_get F e_X10_keep_6 fl_X10_59 z0 rfl ?_
  refine m_iconst F (v := 0) (by decide) e_X10_keep_9 ?_
  refine m_aload_n F rfl e_X10_keep_10 ?_
  refine m_get F e_X10_keep_11 fl_X10_69 z0 rfl ?_
  refine m_iconst F (v := 0) (by decide) e_X10_keep_14 ?_
  refine m_callS F e_X10_keep_15 (k_copies (x_l X) V _ _ (m + 16) (m + 19) 1113 1113 0 0 sZ (fun _ => 0) (by omega) (by omega) (by omega) (by omega) (by omega) z16 z19) cb_X10_copies ml_X10_230 sm_X10_copies rfl (rest := []) rfl (Nat.le_of_ble_eq_true rfl) ⟨Nat.le_of_ble_eq_true rfl, Nat.le_of_ble_eq_true rfl⟩ ⟨Nat.le_of_ble_eq_true rfl, Nat.le_of_ble_eq_true rfl⟩ (k' := 0) (z' := 0) (N' := N) rfl rfl rfl (fun r τ hp => ?_)
  obtain ⟨rfl, rfl⟩ := hp
  refine m_aload_n F rfl e_X10_keep_18 ?_
  refine m_iconst F (v := 1) (by decide) e_X10_keep_19 ?_
  refine m_put F e_X10_keep_20 fp_X10_217 (ru_ne (by omega) z0) (by decide) rfl (Nat.le_of_ble_eq_true rfl) (fs' := [.int 0, .ref (m + 1), .int 0, .ref (m + 2), .ref (m + 3), .ref (m + 4), .ref (m + 5), .ref (m + 6), .ref (m + 7), .ref (m + 8), .ref (m + 9), .ref (m + 10), .ref (m + 11), .ref (m + 12), .ref (m + 13), .ref (m + 14), .ref (m + 15), .int 0, .int 0, .int 0, .int 0, .int 0, .int 0, .int 0, .int 0, .int 0, .int (-1), .ref (m + 16), .ref (m + 17), .ref (m + 18), .ref (m + 19), .ref (m + 20), .int 0, .int 1, .ref (m + 21), .ref (m + 22), .int 0]) rfl rfl ?_
  refine m_aload_n F rfl e_X10_keep_23 ?_
  refine m_get F e_X10_keep_24 fl_X10_59 ru_eq rfl ?_
  refine m_sipush F (v := 744) (by decide) e_X10_keep_27 ?_
  refine m_lald F (j := 744) e_X10_keep_30 (ru_ne (by omega) (ru_ne (by omega) z16)) (by decide) (by unfold vp_in; decide) ?_
  refine Wm.toplE (w := 0) (sZ_hi (by omega)) ?_
  refine m_l2i F e_X10_keep_31 ?_
  refine Wm.topE (w := 0) (by decide) ?_
  exact m_iret F hQ e_X10_keep_32 (rfl)
set_option maxRecDepth 20000 in
theorem n_lease (l : Launch) (V : VX) (N : Nat) (σ : Mem) (m : Nat) (x y : Int32) (hZ : MZ V σ m) : Ct l V yX10_lease cX10_lease 4 (some .int) 3 0 0 N σ [.ref m, .int x, .int y] (fun r τ => r = some (.int 0) ∧ τ m = some (ob 8 [.int 1, .ref (m + 1), .int 0, .ref (m + 2), .ref (m + 3), .ref (m + 4), .ref (m + 5), .ref (m + 6), .ref (m + 7), .ref (m + 8), .ref (m + 9), .ref (m + 10), .ref (m + 11), .ref (m + 12), .ref (m + 13), .ref (m + 14), .ref (m + 15), .int 0, .int 0, .int 0, .int 0, .int 0, .int 0, .int 0, .int 0, .int 0, .int (-1), .ref (m + 16), .ref (m + 17), .ref (m + 18), .ref (m + 19), .ref (m + 20), .int 0, .int 0, .ref (m + 21), .ref (m + 22), .int 0])) := by
  refine Ct.of (by decide) (Nat.le_of_ble_eq_true rfl) [(0, .ref m), (1, .int x), (2, .int y)] rfl (fun X hX F hQ => ?_)
  obtain ⟨z0, z1, z2, z3, z4, z5, z6, z7, z8, z9, z10, z11, z12, z13, z14, z15, z16, z17, z18, z19, z20, z21, z22⟩ := hZ
  refine m_aload_n F rfl e_X10_lease_0 ?_
  refine m_iconst F (v := 0) (by decide) e_X10_lease_1 ?_
  refine m_put F e_X10_lease_2 fp_X10_91 z0 rfl rfl (Nat.le_of_ble_eq_true rfl) (fs' := [.int 0, .ref (m + 1), .int 0, .ref (m + 2), .ref (m + 3), .ref (m + 4), .ref (m + 5), .ref (m + 6), .ref (m + 7), .ref (m + 8), .ref (m + 9), .ref (m + 10), .ref (m + 11), .ref (m + 12), .ref (m + 13), .ref (m + 14), .ref (m + 15), .int 0, .int 0, .int 0, .int 0, .int 0, .int 0, .int 0, .int 0, .int 0, .int (-1), .ref (m + 16), .ref (m + 17), .ref (m + 18), .ref (m + 19), .ref (m + 20), .int 0, .int 0, .ref (m + 21), .ref (m + 22), .int 0]) rfl (up_self z0).symm ?_
  refine m_aload_n F rfl e_X10_lease_5 ?_
  refine m_iload_n F rfl e_X10_lease_6 ?_
  refine m_callV F e_X10_lease_7 (k_isLease0 (x_l X) V _ _ m 0 0 0 0 0 0 0 0 0 0 0 (-1) 0 0 0 x z0 z2 ) cb_X10_isLease ml_X10_292 im_X10_isLease se_X10_isLease z0 rfl rfl (rest := []) rfl (Nat.le_of_ble_eq_true rfl) ⟨Nat.le_of_ble_eq_true rfl, Nat.le_of_ble_eq_true rfl⟩ ⟨Nat.le_of_ble_eq_true rfl, Nat.le_of_ble_eq_true rfl⟩ (k' := 0) (z' := 0) (N' := N) rfl rfl rfl (fun r τ hp => ?_)
  obtain ⟨rfl, rfl⟩ := hp
  refine m_if_ne F e_X10_lease_10 (fun q => absurd (by decide) q) (fun _ => ?_)
  refine m_aload_n F rfl e_X10_lease_13 ?_
  refine m_iconst F (v := 1) (by decide) e_X10_lease_14 ?_
  refine m_put F e_X10_lease_15 fp_X10_91 z0 rfl rfl (Nat.le_of_ble_eq_true rfl) (fs' := [.int 1, .ref (m + 1), .int 0, .ref (m + 2), .ref (m + 3), .ref (m + 4), .ref (m + 5), .ref (m + 6), .ref (m + 7), .ref (m + 8), .ref (m + 9), .ref (m + 10), .ref (m + 11), .ref (m + 12), .ref (m + 13), .ref (m + 14), .ref (m + 15), .int 0, .int 0, .int 0, .int 0, .int 0, .int 0, .int 0, .int 0, .int 0, .int (-1), .ref (m + 16), .ref (m + 17), .ref (m + 18), .ref (m + 19), .ref (m + 20), .int 0, .int 0, .ref (m + 21), .ref (m + 22), .int 0]) rfl rfl ?_
  refine m_iconst F (v := 0) (by decide) e_X10_lease_18 ?_
  exact m_iret F hQ e_X10_lease_19 (⟨rfl, ru_eq⟩)
set_option maxRecDepth 20000 in
theorem n_thrown (l : Launch) (V : VX) (N : Nat) (σ : Mem) (m : Nat) (t : Int32) (h0 : σ m = some (ob 8 [.int t, .ref (m + 1), .int 0, .ref (m + 2), .ref (m + 3), .ref (m + 4), .ref (m + 5), .ref (m + 6), .ref (m + 7), .ref (m + 8), .ref (m + 9), .ref (m + 10), .ref (m + 11), .ref (m + 12), .ref (m + 13), .ref (m + 14), .ref (m + 15), .int 0, .int 0, .int 0, .int 0, .int 0, .int 0, .int 0, .int 0, .int 0, .int (-1), .ref (m + 16), .ref (m + 17), .ref (m + 18), .ref (m + 19), .ref (m + 20), .int 0, .int 0, .ref (m + 21), .ref (m + 22), .int 0])) : Ct l V yX10_thrown cX10_thrown 1 (some .int) 0 0 0 N σ [.ref m] (fun r _ => r = some (.int t)) := by
  refine Ct.of (by decide) (Nat.le_of_ble_eq_true rfl) [(0, .ref m)] rfl (fun X hX F hQ => ?_)
  refine m_aload_n F rfl e_X10_thrown_0 ?_
  refine m_get F e_X10_thrown_1 fl_X10_91 h0 rfl ?_
  exact m_iret F hQ e_X10_thrown_4 (rfl)
set_option maxRecDepth 20000 in
theorem n_fault (l : Launch) (V : VX) (N : Nat) (σ : Mem) (m : Nat) (x : Int32) (hZ : MZ V σ m) : Ct l V yX10_fault cX10_fault 2 (some .int) 0 0 0 N σ [.ref m, .int x] (fun r _ => r = some (.int (if x = 0 then 0 else -1))) := by
  refine Ct.of (by decide) (Nat.le_of_ble_eq_true rfl) [(0, .ref m), (1, .int x)] rfl (fun X hX F hQ => ?_)
  obtain ⟨z0, z1, z2, z3, z4, z5, z6, z7, z8, z9, z10, z11, z12, z13, z14, z15, z16, z17, z18, z19, z20, z21, z22⟩ := hZ
  refine m_aload_n F rfl e_X10_fault_0 ?_
  refine m_iconst F (v := 0) (by decide) e_X10_fault_1 ?_
  refine m_put F e_X10_fault_2 fp_X10_91 z0 rfl rfl (Nat.le_of_ble_eq_true rfl) (fs' := [.int 0, .ref (m + 1), .int 0, .ref (m + 2), .ref (m + 3), .ref (m + 4), .ref (m + 5), .ref (m + 6), .ref (m + 7), .ref (m + 8), .ref (m + 9), .ref (m + 10), .ref (m + 11), .ref (m + 12), .ref (m + 13), .ref (m + 14), .ref (m + 15), .int 0, .int 0, .int 0, .int 0, .int 0, .int 0, .int 0, .int 0, .int 0, .int (-1), .ref (m + 16), .ref (m + 17), .ref (m + 18), .ref (m + 19), .ref (m + 20), .int 0, .int 0, .ref (m + 21), .ref (m + 22), .int 0]) rfl (up_self z0).symm ?_
  refine m_iload_n F rfl e_X10_fault_5 ?_
  refine m_if_ne F e_X10_fault_6 (fun q6 => ?_) (fun q6 => ?_)
  · refine m_iload_n F rfl e_X10_fault_16 ?_
    refine m_iconst F (v := 1) (by decide) e_X10_fault_17 ?_
    refine m_icmp_ne F e_X10_fault_18 (fun q18 => ?_) (fun q18 => ?_)
    · refine m_iconst F (v := (-1)) (by decide) e_X10_fault_28 ?_
      exact m_iret F hQ e_X10_fault_29 (by rw [if_neg q6])
    · refine m_aload_n F rfl e_X10_fault_21 ?_
      refine m_get F e_X10_fault_22 fl_X10_55 z0 rfl ?_
      refine m_goto F e_X10_fault_25 ?_
      exact m_iret F hQ e_X10_fault_29 (by rw [if_neg q6])
  · refine m_aload_n F rfl e_X10_fault_9 ?_
    refine m_get F e_X10_fault_10 fl_X10_211 z0 rfl ?_
    refine m_goto F e_X10_fault_13 ?_
    exact m_iret F hQ e_X10_fault_29 (by rw [if_pos q6])
set_option maxRecDepth 20000 in
theorem n_index (l : Launch) (V : VX) (N : Nat) (σ : Mem) (m : Nat) (x : Int32) (hZ : MZ V σ m) : Ct l V yX10_index cX10_index 2 (some .int) 0 0 0 N σ [.ref m, .int x] (fun r _ => r = some (.int (if x < 0 ∨ 99 < x then -1 else 1000))) := by
  refine Ct.of (by decide) (Nat.le_of_ble_eq_true rfl) [(0, .ref m), (1, .int x)] rfl (fun X hX F hQ => ?_)
  obtain ⟨z0, z1, z2, z3, z4, z5, z6, z7, z8, z9, z10, z11, z12, z13, z14, z15, z16, z17, z18, z19, z20, z21, z22⟩ := hZ
  refine m_aload_n F rfl e_X10_index_0 ?_
  refine m_iconst F (v := 0) (by decide) e_X10_index_1 ?_
  refine m_put F e_X10_index_2 fp_X10_91 z0 rfl rfl (Nat.le_of_ble_eq_true rfl) (fs' := [.int 0, .ref (m + 1), .int 0, .ref (m + 2), .ref (m + 3), .ref (m + 4), .ref (m + 5), .ref (m + 6), .ref (m + 7), .ref (m + 8), .ref (m + 9), .ref (m + 10), .ref (m + 11), .ref (m + 12), .ref (m + 13), .ref (m + 14), .ref (m + 15), .int 0, .int 0, .int 0, .int 0, .int 0, .int 0, .int 0, .int 0, .int 0, .int (-1), .ref (m + 16), .ref (m + 17), .ref (m + 18), .ref (m + 19), .ref (m + 20), .int 0, .int 0, .ref (m + 21), .ref (m + 22), .int 0]) rfl (up_self z0).symm ?_
  refine m_iload_n F rfl e_X10_index_5 ?_
  refine m_if_lt F e_X10_index_6 (fun q6 => ?_) (fun q6 => ?_)
  · refine m_iconst F (v := (-1)) (by decide) e_X10_index_29 ?_
    exact m_iret F hQ e_X10_index_30 (by rw [if_pos (Or.inl q6)])
  · refine m_iload_n F rfl e_X10_index_9 ?_
    refine m_bipush F (v := 99) (by decide) e_X10_index_10 ?_
    refine m_icmp_gt F e_X10_index_12 (fun q12 => ?_) (fun q12 => ?_)
    · refine m_iconst F (v := (-1)) (by decide) e_X10_index_29 ?_
      exact m_iret F hQ e_X10_index_30 (by rw [if_pos (Or.inr q12)])
    · obtain ⟨k, hk, ek⟩ := nI_of2 (x := x) (M := 99) (n := 99) (by decide) q6 (Int32.not_lt.mp q12)
      subst ek
      refine m_aload_n F rfl e_X10_index_15 ?_
      refine m_get F e_X10_index_16 fl_X10_59 z0 rfl ?_
      refine m_sipush F (v := 644) (by decide) e_X10_index_19 ?_
      refine m_iload_n F rfl e_X10_index_22 ?_
      refine m_iadd F e_X10_index_23 ?_
      refine Wm.topE (w := nI (644 + k)) (nI_add 644 k) ?_
      refine m_lald F (j := 644 + k) e_X10_index_24 z16 (nI_clamp (by omega)) (vp_in_nI (by omega) (by omega)) ?_
      refine Wm.toplE (w := 1000) (sZ_ix (by omega)) ?_
      refine m_l2i F e_X10_index_25 ?_
      refine Wm.topE (w := 1000) (by decide) ?_
      refine m_goto F e_X10_index_26 ?_
      exact m_iret F hQ e_X10_index_30 (by rw [if_neg (fun h => h.elim q6 q12)])
set_option maxRecDepth 20000 in
theorem n_account (l : Launch) (V : VX) (N : Nat) (σ : Mem) (m : Nat) (x : Int32) (hZ : MZ V σ m) : Ct l V yX10_account cX10_account 2 (some .long) 0 0 0 N σ [.ref m, .int x] (fun r _ => r = some (.long (if x < 0 ∨ 6 ≤ x then NOA else 0))) := by
  refine Ct.of (by decide) (Nat.le_of_ble_eq_true rfl) [(0, .ref m), (1, .int x)] rfl (fun X hX F hQ => ?_)
  obtain ⟨z0, z1, z2, z3, z4, z5, z6, z7, z8, z9, z10, z11, z12, z13, z14, z15, z16, z17, z18, z19, z20, z21, z22⟩ := hZ
  refine m_aload_n F rfl e_X10_account_0 ?_
  refine m_iconst F (v := 0) (by decide) e_X10_account_1 ?_
  refine m_put F e_X10_account_2 fp_X10_91 z0 rfl rfl (Nat.le_of_ble_eq_true rfl) (fs' := [.int 0, .ref (m + 1), .int 0, .ref (m + 2), .ref (m + 3), .ref (m + 4), .ref (m + 5), .ref (m + 6), .ref (m + 7), .ref (m + 8), .ref (m + 9), .ref (m + 10), .ref (m + 11), .ref (m + 12), .ref (m + 13), .ref (m + 14), .ref (m + 15), .int 0, .int 0, .int 0, .int 0, .int 0, .int 0, .int 0, .int 0, .int 0, .int (-1), .ref (m + 16), .ref (m + 17), .ref (m + 18), .ref (m + 19), .ref (m + 20), .int 0, .int 0, .ref (m + 21), .ref (m + 22), .int 0]) rfl (up_self z0).symm ?_
  refine m_iload_n F rfl e_X10_account_5 ?_
  refine m_if_lt F e_X10_account_6 (fun q6 => ?_) (fun q6 => ?_)
  · refine m_ldc2 F kc_X10_299 e_X10_account_28 ?_
    exact m_lret F hQ e_X10_account_31 (by rw [if_pos (Or.inl q6)]; rfl)
  · refine m_iload_n F rfl e_X10_account_9 ?_
    refine m_bipush F (v := 6) (by decide) e_X10_account_10 ?_
    refine m_icmp_ge F e_X10_account_12 (fun q12 => ?_) (fun q12 => ?_)
    · refine m_ldc2 F kc_X10_299 e_X10_account_28 ?_
      exact m_lret F hQ e_X10_account_31 (by rw [if_pos (Or.inr q12)]; rfl)
    · obtain ⟨k, hk, ek⟩ := nI_of2 (x := x) (M := 6) (n := 6) (by decide) q6 (Int32.le_of_lt (Int32.not_le.mp q12))
      subst ek
      have hk6 : k < 6 := by have hh := mt (nI_leI (a := 6) (b := k) (by omega) (by omega)).mpr q12; omega
      refine m_aload_n F rfl e_X10_account_15 ?_
      refine m_get F e_X10_account_16 fl_X10_59 z0 rfl ?_
      refine m_sipush F (v := 745) (by decide) e_X10_account_19 ?_
      refine m_iload_n F rfl e_X10_account_22 ?_
      refine m_iadd F e_X10_account_23 ?_
      refine Wm.topE (w := nI (745 + k)) (nI_add 745 k) ?_
      refine m_lald F (j := 745 + k) e_X10_account_24 z16 (nI_clamp (by omega)) (vp_in_nI (by omega) (by omega)) ?_
      refine Wm.toplE (w := 0) (sZ_hi (by omega)) ?_
      refine m_goto F e_X10_account_25 ?_
      exact m_lret F hQ e_X10_account_31 (by rw [if_neg (fun h => h.elim q6 q12)])
set_option maxRecDepth 20000 in
theorem n_entry (l : Launch) (V : VX) (N : Nat) (σ : Mem) (m : Nat) (x y : Int32) (hZ : MZ V σ m) : Ct l V yX10_entry_ cX10_entry_ 3 (some .long) 0 0 0 N σ [.ref m, .int x, .int y] (fun r _ => r = some (.long NOA)) := by
  refine Ct.of (by decide) (Nat.le_of_ble_eq_true rfl) [(0, .ref m), (1, .int x), (2, .int y)] rfl (fun X hX F hQ => ?_)
  obtain ⟨z0, z1, z2, z3, z4, z5, z6, z7, z8, z9, z10, z11, z12, z13, z14, z15, z16, z17, z18, z19, z20, z21, z22⟩ := hZ
  refine m_aload_n F rfl e_X10_entry__0 ?_
  refine m_iconst F (v := 0) (by decide) e_X10_entry__1 ?_
  refine m_put F e_X10_entry__2 fp_X10_91 z0 rfl rfl (Nat.le_of_ble_eq_true rfl) (fs' := [.int 0, .ref (m + 1), .int 0, .ref (m + 2), .ref (m + 3), .ref (m + 4), .ref (m + 5), .ref (m + 6), .ref (m + 7), .ref (m + 8), .ref (m + 9), .ref (m + 10), .ref (m + 11), .ref (m + 12), .ref (m + 13), .ref (m + 14), .ref (m + 15), .int 0, .int 0, .int 0, .int 0, .int 0, .int 0, .int 0, .int 0, .int 0, .int (-1), .ref (m + 16), .ref (m + 17), .ref (m + 18), .ref (m + 19), .ref (m + 20), .int 0, .int 0, .ref (m + 21), .ref (m + 22), .int 0]) rfl (up_self z0).symm ?_
  refine m_iload_n F rfl e_X10_entry__5 ?_
  refine m_if_lt F e_X10_entry__6 (fun q6 => ?_) (fun q6 => ?_)
  · refine m_ldc2 F kc_X10_299 e_X10_entry__23 ?_
    exact m_lret F hQ e_X10_entry__26 (rfl)
  · refine m_iload_n F rfl e_X10_entry__9 ?_
    refine m_i2l F e_X10_entry__10 ?_
    refine m_aload_n F rfl e_X10_entry__11 ?_
    refine m_get F e_X10_entry__12 fl_X10_59 z0 rfl ?_
    refine m_sipush F (v := 751) (by decide) e_X10_entry__15 ?_
    refine m_lald F (j := 751) e_X10_entry__18 z16 (by decide) (by unfold vp_in; decide) ?_
    refine Wm.toplE (w := 0) (sZ_hi (by omega)) ?_
    refine m_lcmp F e_X10_entry__19 ?_
    refine m_if_lt F e_X10_entry__20 (fun q20 => absurd q20 (fun h => absurd ((lg_cmp_lt _ _).mp h) (Int64.not_lt.mpr (i2l_nn (Int32.not_lt.mp q6))))) (fun q20 => ?_)
    refine m_ldc2 F kc_X10_299 e_X10_entry__23 ?_
    exact m_lret F hQ e_X10_entry__26 (rfl)
set_option maxRecDepth 20000 in
theorem n_sum (l : Launch) (V : VX) (N : Nat) (σ : Mem) (m : Nat) (x y : Int32) (hZ : MZ V σ m) : Ct l V yX10_sum cX10_sum 6 (some .long) 0 0 0 N σ [.ref m, .int x, .int y] (fun r _ => r = some (.long (if x < 0 ∨ 5 < x ∨ y < 0 ∨ 5 < y then NOA else 0))) := by
  refine Ct.of (by decide) (Nat.le_of_ble_eq_true rfl) [(0, .ref m), (1, .int x), (2, .int y)] rfl (fun X hX F hQ => ?_)
  obtain ⟨z0, z1, z2, z3, z4, z5, z6, z7, z8, z9, z10, z11, z12, z13, z14, z15, z16, z17, z18, z19, z20, z21, z22⟩ := hZ
  refine m_aload_n F rfl e_X10_sum_0 ?_
  refine m_iconst F (v := 0) (by decide) e_X10_sum_1 ?_
  refine m_put F e_X10_sum_2 fp_X10_91 z0 rfl rfl (Nat.le_of_ble_eq_true rfl) (fs' := [.int 0, .ref (m + 1), .int 0, .ref (m + 2), .ref (m + 3), .ref (m + 4), .ref (m + 5), .ref (m + 6), .ref (m + 7), .ref (m + 8), .ref (m + 9), .ref (m + 10), .ref (m + 11), .ref (m + 12), .ref (m + 13), .ref (m + 14), .ref (m + 15), .int 0, .int 0, .int 0, .int 0, .int 0, .int 0, .int 0, .int 0, .int 0, .int (-1), .ref (m + 16), .ref (m + 17), .ref (m + 18), .ref (m + 19), .ref (m + 20), .int 0, .int 0, .ref (m + 21), .ref (m + 22), .int 0]) rfl (up_self z0).symm ?_
  refine m_iload_n F rfl e_X10_sum_5 ?_
  refine m_if_lt F e_X10_sum_6 (fun q6 => ?_) (fun q6 => ?_)
  · refine m_ldc2 F kc_X10_299 e_X10_sum_23 ?_
    exact m_lret F hQ e_X10_sum_26 (by rw [if_pos (Or.inl q6)]; rfl)
  · refine m_iload_n F rfl e_X10_sum_9 ?_
    refine m_iconst F (v := 5) (by decide) e_X10_sum_10 ?_
    refine m_icmp_gt F e_X10_sum_11 (fun q11 => ?_) (fun q11 => ?_)
    · refine m_ldc2 F kc_X10_299 e_X10_sum_23 ?_
      exact m_lret F hQ e_X10_sum_26 (by rw [if_pos (Or.inr (Or.inl q11))]; rfl)
    · refine m_iload_n F rfl e_X10_sum_14 ?_
      refine m_if_lt F e_X10_sum_15 (fun q15 => ?_) (fun q15 => ?_)
      · refine m_ldc2 F kc_X10_299 e_X10_sum_23 ?_
        exact m_lret F hQ e_X10_sum_26 (by rw [if_pos (Or.inr (Or.inr (Or.inl q15)))]; rfl)
      · refine m_iload_n F rfl e_X10_sum_18 ?_
        refine m_iconst F (v := 5) (by decide) e_X10_sum_19 ?_
        refine m_icmp_le F e_X10_sum_20 (fun q20 => ?_) (fun q20 => ?_)
        · refine m_lconst F (v := 0) (by decide) e_X10_sum_27 ?_
          refine m_lstore_n F (lv' := [(3, .long 0), (0, .ref m), (1, .int x), (2, .int y)]) e_X10_sum_28 (by decide) rfl ?_
          refine m_iconst F (v := 0) (by decide) e_X10_sum_29 ?_
          refine m_istore F (lv' := [(5, .int 0), (3, .long 0), (0, .ref m), (1, .int x), (2, .int y)]) e_X10_sum_30 (by decide) rfl ?_
          refine m_iload F rfl e_X10_sum_32 ?_
          refine m_i2l F e_X10_sum_34 ?_
          refine Wm.toplE (w := 0) (by decide) ?_
          refine m_aload_n F rfl e_X10_sum_35 ?_
          refine m_get F e_X10_sum_36 fl_X10_59 z0 rfl ?_
          refine m_sipush F (v := 751) (by decide) e_X10_sum_39 ?_
          refine m_lald F (j := 751) e_X10_sum_42 z16 (by decide) (by unfold vp_in; decide) ?_
          refine Wm.toplE (w := 0) (sZ_hi (by omega)) ?_
          refine m_lcmp F e_X10_sum_43 ?_
          refine Wm.topE (w := 0) (by decide) ?_
          refine m_if_ge F e_X10_sum_44 (fun _ => ?_) (fun q => absurd (by decide) q)
          refine m_lload_n F rfl e_X10_sum_94 ?_
          exact m_lret F hQ e_X10_sum_95 (by rw [if_neg (fun h => h.elim q6 (fun h => h.elim q11 (fun h => h.elim q15 (fun h => absurd q20 (Int32.not_le.mpr h)))))])
        · refine m_ldc2 F kc_X10_299 e_X10_sum_23 ?_
          exact m_lret F hQ e_X10_sum_26 (by rw [if_pos (Or.inr (Or.inr (Or.inr (Int32.not_le.mp q20))))]; rfl)
set_option maxRecDepth 20000 in
theorem n_count (l : Launch) (V : VX) (N : Nat) (σ : Mem) (m : Nat) (x : Int32) (hZ : MZ V σ m) : Ct l V yX10_count cX10_count 2 (some .int) 2 0 0 N σ [.ref m, .int x] (fun r _ => r = some (.int (if x.toInt < 0 ∨ 7 < x.toInt then -1 else 0))) := by
  refine Ct.of (by decide) (Nat.le_of_ble_eq_true rfl) [(0, .ref m), (1, .int x)] rfl (fun X hX F hQ => ?_)
  obtain ⟨z0, z1, z2, z3, z4, z5, z6, z7, z8, z9, z10, z11, z12, z13, z14, z15, z16, z17, z18, z19, z20, z21, z22⟩ := hZ
  refine m_aload_n F rfl e_X10_count_0 ?_
  refine m_iconst F (v := 0) (by decide) e_X10_count_1 ?_
  refine m_put F e_X10_count_2 fp_X10_91 z0 rfl rfl (Nat.le_of_ble_eq_true rfl) (fs' := [.int 0, .ref (m + 1), .int 0, .ref (m + 2), .ref (m + 3), .ref (m + 4), .ref (m + 5), .ref (m + 6), .ref (m + 7), .ref (m + 8), .ref (m + 9), .ref (m + 10), .ref (m + 11), .ref (m + 12), .ref (m + 13), .ref (m + 14), .ref (m + 15), .int 0, .int 0, .int 0, .int 0, .int 0, .int 0, .int 0, .int 0, .int 0, .int (-1), .ref (m + 16), .ref (m + 17), .ref (m + 18), .ref (m + 19), .ref (m + 20), .int 0, .int 0, .ref (m + 21), .ref (m + 22), .int 0]) rfl (up_self z0).symm ?_
  refine m_iload_n F rfl e_X10_count_5 ?_
  by_cases hlo : x.toInt < 0
  · refine m_tableOut F e_X10_count_6 (Or.inl hlo) (tgt := 109) (by decide) ?_
    refine m_iconst F (v := (-1)) (by decide) e_X10_count_109 ?_
    exact m_iret F hQ e_X10_count_110 (by rw [if_pos (Or.inl hlo)])
  by_cases hhi : 7 < x.toInt
  · refine m_tableOut F e_X10_count_6 (Or.inr hhi) (tgt := 109) (by decide) ?_
    refine m_iconst F (v := (-1)) (by decide) e_X10_count_109 ?_
    exact m_iret F hQ e_X10_count_110 (by rw [if_pos (Or.inr hhi)])
  have hx : x.toInt = 0 ∨ x.toInt = 1 ∨ x.toInt = 2 ∨ x.toInt = 3 ∨ x.toInt = 4 ∨ x.toInt = 5 ∨ x.toInt = 6 ∨ x.toInt = 7 := by omega
  rcases hx with hx | hx | hx | hx | hx | hx | hx | hx
  · refine m_tableIn F e_X10_count_6 hlo hhi (off := 46) (by rw [hx]; rfl) (tgt := 52) (by decide) ?_
    refine m_aload_n F rfl e_X10_count_52 ?_
    refine m_callV F e_X10_count_53 (k_leases0 (x_l X) V _ _ m 0 0 0 0 0 0 0 0 0 0 0 (-1) 0 0 0  z0 z2 ) cb_X10_leases ml_X10_221 im_X10_leases se_X10_leases z0 rfl rfl (rest := []) rfl (Nat.le_of_ble_eq_true rfl) ⟨Nat.le_of_ble_eq_true rfl, Nat.le_of_ble_eq_true rfl⟩ ⟨Nat.le_of_ble_eq_true rfl, Nat.le_of_ble_eq_true rfl⟩ (k' := 0) (z' := 0) (N' := N) rfl rfl rfl (fun r τ hp => ?_)
    obtain ⟨rfl, rfl⟩ := hp
    exact m_iret F hQ e_X10_count_56 (by rw [if_neg (fun h => h.elim hlo hhi)])
  · refine m_tableIn F e_X10_count_6 hlo hhi (off := 51) (by rw [hx]; rfl) (tgt := 57) (by decide) ?_
    refine m_aload_n F rfl e_X10_count_57 ?_
    refine m_get F e_X10_count_58 fl_X10_13 z0 rfl ?_
    refine m_iconst F (v := 3) (by decide) e_X10_count_61 ?_
    refine m_iald F (j := 3) e_X10_count_62 z2 (by decide) (by unfold vp_in; decide) ?_
    refine Wm.topE (w := 0) (rfl) ?_
    exact m_iret F hQ e_X10_count_63 (by rw [if_neg (fun h => h.elim hlo hhi)])
  · refine m_tableIn F e_X10_count_6 hlo hhi (off := 58) (by rw [hx]; rfl) (tgt := 64) (by decide) ?_
    refine m_aload_n F rfl e_X10_count_64 ?_
    refine m_get F e_X10_count_65 fl_X10_59 z0 rfl ?_
    refine m_sipush F (v := 744) (by decide) e_X10_count_68 ?_
    refine m_lald F (j := 744) e_X10_count_71 z16 (by decide) (by unfold vp_in; decide) ?_
    refine Wm.toplE (w := 0) (sZ_hi (by omega)) ?_
    refine m_l2i F e_X10_count_72 ?_
    refine Wm.topE (w := 0) (by decide) ?_
    exact m_iret F hQ e_X10_count_73 (by rw [if_neg (fun h => h.elim hlo hhi)])
  · refine m_tableIn F e_X10_count_6 hlo hhi (off := 68) (by rw [hx]; rfl) (tgt := 74) (by decide) ?_
    refine m_aload_n F rfl e_X10_count_74 ?_
    refine m_get F e_X10_count_75 fl_X10_59 z0 rfl ?_
    refine m_sipush F (v := 751) (by decide) e_X10_count_78 ?_
    refine m_lald F (j := 751) e_X10_count_81 z16 (by decide) (by unfold vp_in; decide) ?_
    refine Wm.toplE (w := 0) (sZ_hi (by omega)) ?_
    refine m_l2i F e_X10_count_82 ?_
    refine Wm.topE (w := 0) (by decide) ?_
    exact m_iret F hQ e_X10_count_83 (by rw [if_neg (fun h => h.elim hlo hhi)])
  · refine m_tableIn F e_X10_count_6 hlo hhi (off := 78) (by rw [hx]; rfl) (tgt := 84) (by decide) ?_
    refine m_aload_n F rfl e_X10_count_84 ?_
    refine m_get F e_X10_count_85 fl_X10_59 z0 rfl ?_
    refine m_sipush F (v := 752) (by decide) e_X10_count_88 ?_
    refine m_lald F (j := 752) e_X10_count_91 z16 (by decide) (by unfold vp_in; decide) ?_
    refine Wm.toplE (w := 0) (sZ_hi (by omega)) ?_
    refine m_l2i F e_X10_count_92 ?_
    refine Wm.topE (w := 0) (by decide) ?_
    exact m_iret F hQ e_X10_count_93 (by rw [if_neg (fun h => h.elim hlo hhi)])
  · refine m_tableIn F e_X10_count_6 hlo hhi (off := 88) (by rw [hx]; rfl) (tgt := 94) (by decide) ?_
    refine m_aload_n F rfl e_X10_count_94 ?_
    refine m_callV F e_X10_count_95 (k_running0 (x_l X) V _ _ m 0 0 0 0 0 0 0 0 0 0 0 (-1) 0 0 0  z0 z2 ) cb_X10_running ml_X10_373 im_X10_running se_X10_running z0 rfl rfl (rest := []) rfl (Nat.le_of_ble_eq_true rfl) ⟨Nat.le_of_ble_eq_true rfl, Nat.le_of_ble_eq_true rfl⟩ ⟨Nat.le_of_ble_eq_true rfl, Nat.le_of_ble_eq_true rfl⟩ (k' := 0) (z' := 0) (N' := N) rfl rfl rfl (fun r τ hp => ?_)
    obtain ⟨rfl, rfl⟩ := hp
    exact m_iret F hQ e_X10_count_98 (by rw [if_neg (fun h => h.elim hlo hhi)])
  · refine m_tableIn F e_X10_count_6 hlo hhi (off := 93) (by rw [hx]; rfl) (tgt := 99) (by decide) ?_
    refine m_aload_n F rfl e_X10_count_99 ?_
    refine m_get F e_X10_count_100 fl_X10_214 z0 rfl ?_
    exact m_iret F hQ e_X10_count_103 (by rw [if_neg (fun h => h.elim hlo hhi)])
  · refine m_tableIn F e_X10_count_6 hlo hhi (off := 98) (by rw [hx]; rfl) (tgt := 104) (by decide) ?_
    refine m_aload_n F rfl e_X10_count_104 ?_
    refine m_get F e_X10_count_105 fl_X10_94 z0 rfl ?_
    exact m_iret F hQ e_X10_count_108 (by rw [if_neg (fun h => h.elim hlo hhi)])
