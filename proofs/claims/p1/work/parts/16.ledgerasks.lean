theorem e_X9_amount_0 : DC cX9_amount 0 1 1 (.aload_n 0) := ⟨by decide +kernel, rfl⟩
theorem e_X9_amount_1 : DC cX9_amount 1 1 2 (.iload_n 1) := ⟨by decide +kernel, rfl⟩
theorem e_X9_amount_2 : DC cX9_amount 2 3 5 (.invokevirtual 103) := ⟨by decide +kernel, rfl⟩
theorem e_X9_amount_5 : DC cX9_amount 5 1 6 (.astore_n 3) := ⟨by decide +kernel, rfl⟩
theorem e_X9_amount_6 : DC cX9_amount 6 1 7 (.aload_n 3) := ⟨by decide +kernel, rfl⟩
theorem e_X9_amount_7 : DJ cX9_amount 7 19 10 .ifnull := DJ.mk 12 (by decide +kernel) (by decide) rfl
theorem e_X9_amount_19 : DC cX9_amount 19 3 22 (.ldc2_w 149) := ⟨by decide +kernel, rfl⟩
theorem kc_X9_149 : Cond.constantLong RX9 149 (-1) ∈ tb := tb_in 1052 (by decide +kernel) (by decide +kernel)
theorem e_X9_amount_22 : DC cX9_amount 22 1 23 (.lreturn) := ⟨by decide +kernel, rfl⟩
theorem e_X9_due_0 : DC cX9_due 0 1 1 (.aload_n 0) := ⟨by decide +kernel, rfl⟩
theorem e_X9_due_1 : DC cX9_due 1 1 2 (.iload_n 1) := ⟨by decide +kernel, rfl⟩
theorem e_X9_due_2 : DC cX9_due 2 3 5 (.invokevirtual 103) := ⟨by decide +kernel, rfl⟩
theorem e_X9_due_5 : DC cX9_due 5 1 6 (.astore_n 3) := ⟨by decide +kernel, rfl⟩
theorem e_X9_due_6 : DC cX9_due 6 1 7 (.aload_n 3) := ⟨by decide +kernel, rfl⟩
theorem e_X9_due_7 : DJ cX9_due 7 18 10 .ifnull := DJ.mk 11 (by decide +kernel) (by decide) rfl
theorem e_X9_due_18 : DC cX9_due 18 3 21 (.ldc2_w 149) := ⟨by decide +kernel, rfl⟩
theorem e_X9_due_21 : DC cX9_due 21 1 22 (.lreturn) := ⟨by decide +kernel, rfl⟩
theorem e_X9_worth_0 : DC cX9_worth 0 1 1 (.aload_n 0) := ⟨by decide +kernel, rfl⟩
theorem e_X9_worth_1 : DC cX9_worth 1 1 2 (.iload_n 1) := ⟨by decide +kernel, rfl⟩
theorem e_X9_worth_2 : DC cX9_worth 2 3 5 (.invokevirtual 103) := ⟨by decide +kernel, rfl⟩
theorem e_X9_worth_5 : DC cX9_worth 5 2 7 (.astore 4) := ⟨by decide +kernel, rfl⟩
theorem e_X9_worth_7 : DC cX9_worth 7 2 9 (.aload 4) := ⟨by decide +kernel, rfl⟩
theorem e_X9_worth_9 : DJ cX9_worth 9 31 12 .ifnull := DJ.mk 22 (by decide +kernel) (by decide) rfl
theorem e_X9_worth_31 : DC cX9_worth 31 3 34 (.ldc2_w 149) := ⟨by decide +kernel, rfl⟩
theorem e_X9_worth_34 : DC cX9_worth 34 1 35 (.lreturn) := ⟨by decide +kernel, rfl⟩
theorem e_X9_plan_0 : DC cX9_plan 0 1 1 (.aload_n 0) := ⟨by decide +kernel, rfl⟩
theorem e_X9_plan_1 : DC cX9_plan 1 1 2 (.iload_n 1) := ⟨by decide +kernel, rfl⟩
theorem e_X9_plan_2 : DC cX9_plan 2 3 5 (.invokevirtual 103) := ⟨by decide +kernel, rfl⟩
theorem e_X9_plan_5 : DC cX9_plan 5 2 7 (.astore 4) := ⟨by decide +kernel, rfl⟩
theorem e_X9_plan_7 : DC cX9_plan 7 2 9 (.aload 4) := ⟨by decide +kernel, rfl⟩
theorem e_X9_plan_9 : DJ cX9_plan 9 31 12 .ifnull := DJ.mk 22 (by decide +kernel) (by decide) rfl
theorem e_X9_plan_31 : DC cX9_plan 31 3 34 (.ldc2_w 149) := ⟨by decide +kernel, rfl⟩
theorem e_X9_plan_34 : DC cX9_plan 34 1 35 (.lreturn) := ⟨by decide +kernel, rfl⟩
theorem e_X9_soon_0 : DC cX9_soon 0 1 1 (.aload_n 0) := ⟨by decide +kernel, rfl⟩
theorem e_X9_soon_1 : DC cX9_soon 1 1 2 (.iload_n 1) := ⟨by decide +kernel, rfl⟩
theorem e_X9_soon_2 : DC cX9_soon 2 3 5 (.invokevirtual 103) := ⟨by decide +kernel, rfl⟩
theorem e_X9_soon_5 : DC cX9_soon 5 1 6 (.astore_n 3) := ⟨by decide +kernel, rfl⟩
theorem e_X9_soon_6 : DC cX9_soon 6 1 7 (.aload_n 3) := ⟨by decide +kernel, rfl⟩
theorem e_X9_soon_7 : DJ cX9_soon 7 19 10 .ifnull := DJ.mk 12 (by decide +kernel) (by decide) rfl
theorem e_X9_soon_19 : DC cX9_soon 19 3 22 (.ldc2_w 149) := ⟨by decide +kernel, rfl⟩
theorem e_X9_soon_22 : DC cX9_soon 22 1 23 (.lreturn) := ⟨by decide +kernel, rfl⟩
theorem e_X9_life_0 : DC cX9_life 0 1 1 (.aload_n 0) := ⟨by decide +kernel, rfl⟩
theorem e_X9_life_1 : DC cX9_life 1 1 2 (.iload_n 1) := ⟨by decide +kernel, rfl⟩
theorem e_X9_life_2 : DC cX9_life 2 3 5 (.invokevirtual 103) := ⟨by decide +kernel, rfl⟩
theorem e_X9_life_5 : DC cX9_life 5 1 6 (.astore_n 3) := ⟨by decide +kernel, rfl⟩
theorem e_X9_life_6 : DC cX9_life 6 1 7 (.aload_n 3) := ⟨by decide +kernel, rfl⟩
theorem e_X9_life_7 : DJ cX9_life 7 14 10 .ifnonnull := DJ.mk 7 (by decide +kernel) (by decide) rfl
theorem e_X9_life_10 : DC cX9_life 10 3 13 (.ldc2_w 149) := ⟨by decide +kernel, rfl⟩
theorem e_X9_life_13 : DC cX9_life 13 1 14 (.lreturn) := ⟨by decide +kernel, rfl⟩
theorem e_X9_ifIndex_0 : DC cX9_ifIndex 0 1 1 (.aload_n 0) := ⟨by decide +kernel, rfl⟩
theorem e_X9_ifIndex_1 : DC cX9_ifIndex 1 1 2 (.iload_n 1) := ⟨by decide +kernel, rfl⟩
theorem e_X9_ifIndex_2 : DC cX9_ifIndex 2 3 5 (.invokevirtual 103) := ⟨by decide +kernel, rfl⟩
theorem e_X9_ifIndex_5 : DJ cX9_ifIndex 5 15 8 .ifnull := DJ.mk 10 (by decide +kernel) (by decide) rfl
theorem e_X9_ifIndex_15 : DC cX9_ifIndex 15 3 18 (.ldc2_w 149) := ⟨by decide +kernel, rfl⟩
theorem e_X9_ifIndex_18 : DC cX9_ifIndex 18 1 19 (.lreturn) := ⟨by decide +kernel, rfl⟩
theorem e_X9_moved_0 : DC cX9_moved 0 1 1 (.aload_n 0) := ⟨by decide +kernel, rfl⟩
theorem e_X9_moved_1 : DC cX9_moved 1 1 2 (.iload_n 1) := ⟨by decide +kernel, rfl⟩
theorem e_X9_moved_2 : DC cX9_moved 2 3 5 (.invokevirtual 103) := ⟨by decide +kernel, rfl⟩
theorem e_X9_moved_5 : DC cX9_moved 5 1 6 (.astore_n 3) := ⟨by decide +kernel, rfl⟩
theorem e_X9_moved_6 : DC cX9_moved 6 1 7 (.aload_n 3) := ⟨by decide +kernel, rfl⟩
theorem e_X9_moved_7 : DJ cX9_moved 7 19 10 .ifnull := DJ.mk 12 (by decide +kernel) (by decide) rfl
theorem e_X9_moved_19 : DC cX9_moved 19 3 22 (.ldc2_w 184) := ⟨by decide +kernel, rfl⟩
theorem kc_X9_184 : Cond.constantLong RX9 184 (-9223372036854775808) ∈ tb := tb_in 1077 (by decide +kernel) (by decide +kernel)
theorem e_X9_moved_22 : DC cX9_moved 22 1 23 (.lreturn) := ⟨by decide +kernel, rfl⟩
theorem e_X9_rate_0 : DC cX9_rate 0 1 1 (.aload_n 0) := ⟨by decide +kernel, rfl⟩
theorem e_X9_rate_1 : DC cX9_rate 1 1 2 (.iload_n 1) := ⟨by decide +kernel, rfl⟩
theorem e_X9_rate_2 : DC cX9_rate 2 3 5 (.invokevirtual 203) := ⟨by decide +kernel, rfl⟩
theorem cb_X9_runningAt : CB yX9_runningAt cX9_runningAt 3 (some (.object "LeaseLedger$Lease")) 1 := ⟨tb_in 1099 (by decide +kernel) (by decide +kernel), tb_in 1 (by decide +kernel) (by decide +kernel), by decide +kernel⟩
theorem ml_X9_203 : Cond.methodLink RX9 203 yX9_runningAt ∈ tb := tb_in 1096 (by decide +kernel) (by decide +kernel)
theorem im_X9_runningAt : Cond.instanceMethod yX9_runningAt ∈ tb := tb_in 1098 (by decide +kernel) (by decide +kernel)
theorem se_X9_runningAt : Cond.selects (yX9_runningAt).cls yX9_runningAt yX9_runningAt ∈ tb := tb_sel 5 (by decide +kernel) (by decide +kernel)
theorem e_X9_rate_5 : DC cX9_rate 5 1 6 (.astore_n 3) := ⟨by decide +kernel, rfl⟩
theorem e_X9_rate_6 : DC cX9_rate 6 1 7 (.aload_n 3) := ⟨by decide +kernel, rfl⟩
theorem e_X9_rate_7 : DJ cX9_rate 7 20 10 .ifnull := DJ.mk 13 (by decide +kernel) (by decide) rfl
theorem e_X9_rate_20 : DC cX9_rate 20 3 23 (.ldc2_w 184) := ⟨by decide +kernel, rfl⟩
theorem e_X9_rate_23 : DC cX9_rate 23 1 24 (.lreturn) := ⟨by decide +kernel, rfl⟩
theorem e_X9_extend_0 : DC cX9_extend 0 1 1 (.aload_n 0) := ⟨by decide +kernel, rfl⟩
theorem e_X9_extend_1 : DC cX9_extend 1 1 2 (.iload_n 1) := ⟨by decide +kernel, rfl⟩
theorem e_X9_extend_2 : DC cX9_extend 2 3 5 (.invokevirtual 203) := ⟨by decide +kernel, rfl⟩
theorem e_X9_extend_5 : DC cX9_extend 5 1 6 (.astore_n 3) := ⟨by decide +kernel, rfl⟩
theorem e_X9_extend_6 : DC cX9_extend 6 1 7 (.aload_n 3) := ⟨by decide +kernel, rfl⟩
theorem e_X9_extend_7 : DJ cX9_extend 7 32 10 .ifnull := DJ.mk 25 (by decide +kernel) (by decide) rfl
theorem e_X9_extend_32 : DC cX9_extend 32 3 35 (.ldc2_w 184) := ⟨by decide +kernel, rfl⟩
theorem e_X9_extend_35 : DC cX9_extend 35 1 36 (.lreturn) := ⟨by decide +kernel, rfl⟩
theorem e_X9_take_0 : DC cX9_take 0 1 1 (.aload_n 0) := ⟨by decide +kernel, rfl⟩
theorem e_X9_take_1 : DC cX9_take 1 3 4 (.getfield 16) := ⟨by decide +kernel, rfl⟩
theorem e_X9_take_4 : DC cX9_take 4 1 5 (.iload_n 1) := ⟨by decide +kernel, rfl⟩
theorem e_X9_take_5 : DC cX9_take 5 3 8 (.invokevirtual 214) := ⟨by decide +kernel, rfl⟩
theorem cb_X2_canTake : CB yX2_canTake cX2_canTake 2 (some .boolean) 1 := ⟨tb_in 1122 (by decide +kernel) (by decide +kernel), tb_in 2 (by decide +kernel) (by decide +kernel), by decide +kernel⟩
theorem ml_X9_214 : Cond.methodLink RX9 214 yX2_canTake ∈ tb := tb_in 1119 (by decide +kernel) (by decide +kernel)
theorem im_X2_canTake : Cond.instanceMethod yX2_canTake ∈ tb := tb_in 1120 (by decide +kernel) (by decide +kernel)
theorem se_X2_canTake : Cond.selects (yX2_canTake).cls yX2_canTake yX2_canTake ∈ tb := tb_in 1121 (by decide +kernel) (by decide +kernel)
theorem e_X9_take_8 : DJ cX9_take 8 15 11 (.ifCond .ne) := DJ.mk 7 (by decide +kernel) (by decide) rfl
theorem e_X9_take_11 : DC cX9_take 11 3 14 (.ldc2_w 184) := ⟨by decide +kernel, rfl⟩
theorem e_X9_take_14 : DC cX9_take 14 1 15 (.lreturn) := ⟨by decide +kernel, rfl⟩
theorem e_X9_part_0 : DC cX9_part 0 1 1 (.aload_n 0) := ⟨by decide +kernel, rfl⟩
theorem e_X9_part_1 : DC cX9_part 1 1 2 (.iload_n 1) := ⟨by decide +kernel, rfl⟩
theorem e_X9_part_2 : DC cX9_part 2 3 5 (.invokevirtual 203) := ⟨by decide +kernel, rfl⟩
theorem e_X9_part_5 : DC cX9_part 5 1 6 (.astore_n 3) := ⟨by decide +kernel, rfl⟩
theorem e_X9_part_6 : DC cX9_part 6 1 7 (.aload_n 3) := ⟨by decide +kernel, rfl⟩
theorem e_X9_part_7 : DJ cX9_part 7 22 10 .ifnull := DJ.mk 15 (by decide +kernel) (by decide) rfl
theorem e_X9_part_22 : DC cX9_part 22 3 25 (.ldc2_w 184) := ⟨by decide +kernel, rfl⟩
theorem e_X9_part_25 : DC cX9_part 25 1 26 (.lreturn) := ⟨by decide +kernel, rfl⟩
theorem e_X9_end_0 : DC cX9_end 0 1 1 (.aload_n 0) := ⟨by decide +kernel, rfl⟩
theorem e_X9_end_1 : DC cX9_end 1 1 2 (.iload_n 1) := ⟨by decide +kernel, rfl⟩
theorem e_X9_end_2 : DC cX9_end 2 3 5 (.invokevirtual 203) := ⟨by decide +kernel, rfl⟩
theorem e_X9_end_5 : DC cX9_end 5 1 6 (.astore_n 2) := ⟨by decide +kernel, rfl⟩
theorem e_X9_end_6 : DC cX9_end 6 1 7 (.aload_n 2) := ⟨by decide +kernel, rfl⟩
theorem e_X9_end_7 : DJ cX9_end 7 14 10 .ifnonnull := DJ.mk 7 (by decide +kernel) (by decide) rfl
theorem e_X9_end_10 : DC cX9_end 10 3 13 (.ldc2_w 184) := ⟨by decide +kernel, rfl⟩
theorem e_X9_end_13 : DC cX9_end 13 1 14 (.lreturn) := ⟨by decide +kernel, rfl⟩
theorem e_X9_putOff_0 : DC cX9_putOff 0 1 1 (.aload_n 0) := ⟨by decide +kernel, rfl⟩
theorem e_X9_putOff_1 : DC cX9_putOff 1 1 2 (.iload_n 1) := ⟨by decide +kernel, rfl⟩
theorem e_X9_putOff_2 : DC cX9_putOff 2 3 5 (.invokevirtual 203) := ⟨by decide +kernel, rfl⟩
theorem e_X9_putOff_5 : DC cX9_putOff 5 2 7 (.astore 4) := ⟨by decide +kernel, rfl⟩
theorem e_X9_putOff_7 : DC cX9_putOff 7 2 9 (.aload 4) := ⟨by decide +kernel, rfl⟩
theorem e_X9_putOff_9 : DJ cX9_putOff 9 44 12 .ifnull := DJ.mk 35 (by decide +kernel) (by decide) rfl
theorem e_X9_putOff_44 : DC cX9_putOff 44 3 47 (.ldc2_w 184) := ⟨by decide +kernel, rfl⟩
theorem e_X9_putOff_47 : DC cX9_putOff 47 1 48 (.lreturn) := ⟨by decide +kernel, rfl⟩
theorem e_X9_ifTaken_0 : DC cX9_ifTaken 0 1 1 (.aload_n 0) := ⟨by decide +kernel, rfl⟩
theorem e_X9_ifTaken_1 : DC cX9_ifTaken 1 3 4 (.getfield 16) := ⟨by decide +kernel, rfl⟩
theorem e_X9_ifTaken_4 : DC cX9_ifTaken 4 1 5 (.iload_n 1) := ⟨by decide +kernel, rfl⟩
theorem e_X9_ifTaken_5 : DC cX9_ifTaken 5 3 8 (.invokevirtual 214) := ⟨by decide +kernel, rfl⟩
theorem e_X9_ifTaken_8 : DJ cX9_ifTaken 8 15 11 (.ifCond .ne) := DJ.mk 7 (by decide +kernel) (by decide) rfl
theorem e_X9_ifTaken_11 : DC cX9_ifTaken 11 3 14 (.ldc2_w 184) := ⟨by decide +kernel, rfl⟩
theorem e_X9_ifTaken_14 : DC cX9_ifTaken 14 1 15 (.lreturn) := ⟨by decide +kernel, rfl⟩
theorem e_X9_down_0 : DC cX9_down 0 1 1 (.aload_n 0) := ⟨by decide +kernel, rfl⟩
theorem e_X9_down_1 : DC cX9_down 1 1 2 (.iload_n 1) := ⟨by decide +kernel, rfl⟩
theorem e_X9_down_2 : DC cX9_down 2 3 5 (.invokevirtual 203) := ⟨by decide +kernel, rfl⟩
theorem e_X9_down_5 : DC cX9_down 5 2 7 (.astore 4) := ⟨by decide +kernel, rfl⟩
theorem e_X9_down_7 : DC cX9_down 7 2 9 (.aload 4) := ⟨by decide +kernel, rfl⟩
theorem e_X9_down_9 : DJ cX9_down 9 30 12 .ifnull := DJ.mk 21 (by decide +kernel) (by decide) rfl
theorem e_X9_down_30 : DC cX9_down 30 3 33 (.ldc2_w 184) := ⟨by decide +kernel, rfl⟩
theorem e_X9_down_33 : DC cX9_down 33 1 34 (.lreturn) := ⟨by decide +kernel, rfl⟩
theorem e_X9_named_0 : DC cX9_named 0 1 1 (.aload_n 0) := ⟨by decide +kernel, rfl⟩
theorem e_X9_named_1 : DC cX9_named 1 3 4 (.getfield 16) := ⟨by decide +kernel, rfl⟩
theorem e_X9_named_4 : DC cX9_named 4 1 5 (.iload_n 1) := ⟨by decide +kernel, rfl⟩
theorem e_X9_named_5 : DC cX9_named 5 3 8 (.invokevirtual 90) := ⟨by decide +kernel, rfl⟩
theorem cb_X2_leaseNamed : CB yX2_leaseNamed cX2_leaseNamed 3 (some .int) 1 := ⟨tb_in 467 (by decide +kernel) (by decide +kernel), tb_in 2 (by decide +kernel) (by decide +kernel), by decide +kernel⟩
theorem ml_X9_90 : Cond.methodLink RX9 90 yX2_leaseNamed ∈ tb := tb_in 932 (by decide +kernel) (by decide +kernel)
theorem im_X2_leaseNamed : Cond.instanceMethod yX2_leaseNamed ∈ tb := tb_in 465 (by decide +kernel) (by decide +kernel)
theorem se_X2_leaseNamed : Cond.selects (yX2_leaseNamed).cls yX2_leaseNamed yX2_leaseNamed ∈ tb := tb_in 466 (by decide +kernel) (by decide +kernel)
theorem e_X9_named_8 : DC cX9_named 8 1 9 (.ireturn) := ⟨by decide +kernel, rfl⟩
theorem e_X9_choose_0 : DC cX9_choose 0 1 1 (.aload_n 0) := ⟨by decide +kernel, rfl⟩
theorem e_X9_choose_1 : DC cX9_choose 1 1 2 (.iload_n 1) := ⟨by decide +kernel, rfl⟩
theorem e_X9_choose_2 : DC cX9_choose 2 3 5 (.invokevirtual 103) := ⟨by decide +kernel, rfl⟩
theorem e_X9_choose_5 : DJ cX9_choose 5 10 8 .ifnonnull := DJ.mk 5 (by decide +kernel) (by decide) rfl
theorem e_X9_choose_8 : DC cX9_choose 8 1 9 (.iconst (-1)) := ⟨by decide +kernel, rfl⟩
theorem e_X9_choose_9 : DC cX9_choose 9 1 10 (.ireturn) := ⟨by decide +kernel, rfl⟩
theorem e_X9_partFor_0 : DC cX9_partFor 0 1 1 (.aload_n 0) := ⟨by decide +kernel, rfl⟩
theorem e_X9_partFor_1 : DC cX9_partFor 1 1 2 (.iload_n 1) := ⟨by decide +kernel, rfl⟩
theorem e_X9_partFor_2 : DC cX9_partFor 2 3 5 (.invokevirtual 103) := ⟨by decide +kernel, rfl⟩
theorem e_X9_partFor_5 : DJ cX9_partFor 5 10 8 .ifnonnull := DJ.mk 5 (by decide +kernel) (by decide) rfl
theorem e_X9_partFor_8 : DC cX9_partFor 8 1 9 (.iconst (-1)) := ⟨by decide +kernel, rfl⟩
theorem e_X9_partFor_9 : DC cX9_partFor 9 1 10 (.ireturn) := ⟨by decide +kernel, rfl⟩
theorem e_X9_latest_0 : DC cX9_latest 0 1 1 (.aload_n 0) := ⟨by decide +kernel, rfl⟩
theorem e_X9_latest_1 : DC cX9_latest 1 1 2 (.iload_n 1) := ⟨by decide +kernel, rfl⟩
theorem e_X9_latest_2 : DC cX9_latest 2 3 5 (.invokevirtual 103) := ⟨by decide +kernel, rfl⟩
theorem e_X9_latest_5 : DJ cX9_latest 5 15 8 .ifnull := DJ.mk 10 (by decide +kernel) (by decide) rfl
theorem e_X9_latest_15 : DC cX9_latest 15 1 16 (.iconst (-1)) := ⟨by decide +kernel, rfl⟩
theorem e_X9_latest_16 : DC cX9_latest 16 1 17 (.ireturn) := ⟨by decide +kernel, rfl⟩
theorem e_X9_half_0 : DC cX9_half 0 1 1 (.aload_n 0) := ⟨by decide +kernel, rfl⟩
theorem e_X9_half_1 : DC cX9_half 1 1 2 (.iload_n 1) := ⟨by decide +kernel, rfl⟩
theorem e_X9_half_2 : DC cX9_half 2 3 5 (.invokevirtual 103) := ⟨by decide +kernel, rfl⟩
theorem e_X9_half_5 : DC cX9_half 5 1 6 (.astore_n 2) := ⟨by decide +kernel, rfl⟩
theorem e_X9_half_6 : DC cX9_half 6 1 7 (.aload_n 2) := ⟨by decide +kernel, rfl⟩
theorem e_X9_half_7 : DJ cX9_half 7 17 10 .ifnull := DJ.mk 10 (by decide +kernel) (by decide) rfl
theorem e_X9_half_17 : DC cX9_half 17 1 18 (.iconst (-1)) := ⟨by decide +kernel, rfl⟩
theorem e_X9_half_18 : DC cX9_half 18 1 19 (.ireturn) := ⟨by decide +kernel, rfl⟩
theorem e_X9_yields_0 : DC cX9_yields 0 1 1 (.aload_n 0) := ⟨by decide +kernel, rfl⟩
theorem e_X9_yields_1 : DC cX9_yields 1 1 2 (.iload_n 1) := ⟨by decide +kernel, rfl⟩
theorem e_X9_yields_2 : DC cX9_yields 2 3 5 (.invokevirtual 103) := ⟨by decide +kernel, rfl⟩
theorem e_X9_yields_5 : DC cX9_yields 5 2 7 (.astore 5) := ⟨by decide +kernel, rfl⟩
theorem e_X9_yields_7 : DC cX9_yields 7 2 9 (.aload 5) := ⟨by decide +kernel, rfl⟩
theorem e_X9_yields_9 : DJ cX9_yields 9 28 12 .ifnull := DJ.mk 19 (by decide +kernel) (by decide) rfl
theorem e_X9_yields_28 : DC cX9_yields 28 1 29 (.iconst (-1)) := ⟨by decide +kernel, rfl⟩
theorem e_X9_yields_29 : DC cX9_yields 29 1 30 (.ireturn) := ⟨by decide +kernel, rfl⟩
theorem e_X9_level_0 : DC cX9_level 0 1 1 (.aload_n 0) := ⟨by decide +kernel, rfl⟩
theorem e_X9_level_1 : DC cX9_level 1 1 2 (.iload_n 1) := ⟨by decide +kernel, rfl⟩
theorem e_X9_level_2 : DC cX9_level 2 3 5 (.invokevirtual 103) := ⟨by decide +kernel, rfl⟩
theorem e_X9_level_5 : DC cX9_level 5 2 7 (.astore 4) := ⟨by decide +kernel, rfl⟩
theorem e_X9_level_7 : DC cX9_level 7 2 9 (.aload 4) := ⟨by decide +kernel, rfl⟩
theorem e_X9_level_9 : DJ cX9_level 9 19 12 .ifnull := DJ.mk 10 (by decide +kernel) (by decide) rfl
theorem e_X9_level_19 : DC cX9_level 19 1 20 (.iconst (-1)) := ⟨by decide +kernel, rfl⟩
theorem e_X9_level_20 : DC cX9_level 20 1 21 (.ireturn) := ⟨by decide +kernel, rfl⟩
theorem e_X9_undo_0 : DC cX9_undo 0 1 1 (.aload_n 0) := ⟨by decide +kernel, rfl⟩
theorem e_X9_undo_1 : DC cX9_undo 1 3 4 (.getfield 368) := ⟨by decide +kernel, rfl⟩
theorem e_X9_undo_4 : DC cX9_undo 4 1 5 (.iconst 1) := ⟨by decide +kernel, rfl⟩
theorem e_X9_undo_5 : DJ cX9_undo 5 10 8 (.if_icmp .ge) := DJ.mk 5 (by decide +kernel) (by decide) rfl
theorem e_X9_undo_8 : DC cX9_undo 8 1 9 (.iconst (-1)) := ⟨by decide +kernel, rfl⟩
theorem e_X9_undo_9 : DC cX9_undo 9 1 10 (.ireturn) := ⟨by decide +kernel, rfl⟩
theorem e_X9_back_0 : DC cX9_back 0 1 1 (.aload_n 0) := ⟨by decide +kernel, rfl⟩
theorem e_X9_back_1 : DC cX9_back 1 3 4 (.getfield 77) := ⟨by decide +kernel, rfl⟩
theorem fl_X9_77 : FL RX9 77 7 6 := ⟨RX9, TX9, 13, rfl, by decide, uw_7, tb_in 336 (by decide +kernel) (by decide +kernel), rfl⟩
theorem e_X9_back_4 : DJ cX9_back 4 9 7 (.ifCond .ne) := DJ.mk 5 (by decide +kernel) (by decide) rfl
theorem e_X9_back_7 : DC cX9_back 7 1 8 (.iconst (-1)) := ⟨by decide +kernel, rfl⟩
theorem e_X9_back_8 : DC cX9_back 8 1 9 (.ireturn) := ⟨by decide +kernel, rfl⟩
theorem e_X9_heaviest_0 : DC cX9_heaviest 0 2 2 (.bipush (-2)) := ⟨by decide +kernel, rfl⟩
theorem e_X9_heaviest_2 : DC cX9_heaviest 2 1 3 (.istore_n 1) := ⟨by decide +kernel, rfl⟩
theorem e_X9_heaviest_3 : DC cX9_heaviest 3 1 4 (.aload_n 0) := ⟨by decide +kernel, rfl⟩
theorem e_X9_heaviest_4 : DC cX9_heaviest 4 3 7 (.getfield 42) := ⟨by decide +kernel, rfl⟩
theorem fl_X9_42 : FL RX9 42 7 10 := ⟨RX9, TX9, 13, rfl, by decide, uw_7, tb_in 340 (by decide +kernel) (by decide +kernel), rfl⟩
theorem e_X9_heaviest_7 : DC cX9_heaviest 7 1 8 (.astore_n 2) := ⟨by decide +kernel, rfl⟩
theorem e_X9_heaviest_8 : DC cX9_heaviest 8 1 9 (.iconst 1) := ⟨by decide +kernel, rfl⟩
theorem e_X9_heaviest_9 : DC cX9_heaviest 9 1 10 (.istore_n 3) := ⟨by decide +kernel, rfl⟩
theorem e_X9_heaviest_10 : DC cX9_heaviest 10 1 11 (.iconst 0) := ⟨by decide +kernel, rfl⟩
theorem e_X9_heaviest_11 : DC cX9_heaviest 11 2 13 (.istore 4) := ⟨by decide +kernel, rfl⟩
theorem e_X9_heaviest_13 : DC cX9_heaviest 13 2 15 (.iload 4) := ⟨by decide +kernel, rfl⟩
theorem e_X9_heaviest_15 : DC cX9_heaviest 15 1 16 (.aload_n 0) := ⟨by decide +kernel, rfl⟩
theorem e_X9_heaviest_16 : DC cX9_heaviest 16 3 19 (.getfield 16) := ⟨by decide +kernel, rfl⟩
theorem e_X9_heaviest_19 : DC cX9_heaviest 19 3 22 (.getfield 358) := ⟨by decide +kernel, rfl⟩
theorem e_X9_heaviest_22 : DJ cX9_heaviest 22 97 25 (.if_icmp .ge) := DJ.mk 75 (by decide +kernel) (by decide) rfl
theorem e_X9_heaviest_97 : DC cX9_heaviest 97 1 98 (.iload_n 1) := ⟨by decide +kernel, rfl⟩
theorem e_X9_heaviest_98 : DC cX9_heaviest 98 1 99 (.ireturn) := ⟨by decide +kernel, rfl⟩
theorem e_X9_keep_0 : DC cX9_keep 0 1 1 (.aload_n 0) := ⟨by decide +kernel, rfl⟩
theorem e_X9_keep_1 : DC cX9_keep 1 3 4 (.getfield 32) := ⟨by decide +kernel, rfl⟩
theorem fl_X9_32 : FL RX9 32 7 5 := ⟨RX9, TX9, 13, rfl, by decide, uw_7, tb_in 335 (by decide +kernel) (by decide +kernel), rfl⟩
theorem e_X9_keep_4 : DC cX9_keep 4 1 5 (.aload_n 0) := ⟨by decide +kernel, rfl⟩
theorem e_X9_keep_5 : DC cX9_keep 5 3 8 (.getfield 16) := ⟨by decide +kernel, rfl⟩
theorem e_X9_keep_8 : DC cX9_keep 8 3 11 (.invokevirtual 374) := ⟨by decide +kernel, rfl⟩
theorem e_X9_keep_11 : DC cX9_keep 11 1 12 (.aload_n 0) := ⟨by decide +kernel, rfl⟩
theorem e_X9_keep_12 : DC cX9_keep 12 1 13 (.iconst 1) := ⟨by decide +kernel, rfl⟩
theorem e_X9_keep_13 : DC cX9_keep 13 3 16 (.putfield 77) := ⟨by decide +kernel, rfl⟩
theorem fp_X9_77 : FP RX9 77 7 6 false .boolean := ⟨RX9, TX9, 13, tyX9, rfl, by decide, uw_7, tb_in 336 (by decide +kernel) (by decide +kernel), rfl, rfl, by decide +kernel, tyX9_ok, nmX9⟩
theorem e_X9_keep_16 : DC cX9_keep 16 1 17 (.aload_n 0) := ⟨by decide +kernel, rfl⟩
theorem e_X9_keep_17 : DC cX9_keep 17 3 20 (.getfield 16) := ⟨by decide +kernel, rfl⟩
theorem e_X9_keep_20 : DC cX9_keep 20 3 23 (.getfield 94) := ⟨by decide +kernel, rfl⟩
theorem e_X9_keep_23 : DC cX9_keep 23 1 24 (.ireturn) := ⟨by decide +kernel, rfl⟩
theorem e_X9_fault_0 : DC cX9_fault 0 1 1 (.iload_n 1) := ⟨by decide +kernel, rfl⟩
theorem e_X9_fault_1 : decode cX9_fault 1 = .ok (.lookupswitch 43 #[(0, 27), (1, 35)], 27) := by decide +kernel
theorem e_X9_fault_28 : DC cX9_fault 28 1 29 (.aload_n 0) := ⟨by decide +kernel, rfl⟩
theorem e_X9_fault_29 : DC cX9_fault 29 3 32 (.getfield 28) := ⟨by decide +kernel, rfl⟩
theorem fl_X9_28 : FL RX9 28 7 4 := ⟨RX9, TX9, 13, rfl, by decide, uw_7, tb_in 334 (by decide +kernel) (by decide +kernel), rfl⟩
theorem e_X9_fault_32 : DC cX9_fault 32 3 35 (.getfield 70) := ⟨by decide +kernel, rfl⟩
theorem fl_X9_70 : FL RX9 70 5 11 := ⟨RX7, TX7, 13, rfl, by decide, uw_5, tb_in 297 (by decide +kernel) (by decide +kernel), rfl⟩
theorem e_X9_fault_35 : DC cX9_fault 35 1 36 (.ireturn) := ⟨by decide +kernel, rfl⟩
theorem e_X9_fault_36 : DC cX9_fault 36 1 37 (.aload_n 0) := ⟨by decide +kernel, rfl⟩
theorem e_X9_fault_37 : DC cX9_fault 37 3 40 (.getfield 28) := ⟨by decide +kernel, rfl⟩
theorem e_X9_fault_40 : DC cX9_fault 40 3 43 (.getfield 87) := ⟨by decide +kernel, rfl⟩
theorem fl_X9_87 : FL RX9 87 5 12 := ⟨RX7, TX7, 13, rfl, by decide, uw_5, tb_in 299 (by decide +kernel) (by decide +kernel), rfl⟩
theorem e_X9_fault_43 : DC cX9_fault 43 1 44 (.ireturn) := ⟨by decide +kernel, rfl⟩
theorem e_X9_fault_44 : DC cX9_fault 44 1 45 (.iconst (-1)) := ⟨by decide +kernel, rfl⟩
theorem e_X9_fault_45 : DC cX9_fault 45 1 46 (.ireturn) := ⟨by decide +kernel, rfl⟩
theorem e_X9_index_0 : DC cX9_index 0 1 1 (.iload_n 1) := ⟨by decide +kernel, rfl⟩
theorem e_X9_index_1 : DJ cX9_index 1 10 4 (.ifCond .lt) := DJ.mk 9 (by decide +kernel) (by decide) rfl
theorem e_X9_index_10 : DC cX9_index 10 1 11 (.iconst (-1)) := ⟨by decide +kernel, rfl⟩
theorem e_X9_index_11 : DC cX9_index 11 1 12 (.ireturn) := ⟨by decide +kernel, rfl⟩
theorem e_X9_index_4 : DC cX9_index 4 1 5 (.iload_n 1) := ⟨by decide +kernel, rfl⟩
theorem e_X9_index_5 : DC cX9_index 5 2 7 (.bipush 99) := ⟨by decide +kernel, rfl⟩
theorem e_X9_index_7 : DJ cX9_index 7 12 10 (.if_icmp .le) := DJ.mk 5 (by decide +kernel) (by decide) rfl
theorem e_X9_index_12 : DC cX9_index 12 1 13 (.aload_n 0) := ⟨by decide +kernel, rfl⟩
theorem e_X9_index_13 : DC cX9_index 13 3 16 (.getfield 16) := ⟨by decide +kernel, rfl⟩
theorem e_X9_index_16 : DC cX9_index 16 3 19 (.getfield 180) := ⟨by decide +kernel, rfl⟩
theorem fl_X9_180 : FL RX9 180 1 2 := ⟨RX2, TX2, 13, rfl, by decide, uw_1, tb_in 230 (by decide +kernel) (by decide +kernel), rfl⟩
theorem e_X9_index_19 : DC cX9_index 19 1 20 (.iload_n 1) := ⟨by decide +kernel, rfl⟩
theorem e_X9_index_20 : DC cX9_index 20 1 21 (.iaload) := ⟨by decide +kernel, rfl⟩
theorem e_X9_index_21 : DC cX9_index 21 1 22 (.ireturn) := ⟨by decide +kernel, rfl⟩
theorem e_X9_account_0 : DC cX9_account 0 1 1 (.iload_n 1) := ⟨by decide +kernel, rfl⟩
theorem e_X9_account_1 : DJ cX9_account 1 10 4 (.ifCond .lt) := DJ.mk 9 (by decide +kernel) (by decide) rfl
theorem e_X9_account_10 : DC cX9_account 10 3 13 (.ldc2_w 184) := ⟨by decide +kernel, rfl⟩
theorem e_X9_account_13 : DC cX9_account 13 1 14 (.lreturn) := ⟨by decide +kernel, rfl⟩
theorem e_X9_account_4 : DC cX9_account 4 1 5 (.iload_n 1) := ⟨by decide +kernel, rfl⟩
theorem e_X9_account_5 : DC cX9_account 5 2 7 (.bipush 6) := ⟨by decide +kernel, rfl⟩
theorem e_X9_account_7 : DJ cX9_account 7 14 10 (.if_icmp .lt) := DJ.mk 7 (by decide +kernel) (by decide) rfl
theorem e_X9_account_14 : DC cX9_account 14 1 15 (.aload_n 0) := ⟨by decide +kernel, rfl⟩
theorem e_X9_account_15 : DC cX9_account 15 3 18 (.getfield 16) := ⟨by decide +kernel, rfl⟩
theorem e_X9_account_18 : DC cX9_account 18 3 21 (.getfield 186) := ⟨by decide +kernel, rfl⟩
theorem fl_X9_186 : FL RX9 186 1 4 := ⟨RX2, TX2, 13, rfl, by decide, uw_1, tb_in 233 (by decide +kernel) (by decide +kernel), rfl⟩
theorem e_X9_account_21 : DC cX9_account 21 3 24 (.getfield 190) := ⟨by decide +kernel, rfl⟩
theorem fl_X9_190 : FL RX9 190 2 1 := ⟨RX3, TX3, 3, rfl, by decide, uw_2, tb_in 55 (by decide +kernel) (by decide +kernel), rfl⟩
theorem e_X9_account_24 : DC cX9_account 24 1 25 (.iload_n 1) := ⟨by decide +kernel, rfl⟩
theorem e_X9_account_25 : DC cX9_account 25 1 26 (.laload) := ⟨by decide +kernel, rfl⟩
theorem e_X9_account_26 : DC cX9_account 26 1 27 (.lreturn) := ⟨by decide +kernel, rfl⟩
theorem e_X9_entry_0 : DC cX9_entry 0 1 1 (.iload_n 2) := ⟨by decide +kernel, rfl⟩
theorem e_X9_entry_1 : DJ cX9_entry 1 13 4 (.ifCond .lt) := DJ.mk 12 (by decide +kernel) (by decide) rfl
theorem e_X9_entry_13 : DC cX9_entry 13 1 14 (.iconst 0) := ⟨by decide +kernel, rfl⟩
theorem e_X9_entry_14 : DC cX9_entry 14 1 15 (.istore_n 3) := ⟨by decide +kernel, rfl⟩
theorem e_X9_entry_15 : DC cX9_entry 15 1 16 (.iload_n 2) := ⟨by decide +kernel, rfl⟩
theorem e_X9_entry_16 : DC cX9_entry 16 2 18 (.bipush 10) := ⟨by decide +kernel, rfl⟩
theorem e_X9_entry_18 : DJ cX9_entry 18 31 21 (.if_icmp .lt) := DJ.mk 13 (by decide +kernel) (by decide) rfl
theorem e_X9_entry_31 : DC cX9_entry 31 1 32 (.iconst 0) := ⟨by decide +kernel, rfl⟩
theorem e_X9_entry_32 : DC cX9_entry 32 2 34 (.istore 4) := ⟨by decide +kernel, rfl⟩
theorem e_X9_entry_34 : DC cX9_entry 34 1 35 (.iload_n 1) := ⟨by decide +kernel, rfl⟩
theorem e_X9_entry_35 : DJ cX9_entry 35 61 38 (.ifCond .lt) := DJ.mk 26 (by decide +kernel) (by decide) rfl
theorem e_X9_entry_61 : DC cX9_entry 61 3 64 (.ldc2_w 184) := ⟨by decide +kernel, rfl⟩
theorem e_X9_entry_64 : DC cX9_entry 64 1 65 (.lreturn) := ⟨by decide +kernel, rfl⟩
theorem e_X9_entry_38 : DC cX9_entry 38 1 39 (.iload_n 1) := ⟨by decide +kernel, rfl⟩
theorem e_X9_entry_39 : DC cX9_entry 39 1 40 (.aload_n 0) := ⟨by decide +kernel, rfl⟩
theorem e_X9_entry_40 : DC cX9_entry 40 3 43 (.getfield 16) := ⟨by decide +kernel, rfl⟩
theorem e_X9_entry_43 : DC cX9_entry 43 3 46 (.getfield 186) := ⟨by decide +kernel, rfl⟩
theorem e_X9_entry_46 : DC cX9_entry 46 3 49 (.invokevirtual 196) := ⟨by decide +kernel, rfl⟩
theorem cb_X3_kept : CB yX3_kept cX3_kept 1 (some .int) 0 := ⟨tb_in 1085 (by decide +kernel) (by decide +kernel), tb_in 3 (by decide +kernel) (by decide +kernel), by decide +kernel⟩
theorem ml_X9_196 : Cond.methodLink RX9 196 yX3_kept ∈ tb := tb_in 1082 (by decide +kernel) (by decide +kernel)
theorem im_X3_kept : Cond.instanceMethod yX3_kept ∈ tb := tb_in 1083 (by decide +kernel) (by decide +kernel)
theorem se_X3_kept : Cond.selects (yX3_kept).cls yX3_kept yX3_kept ∈ tb := tb_in 1084 (by decide +kernel) (by decide +kernel)
theorem e_X9_entry_49 : DJ cX9_entry 49 61 52 (.if_icmp .ge) := DJ.mk 12 (by decide +kernel) (by decide) rfl
theorem e_X9_entry_21 : DC cX9_entry 21 1 22 (.iload_n 2) := ⟨by decide +kernel, rfl⟩
theorem e_X9_entry_22 : DC cX9_entry 22 2 24 (.bipush 16) := ⟨by decide +kernel, rfl⟩
theorem e_X9_entry_24 : DJ cX9_entry 24 31 27 (.if_icmp .ge) := DJ.mk 7 (by decide +kernel) (by decide) rfl
theorem e_X9_entry_27 : DC cX9_entry 27 1 28 (.iconst 1) := ⟨by decide +kernel, rfl⟩
theorem e_X9_entry_28 : DJ cX9_entry 28 32 31 .goto := DJ.mk 4 (by decide +kernel) (by decide) rfl
theorem e_X9_entry_4 : DC cX9_entry 4 1 5 (.iload_n 2) := ⟨by decide +kernel, rfl⟩
theorem e_X9_entry_5 : DC cX9_entry 5 1 6 (.iconst 3) := ⟨by decide +kernel, rfl⟩
theorem e_X9_entry_6 : DJ cX9_entry 6 13 9 (.if_icmp .ge) := DJ.mk 7 (by decide +kernel) (by decide) rfl
theorem e_X9_entry_9 : DC cX9_entry 9 1 10 (.iconst 1) := ⟨by decide +kernel, rfl⟩
theorem e_X9_entry_10 : DJ cX9_entry 10 14 13 .goto := DJ.mk 4 (by decide +kernel) (by decide) rfl
theorem e_X9_isIndex_0 : DC cX9_isIndex 0 1 1 (.iload_n 0) := ⟨by decide +kernel, rfl⟩
theorem e_X9_isIndex_1 : DC cX9_isIndex 1 3 4 (.sipush 500) := ⟨by decide +kernel, rfl⟩
theorem e_X9_isIndex_4 : DJ cX9_isIndex 4 18 7 (.if_icmp .lt) := DJ.mk 14 (by decide +kernel) (by decide) rfl
theorem e_X9_isIndex_18 : DC cX9_isIndex 18 1 19 (.iconst 0) := ⟨by decide +kernel, rfl⟩
theorem e_X9_isIndex_19 : DC cX9_isIndex 19 1 20 (.ireturn) := ⟨by decide +kernel, rfl⟩
theorem e_X9_isIndex_7 : DC cX9_isIndex 7 1 8 (.iload_n 0) := ⟨by decide +kernel, rfl⟩
theorem e_X9_isIndex_8 : DC cX9_isIndex 8 3 11 (.sipush 2000) := ⟨by decide +kernel, rfl⟩
theorem e_X9_isIndex_11 : DJ cX9_isIndex 11 18 14 (.if_icmp .gt) := DJ.mk 7 (by decide +kernel) (by decide) rfl
theorem e_X9_isIndex_14 : DC cX9_isIndex 14 1 15 (.iconst 1) := ⟨by decide +kernel, rfl⟩
theorem e_X9_isIndex_15 : DJ cX9_isIndex 15 19 18 .goto := DJ.mk 4 (by decide +kernel) (by decide) rfl
theorem e_X9_isSort_0 : DC cX9_isSort 0 1 1 (.iload_n 0) := ⟨by decide +kernel, rfl⟩
theorem e_X9_isSort_1 : DJ cX9_isSort 1 14 4 (.ifCond .lt) := DJ.mk 13 (by decide +kernel) (by decide) rfl
theorem e_X9_isSort_14 : DC cX9_isSort 14 1 15 (.iconst 0) := ⟨by decide +kernel, rfl⟩
theorem e_X9_isSort_15 : DC cX9_isSort 15 1 16 (.ireturn) := ⟨by decide +kernel, rfl⟩
theorem e_X9_isSort_4 : DC cX9_isSort 4 1 5 (.iload_n 0) := ⟨by decide +kernel, rfl⟩
theorem e_X9_isSort_5 : DC cX9_isSort 5 2 7 (.bipush 6) := ⟨by decide +kernel, rfl⟩
theorem e_X9_isSort_7 : DJ cX9_isSort 7 14 10 (.if_icmp .ge) := DJ.mk 7 (by decide +kernel) (by decide) rfl
theorem e_X9_isSort_10 : DC cX9_isSort 10 1 11 (.iconst 1) := ⟨by decide +kernel, rfl⟩
theorem e_X9_isSort_11 : DJ cX9_isSort 11 15 14 .goto := DJ.mk 4 (by decide +kernel) (by decide) rfl
theorem e_X9_sum_0 : DC cX9_sum 0 1 1 (.iload_n 1) := ⟨by decide +kernel, rfl⟩
theorem e_X9_sum_1 : DJ cX9_sum 1 17 4 (.ifCond .lt) := DJ.mk 16 (by decide +kernel) (by decide) rfl
theorem e_X9_sum_17 : DC cX9_sum 17 3 20 (.ldc2_w 184) := ⟨by decide +kernel, rfl⟩
theorem e_X9_sum_20 : DC cX9_sum 20 1 21 (.lreturn) := ⟨by decide +kernel, rfl⟩
theorem e_X9_sum_4 : DC cX9_sum 4 1 5 (.iload_n 1) := ⟨by decide +kernel, rfl⟩
theorem e_X9_sum_5 : DC cX9_sum 5 2 7 (.bipush 6) := ⟨by decide +kernel, rfl⟩
theorem e_X9_sum_7 : DJ cX9_sum 7 17 10 (.if_icmp .ge) := DJ.mk 10 (by decide +kernel) (by decide) rfl
theorem e_X9_sum_10 : DC cX9_sum 10 1 11 (.iload_n 2) := ⟨by decide +kernel, rfl⟩
theorem e_X9_sum_11 : DC cX9_sum 11 3 14 (.invokestatic 281) := ⟨by decide +kernel, rfl⟩
theorem cb_X9_isSort : CB yX9_isSort cX9_isSort 1 (some .boolean) 1 := ⟨tb_in 1225 (by decide +kernel) (by decide +kernel), tb_in 1 (by decide +kernel) (by decide +kernel), by decide +kernel⟩
theorem ml_X9_281 : Cond.methodLink RX9 281 yX9_isSort ∈ tb := tb_in 1223 (by decide +kernel) (by decide +kernel)
theorem sm_X9_isSort : Cond.static yX9_isSort ∈ tb := tb_in 1224 (by decide +kernel) (by decide +kernel)
theorem e_X9_sum_14 : DJ cX9_sum 14 21 17 (.ifCond .ne) := DJ.mk 7 (by decide +kernel) (by decide) rfl
theorem e_X9_sum_21 : DC cX9_sum 21 1 22 (.lconst 0) := ⟨by decide +kernel, rfl⟩
theorem e_X9_sum_22 : DC cX9_sum 22 1 23 (.lstore_n 3) := ⟨by decide +kernel, rfl⟩
theorem e_X9_sum_23 : DC cX9_sum 23 1 24 (.aload_n 0) := ⟨by decide +kernel, rfl⟩
theorem e_X9_sum_24 : DC cX9_sum 24 3 27 (.getfield 16) := ⟨by decide +kernel, rfl⟩
theorem e_X9_sum_27 : DC cX9_sum 27 3 30 (.getfield 186) := ⟨by decide +kernel, rfl⟩
theorem e_X9_sum_30 : DC cX9_sum 30 3 33 (.invokevirtual 196) := ⟨by decide +kernel, rfl⟩
theorem e_X9_sum_33 : DC cX9_sum 33 2 35 (.istore 5) := ⟨by decide +kernel, rfl⟩
theorem e_X9_sum_35 : DC cX9_sum 35 1 36 (.iconst 0) := ⟨by decide +kernel, rfl⟩
theorem e_X9_sum_36 : DC cX9_sum 36 2 38 (.istore 6) := ⟨by decide +kernel, rfl⟩
theorem e_X9_sum_38 : DC cX9_sum 38 2 40 (.iload 6) := ⟨by decide +kernel, rfl⟩
theorem e_X9_sum_40 : DC cX9_sum 40 2 42 (.iload 5) := ⟨by decide +kernel, rfl⟩
theorem e_X9_sum_42 : DJ cX9_sum 42 88 45 (.if_icmp .ge) := DJ.mk 46 (by decide +kernel) (by decide) rfl
theorem e_X9_sum_88 : DC cX9_sum 88 1 89 (.lload_n 3) := ⟨by decide +kernel, rfl⟩
theorem e_X9_sum_89 : DC cX9_sum 89 1 90 (.lreturn) := ⟨by decide +kernel, rfl⟩
theorem e_X9_become_0 : DC cX9_become 0 1 1 (.iload_n 1) := ⟨by decide +kernel, rfl⟩
theorem e_X9_become_1 : DC cX9_become 1 3 4 (.invokestatic 262) := ⟨by decide +kernel, rfl⟩
theorem cb_X9_isIndex : CB yX9_isIndex cX9_isIndex 1 (some .boolean) 1 := ⟨tb_in 1187 (by decide +kernel) (by decide +kernel), tb_in 1 (by decide +kernel) (by decide +kernel), by decide +kernel⟩
theorem ml_X9_262 : Cond.methodLink RX9 262 yX9_isIndex ∈ tb := tb_in 1185 (by decide +kernel) (by decide +kernel)
theorem sm_X9_isIndex : Cond.static yX9_isIndex ∈ tb := tb_in 1186 (by decide +kernel) (by decide +kernel)
theorem e_X9_become_4 : DJ cX9_become 4 9 7 (.ifCond .ne) := DJ.mk 5 (by decide +kernel) (by decide) rfl
theorem e_X9_become_7 : DC cX9_become 7 1 8 (.iconst (-1)) := ⟨by decide +kernel, rfl⟩
theorem e_X9_become_8 : DC cX9_become 8 1 9 (.ireturn) := ⟨by decide +kernel, rfl⟩
theorem e_X9_become_9 : DC cX9_become 9 1 10 (.aload_n 0) := ⟨by decide +kernel, rfl⟩
theorem e_X9_become_10 : DC cX9_become 10 3 13 (.invokevirtual 97) := ⟨by decide +kernel, rfl⟩
theorem cb_X9_remember : CB yX9_remember cX9_remember 1 none 0 := ⟨tb_in 940 (by decide +kernel) (by decide +kernel), tb_in 1 (by decide +kernel) (by decide +kernel), by decide +kernel⟩
theorem ml_X9_97 : Cond.methodLink RX9 97 yX9_remember ∈ tb := tb_in 937 (by decide +kernel) (by decide +kernel)
theorem im_X9_remember : Cond.instanceMethod yX9_remember ∈ tb := tb_in 939 (by decide +kernel) (by decide +kernel)
theorem se_X9_remember : Cond.selects (yX9_remember).cls yX9_remember yX9_remember ∈ tb := tb_sel 3 (by decide +kernel) (by decide +kernel)
theorem e_X9_become_13 : DC cX9_become 13 1 14 (.aload_n 0) := ⟨by decide +kernel, rfl⟩
theorem e_X9_become_14 : DC cX9_become 14 3 17 (.getfield 16) := ⟨by decide +kernel, rfl⟩
theorem e_X9_become_17 : DC cX9_become 17 3 20 (.invokevirtual 265) := ⟨by decide +kernel, rfl⟩
theorem ml_X9_265 : Cond.methodLink RX9 265 yX2_indexNow ∈ tb := tb_in 1188 (by decide +kernel) (by decide +kernel)
theorem e_X9_become_20 : DC cX9_become 20 1 21 (.istore_n 2) := ⟨by decide +kernel, rfl⟩
theorem e_X9_become_21 : DC cX9_become 21 1 22 (.aload_n 0) := ⟨by decide +kernel, rfl⟩
theorem e_X9_become_22 : DC cX9_become 22 3 25 (.getfield 16) := ⟨by decide +kernel, rfl⟩
theorem e_X9_become_25 : DC cX9_become 25 1 26 (.iload_n 1) := ⟨by decide +kernel, rfl⟩
theorem e_X9_become_26 : DC cX9_become 26 3 29 (.invokevirtual 268) := ⟨by decide +kernel, rfl⟩
theorem ml_X9_268 : Cond.methodLink RX9 268 yX2_changeIndex ∈ tb := tb_in 1189 (by decide +kernel) (by decide +kernel)
theorem e_X9_become_29 : DC cX9_become 29 1 30 (.iload_n 2) := ⟨by decide +kernel, rfl⟩
theorem e_X9_become_30 : DC cX9_become 30 1 31 (.ireturn) := ⟨by decide +kernel, rfl⟩
theorem e_X9_all_0 : DC cX9_all 0 1 1 (.iload_n 1) := ⟨by decide +kernel, rfl⟩
theorem e_X9_all_1 : DJ cX9_all 1 10 4 (.ifCond .lt) := DJ.mk 9 (by decide +kernel) (by decide) rfl
theorem e_X9_all_10 : DC cX9_all 10 3 13 (.ldc2_w 149) := ⟨by decide +kernel, rfl⟩
theorem e_X9_all_13 : DC cX9_all 13 1 14 (.lreturn) := ⟨by decide +kernel, rfl⟩
theorem e_X9_all_4 : DC cX9_all 4 1 5 (.iload_n 1) := ⟨by decide +kernel, rfl⟩
theorem e_X9_all_5 : DC cX9_all 5 2 7 (.bipush 72) := ⟨by decide +kernel, rfl⟩
theorem e_X9_all_7 : DJ cX9_all 7 14 10 (.if_icmp .le) := DJ.mk 7 (by decide +kernel) (by decide) rfl
theorem e_X9_all_14 : DC cX9_all 14 1 15 (.aload_n 0) := ⟨by decide +kernel, rfl⟩
theorem e_X9_all_15 : DC cX9_all 15 1 16 (.iload_n 1) := ⟨by decide +kernel, rfl⟩
theorem e_X9_all_16 : DC cX9_all 16 3 19 (.invokevirtual 271) := ⟨by decide +kernel, rfl⟩
theorem cb_X9_bookIn : CB yX9_bookIn cX9_bookIn 4 (some (.object "LeaseLedger$Book")) 1 := ⟨tb_in 1200 (by decide +kernel) (by decide +kernel), tb_in 1 (by decide +kernel) (by decide +kernel), by decide +kernel⟩
theorem ml_X9_271 : Cond.methodLink RX9 271 yX9_bookIn ∈ tb := tb_in 1197 (by decide +kernel) (by decide +kernel)
theorem im_X9_bookIn : Cond.instanceMethod yX9_bookIn ∈ tb := tb_in 1199 (by decide +kernel) (by decide +kernel)
theorem se_X9_bookIn : Cond.selects (yX9_bookIn).cls yX9_bookIn yX9_bookIn ∈ tb := tb_sel 6 (by decide +kernel) (by decide +kernel)
theorem e_X9_all_19 : DC cX9_all 19 1 20 (.aload_n 0) := ⟨by decide +kernel, rfl⟩
theorem e_X9_all_20 : DC cX9_all 20 3 23 (.getfield 42) := ⟨by decide +kernel, rfl⟩
theorem e_X9_all_23 : DC cX9_all 23 3 26 (.invokevirtual 278) := ⟨by decide +kernel, rfl⟩
theorem cb_X2_countAllOwed : CB yX2_countAllOwed cX2_countAllOwed 3 none 1 := ⟨tb_in 1214 (by decide +kernel) (by decide +kernel), tb_in 2 (by decide +kernel) (by decide +kernel), by decide +kernel⟩
theorem ml_X9_278 : Cond.methodLink RX9 278 yX2_countAllOwed ∈ tb := tb_in 1211 (by decide +kernel) (by decide +kernel)
theorem im_X2_countAllOwed : Cond.instanceMethod yX2_countAllOwed ∈ tb := tb_in 1212 (by decide +kernel) (by decide +kernel)
theorem se_X2_countAllOwed : Cond.selects (yX2_countAllOwed).cls yX2_countAllOwed yX2_countAllOwed ∈ tb := tb_in 1213 (by decide +kernel) (by decide +kernel)
theorem e_X9_all_26 : DC cX9_all 26 1 27 (.aload_n 0) := ⟨by decide +kernel, rfl⟩
theorem e_X9_all_27 : DC cX9_all 27 3 30 (.getfield 42) := ⟨by decide +kernel, rfl⟩
theorem e_X9_all_30 : DC cX9_all 30 3 33 (.invokevirtual 157) := ⟨by decide +kernel, rfl⟩
theorem cb_X1_asLong : CB yX1_asLong cX1_asLong 1 (some .long) 0 := ⟨tb_in 988 (by decide +kernel) (by decide +kernel), tb_in 4 (by decide +kernel) (by decide +kernel), by decide +kernel⟩
theorem ml_X9_157 : Cond.methodLink RX9 157 yX1_asLong ∈ tb := tb_in 1053 (by decide +kernel) (by decide +kernel)
theorem im_X1_asLong : Cond.instanceMethod yX1_asLong ∈ tb := tb_in 986 (by decide +kernel) (by decide +kernel)
theorem se_X1_asLong : Cond.selects (yX1_asLong).cls yX1_asLong yX1_asLong ∈ tb := tb_in 987 (by decide +kernel) (by decide +kernel)
theorem e_X9_all_33 : DC cX9_all 33 1 34 (.lreturn) := ⟨by decide +kernel, rfl⟩
theorem e_X9_count_0 : DC cX9_count 0 1 1 (.iload_n 1) := ⟨by decide +kernel, rfl⟩
theorem e_X9_count_1 : decode cX9_count 1 = .ok (.tableswitch 111 0 7 #[47, 55, 63, 71, 82, 93, 101, 106], 47) := by decide +kernel
theorem e_X9_count_112 : DC cX9_count 112 1 113 (.iconst (-1)) := ⟨by decide +kernel, rfl⟩
theorem e_X9_count_113 : DC cX9_count 113 1 114 (.ireturn) := ⟨by decide +kernel, rfl⟩
theorem e_X9_count_48 : DC cX9_count 48 1 49 (.aload_n 0) := ⟨by decide +kernel, rfl⟩
theorem e_X9_count_49 : DC cX9_count 49 3 52 (.getfield 16) := ⟨by decide +kernel, rfl⟩
theorem e_X9_count_52 : DC cX9_count 52 3 55 (.getfield 358) := ⟨by decide +kernel, rfl⟩
theorem e_X9_count_55 : DC cX9_count 55 1 56 (.ireturn) := ⟨by decide +kernel, rfl⟩
theorem e_X9_count_56 : DC cX9_count 56 1 57 (.aload_n 0) := ⟨by decide +kernel, rfl⟩
theorem e_X9_count_57 : DC cX9_count 57 3 60 (.getfield 16) := ⟨by decide +kernel, rfl⟩
theorem e_X9_count_60 : DC cX9_count 60 3 63 (.getfield 377) := ⟨by decide +kernel, rfl⟩
theorem fl_X9_377 : FL RX9 377 1 9 := ⟨RX2, TX2, 13, rfl, by decide, uw_1, tb_in 243 (by decide +kernel) (by decide +kernel), rfl⟩
theorem e_X9_count_63 : DC cX9_count 63 1 64 (.ireturn) := ⟨by decide +kernel, rfl⟩
theorem e_X9_count_64 : DC cX9_count 64 1 65 (.aload_n 0) := ⟨by decide +kernel, rfl⟩
theorem e_X9_count_65 : DC cX9_count 65 3 68 (.getfield 16) := ⟨by decide +kernel, rfl⟩
theorem e_X9_count_68 : DC cX9_count 68 3 71 (.getfield 94) := ⟨by decide +kernel, rfl⟩
theorem e_X9_count_71 : DC cX9_count 71 1 72 (.ireturn) := ⟨by decide +kernel, rfl⟩
theorem e_X9_count_72 : DC cX9_count 72 1 73 (.aload_n 0) := ⟨by decide +kernel, rfl⟩
theorem e_X9_count_73 : DC cX9_count 73 3 76 (.getfield 16) := ⟨by decide +kernel, rfl⟩
theorem e_X9_count_76 : DC cX9_count 76 3 79 (.getfield 186) := ⟨by decide +kernel, rfl⟩
theorem e_X9_count_79 : DC cX9_count 79 3 82 (.invokevirtual 196) := ⟨by decide +kernel, rfl⟩
theorem e_X9_count_82 : DC cX9_count 82 1 83 (.ireturn) := ⟨by decide +kernel, rfl⟩
theorem e_X9_count_83 : DC cX9_count 83 1 84 (.aload_n 0) := ⟨by decide +kernel, rfl⟩
theorem e_X9_count_84 : DC cX9_count 84 3 87 (.getfield 16) := ⟨by decide +kernel, rfl⟩
theorem e_X9_count_87 : DC cX9_count 87 3 90 (.getfield 186) := ⟨by decide +kernel, rfl⟩
theorem e_X9_count_90 : DC cX9_count 90 3 93 (.getfield 380) := ⟨by decide +kernel, rfl⟩
theorem fl_X9_380 : FL RX9 380 2 2 := ⟨RX3, TX3, 3, rfl, by decide, uw_2, tb_in 57 (by decide +kernel) (by decide +kernel), rfl⟩
theorem e_X9_count_93 : DC cX9_count 93 1 94 (.ireturn) := ⟨by decide +kernel, rfl⟩
theorem e_X9_count_94 : DC cX9_count 94 1 95 (.aload_n 0) := ⟨by decide +kernel, rfl⟩
theorem e_X9_count_95 : DC cX9_count 95 3 98 (.getfield 16) := ⟨by decide +kernel, rfl⟩
theorem e_X9_count_98 : DC cX9_count 98 3 101 (.invokevirtual 383) := ⟨by decide +kernel, rfl⟩
theorem cb_X2_runningLeases : CB yX2_runningLeases cX2_runningLeases 3 (some .int) 0 := ⟨tb_in 1371 (by decide +kernel) (by decide +kernel), tb_in 2 (by decide +kernel) (by decide +kernel), by decide +kernel⟩
theorem ml_X9_383 : Cond.methodLink RX9 383 yX2_runningLeases ∈ tb := tb_in 1368 (by decide +kernel) (by decide +kernel)
theorem im_X2_runningLeases : Cond.instanceMethod yX2_runningLeases ∈ tb := tb_in 1369 (by decide +kernel) (by decide +kernel)
theorem se_X2_runningLeases : Cond.selects (yX2_runningLeases).cls yX2_runningLeases yX2_runningLeases ∈ tb := tb_in 1370 (by decide +kernel) (by decide +kernel)
theorem e_X9_count_101 : DC cX9_count 101 1 102 (.ireturn) := ⟨by decide +kernel, rfl⟩
theorem e_X9_count_102 : DC cX9_count 102 1 103 (.aload_n 0) := ⟨by decide +kernel, rfl⟩
theorem e_X9_count_103 : DC cX9_count 103 3 106 (.getfield 368) := ⟨by decide +kernel, rfl⟩
theorem e_X9_count_106 : DC cX9_count 106 1 107 (.ireturn) := ⟨by decide +kernel, rfl⟩
theorem e_X9_count_107 : DC cX9_count 107 1 108 (.aload_n 0) := ⟨by decide +kernel, rfl⟩
theorem e_X9_count_108 : DC cX9_count 108 3 111 (.getfield 52) := ⟨by decide +kernel, rfl⟩
theorem fl_X9_52 : FL RX9 52 7 1 := ⟨RX9, TX9, 13, rfl, by decide, uw_7, tb_in 331 (by decide +kernel) (by decide +kernel), rfl⟩
theorem e_X9_count_111 : DC cX9_count 111 1 112 (.ireturn) := ⟨by decide +kernel, rfl⟩
theorem le6 {x : Int32} : 6 ≤ x ↔ 5 < x := by
  rw [Int32.le_iff_toInt_le, Int32.lt_iff_toInt_lt]
  show (6 : Int) ≤ _ ↔ (5 : Int) < _
  omega
theorem le72 {x : Int32} : 72 ≤ x ↔ 71 < x := by
  rw [Int32.le_iff_toInt_le, Int32.lt_iff_toInt_lt]
  show (72 : Int) ≤ _ ↔ (71 : Int) < _
  omega
set_option maxRecDepth 20000 in
theorem ldg_amount (l : Launch) (V : VX) (N : Nat) (σ : Mem) (b : Nat) (x y : Int32) (hZ : LLz V σ b) : Ct l V yX9_amount cX9_amount 4 (some .long) 3 0 0 N σ [.ref b, .int x, .int y] (fun r τ => r = some (.long (-1)) ∧ ∀ q : Nat, b + 1457 ≤ q → τ q = σ q) := by
  refine Ct.of (by decide) (Nat.le_of_ble_eq_true rfl) [(0, .ref b), (1, .int x), (2, .int y)] rfl (fun X hX F hQ => ?_)
  obtain ⟨a0, a1, a2, a3, a4, a5, a6, a7, b0, b1, b2, b3⟩ := hZ
  have e1 := b0.eb
  have e2 := b1.eb
  have e3 := b2.eb
  have pst : ∀ j, j < 20 → ∃ pj, EB V σ (b + 197 + 63 * j) pj := fun j hj => ⟨0, (b3 j hj).eb⟩
  refine m_aload_n F rfl e_X9_amount_0 ?_
  refine m_iload_n F rfl e_X9_amount_1 ?_
  refine m_callV F e_X9_amount_2 (k_leaseAt0 (x_l X) V _ _ b 0 0 0 x ⟨a0, a4, a5, a6, a7, e1, e2, pst⟩) cb_X9_leaseAt ml_X9_103 im_X9_leaseAt se_X9_leaseAt a0 rfl rfl (rest := []) rfl (Nat.le_of_ble_eq_true rfl) ⟨Nat.le_of_ble_eq_true rfl, Nat.le_of_ble_eq_true rfl⟩ ⟨Nat.le_of_ble_eq_true rfl, Nat.le_of_ble_eq_true rfl⟩ (k' := 0) (z' := 0) (N' := N) rfl rfl rfl (fun r τ hp => ?_)
  obtain ⟨rfl, hτ⟩ := hp
  rw [hτ]
  clear hτ
  refine m_astore_nN F (lv' := [(3, .null), (0, .ref b), (1, .int x), (2, .int y)]) e_X9_amount_5 (by decide) rfl ?_
  refine m_aload_nN F rfl e_X9_amount_6 ?_
  refine m_ifnullN F e_X9_amount_7 ?_
  refine m_ldc2 F kc_X9_149 e_X9_amount_19 ?_
  exact m_lret F hQ e_X9_amount_22 (⟨rfl, fun q h1 => rfl⟩)
set_option maxRecDepth 20000 in
theorem ldg_due (l : Launch) (V : VX) (N : Nat) (σ : Mem) (b : Nat) (x y : Int32) (hZ : LLz V σ b) : Ct l V yX9_due cX9_due 4 (some .long) 3 0 0 N σ [.ref b, .int x, .int y] (fun r τ => r = some (.long (-1)) ∧ ∀ q : Nat, b + 1457 ≤ q → τ q = σ q) := by
  refine Ct.of (by decide) (Nat.le_of_ble_eq_true rfl) [(0, .ref b), (1, .int x), (2, .int y)] rfl (fun X hX F hQ => ?_)
  obtain ⟨a0, a1, a2, a3, a4, a5, a6, a7, b0, b1, b2, b3⟩ := hZ
  have e1 := b0.eb
  have e2 := b1.eb
  have e3 := b2.eb
  have pst : ∀ j, j < 20 → ∃ pj, EB V σ (b + 197 + 63 * j) pj := fun j hj => ⟨0, (b3 j hj).eb⟩
  refine m_aload_n F rfl e_X9_due_0 ?_
  refine m_iload_n F rfl e_X9_due_1 ?_
  refine m_callV F e_X9_due_2 (k_leaseAt0 (x_l X) V _ _ b 0 0 0 x ⟨a0, a4, a5, a6, a7, e1, e2, pst⟩) cb_X9_leaseAt ml_X9_103 im_X9_leaseAt se_X9_leaseAt a0 rfl rfl (rest := []) rfl (Nat.le_of_ble_eq_true rfl) ⟨Nat.le_of_ble_eq_true rfl, Nat.le_of_ble_eq_true rfl⟩ ⟨Nat.le_of_ble_eq_true rfl, Nat.le_of_ble_eq_true rfl⟩ (k' := 0) (z' := 0) (N' := N) rfl rfl rfl (fun r τ hp => ?_)
  obtain ⟨rfl, hτ⟩ := hp
  rw [hτ]
  clear hτ
  refine m_astore_nN F (lv' := [(3, .null), (0, .ref b), (1, .int x), (2, .int y)]) e_X9_due_5 (by decide) rfl ?_
  refine m_aload_nN F rfl e_X9_due_6 ?_
  refine m_ifnullN F e_X9_due_7 ?_
  refine m_ldc2 F kc_X9_149 e_X9_due_18 ?_
  exact m_lret F hQ e_X9_due_21 (⟨rfl, fun q h1 => rfl⟩)
set_option maxRecDepth 20000 in
theorem ldg_worth (l : Launch) (V : VX) (N : Nat) (σ : Mem) (b : Nat) (x y z : Int32) (hZ : LLz V σ b) : Ct l V yX9_worth cX9_worth 5 (some .long) 3 0 0 N σ [.ref b, .int x, .int y, .int z] (fun r τ => r = some (.long (-1)) ∧ ∀ q : Nat, b + 1457 ≤ q → τ q = σ q) := by
  refine Ct.of (by decide) (Nat.le_of_ble_eq_true rfl) [(0, .ref b), (1, .int x), (2, .int y), (3, .int z)] rfl (fun X hX F hQ => ?_)
  obtain ⟨a0, a1, a2, a3, a4, a5, a6, a7, b0, b1, b2, b3⟩ := hZ
  have e1 := b0.eb
  have e2 := b1.eb
  have e3 := b2.eb
  have pst : ∀ j, j < 20 → ∃ pj, EB V σ (b + 197 + 63 * j) pj := fun j hj => ⟨0, (b3 j hj).eb⟩
  refine m_aload_n F rfl e_X9_worth_0 ?_
  refine m_iload_n F rfl e_X9_worth_1 ?_
  refine m_callV F e_X9_worth_2 (k_leaseAt0 (x_l X) V _ _ b 0 0 0 x ⟨a0, a4, a5, a6, a7, e1, e2, pst⟩) cb_X9_leaseAt ml_X9_103 im_X9_leaseAt se_X9_leaseAt a0 rfl rfl (rest := []) rfl (Nat.le_of_ble_eq_true rfl) ⟨Nat.le_of_ble_eq_true rfl, Nat.le_of_ble_eq_true rfl⟩ ⟨Nat.le_of_ble_eq_true rfl, Nat.le_of_ble_eq_true rfl⟩ (k' := 0) (z' := 0) (N' := N) rfl rfl rfl (fun r τ hp => ?_)
  obtain ⟨rfl, hτ⟩ := hp
  rw [hτ]
  clear hτ
  refine m_astoreN F (lv' := [(4, .null), (0, .ref b), (1, .int x), (2, .int y), (3, .int z)]) e_X9_worth_5 (by decide) rfl ?_
  refine m_aloadN F rfl e_X9_worth_7 ?_
  refine m_ifnullN F e_X9_worth_9 ?_
  refine m_ldc2 F kc_X9_149 e_X9_worth_31 ?_
  exact m_lret F hQ e_X9_worth_34 (⟨rfl, fun q h1 => rfl⟩)
set_option maxRecDepth 20000 in
theorem ldg_plan (l : Launch) (V : VX) (N : Nat) (σ : Mem) (b : Nat) (x y z : Int32) (hZ : LLz V σ b) : Ct l V yX9_plan cX9_plan 6 (some .long) 3 0 0 N σ [.ref b, .int x, .int y, .int z] (fun r τ => r = some (.long (-1)) ∧ ∀ q : Nat, b + 1457 ≤ q → τ q = σ q) := by
  refine Ct.of (by decide) (Nat.le_of_ble_eq_true rfl) [(0, .ref b), (1, .int x), (2, .int y), (3, .int z)] rfl (fun X hX F hQ => ?_)
  obtain ⟨a0, a1, a2, a3, a4, a5, a6, a7, b0, b1, b2, b3⟩ := hZ
  have e1 := b0.eb
  have e2 := b1.eb
  have e3 := b2.eb
  have pst : ∀ j, j < 20 → ∃ pj, EB V σ (b + 197 + 63 * j) pj := fun j hj => ⟨0, (b3 j hj).eb⟩
  refine m_aload_n F rfl e_X9_plan_0 ?_
  refine m_iload_n F rfl e_X9_plan_1 ?_
  refine m_callV F e_X9_plan_2 (k_leaseAt0 (x_l X) V _ _ b 0 0 0 x ⟨a0, a4, a5, a6, a7, e1, e2, pst⟩) cb_X9_leaseAt ml_X9_103 im_X9_leaseAt se_X9_leaseAt a0 rfl rfl (rest := []) rfl (Nat.le_of_ble_eq_true rfl) ⟨Nat.le_of_ble_eq_true rfl, Nat.le_of_ble_eq_true rfl⟩ ⟨Nat.le_of_ble_eq_true rfl, Nat.le_of_ble_eq_true rfl⟩ (k' := 0) (z' := 0) (N' := N) rfl rfl rfl (fun r τ hp => ?_)
  obtain ⟨rfl, hτ⟩ := hp
  rw [hτ]
  clear hτ
  refine m_astoreN F (lv' := [(4, .null), (0, .ref b), (1, .int x), (2, .int y), (3, .int z)]) e_X9_plan_5 (by decide) rfl ?_
  refine m_aloadN F rfl e_X9_plan_7 ?_
  refine m_ifnullN F e_X9_plan_9 ?_
  refine m_ldc2 F kc_X9_149 e_X9_plan_31 ?_
  exact m_lret F hQ e_X9_plan_34 (⟨rfl, fun q h1 => rfl⟩)
set_option maxRecDepth 20000 in
theorem ldg_soon (l : Launch) (V : VX) (N : Nat) (σ : Mem) (b : Nat) (x y : Int32) (hZ : LLz V σ b) : Ct l V yX9_soon cX9_soon 6 (some .long) 3 0 0 N σ [.ref b, .int x, .int y] (fun r τ => r = some (.long (-1)) ∧ ∀ q : Nat, b + 1457 ≤ q → τ q = σ q) := by
  refine Ct.of (by decide) (Nat.le_of_ble_eq_true rfl) [(0, .ref b), (1, .int x), (2, .int y)] rfl (fun X hX F hQ => ?_)
  obtain ⟨a0, a1, a2, a3, a4, a5, a6, a7, b0, b1, b2, b3⟩ := hZ
  have e1 := b0.eb
  have e2 := b1.eb
  have e3 := b2.eb
  have pst : ∀ j, j < 20 → ∃ pj, EB V σ (b + 197 + 63 * j) pj := fun j hj => ⟨0, (b3 j hj).eb⟩
  refine m_aload_n F rfl e_X9_soon_0 ?_
  refine m_iload_n F rfl e_X9_soon_1 ?_
  refine m_callV F e_X9_soon_2 (k_leaseAt0 (x_l X) V _ _ b 0 0 0 x ⟨a0, a4, a5, a6, a7, e1, e2, pst⟩) cb_X9_leaseAt ml_X9_103 im_X9_leaseAt se_X9_leaseAt a0 rfl rfl (rest := []) rfl (Nat.le_of_ble_eq_true rfl) ⟨Nat.le_of_ble_eq_true rfl, Nat.le_of_ble_eq_true rfl⟩ ⟨Nat.le_of_ble_eq_true rfl, Nat.le_of_ble_eq_true rfl⟩ (k' := 0) (z' := 0) (N' := N) rfl rfl rfl (fun r τ hp => ?_)
  obtain ⟨rfl, hτ⟩ := hp
  rw [hτ]
  clear hτ
  refine m_astore_nN F (lv' := [(3, .null), (0, .ref b), (1, .int x), (2, .int y)]) e_X9_soon_5 (by decide) rfl ?_
  refine m_aload_nN F rfl e_X9_soon_6 ?_
  refine m_ifnullN F e_X9_soon_7 ?_
  refine m_ldc2 F kc_X9_149 e_X9_soon_19 ?_
  exact m_lret F hQ e_X9_soon_22 (⟨rfl, fun q h1 => rfl⟩)
set_option maxRecDepth 20000 in
theorem ldg_life (l : Launch) (V : VX) (N : Nat) (σ : Mem) (b : Nat) (x y : Int32) (hZ : LLz V σ b) : Ct l V yX9_life cX9_life 8 (some .long) 3 0 0 N σ [.ref b, .int x, .int y] (fun r τ => r = some (.long (-1)) ∧ ∀ q : Nat, b + 1457 ≤ q → τ q = σ q) := by
  refine Ct.of (by decide) (Nat.le_of_ble_eq_true rfl) [(0, .ref b), (1, .int x), (2, .int y)] rfl (fun X hX F hQ => ?_)
  obtain ⟨a0, a1, a2, a3, a4, a5, a6, a7, b0, b1, b2, b3⟩ := hZ
  have e1 := b0.eb
  have e2 := b1.eb
  have e3 := b2.eb
  have pst : ∀ j, j < 20 → ∃ pj, EB V σ (b + 197 + 63 * j) pj := fun j hj => ⟨0, (b3 j hj).eb⟩
  refine m_aload_n F rfl e_X9_life_0 ?_
  refine m_iload_n F rfl e_X9_life_1 ?_
  refine m_callV F e_X9_life_2 (k_leaseAt0 (x_l X) V _ _ b 0 0 0 x ⟨a0, a4, a5, a6, a7, e1, e2, pst⟩) cb_X9_leaseAt ml_X9_103 im_X9_leaseAt se_X9_leaseAt a0 rfl rfl (rest := []) rfl (Nat.le_of_ble_eq_true rfl) ⟨Nat.le_of_ble_eq_true rfl, Nat.le_of_ble_eq_true rfl⟩ ⟨Nat.le_of_ble_eq_true rfl, Nat.le_of_ble_eq_true rfl⟩ (k' := 0) (z' := 0) (N' := N) rfl rfl rfl (fun r τ hp => ?_)
  obtain ⟨rfl, hτ⟩ := hp
  rw [hτ]
  clear hτ
  refine m_astore_nN F (lv' := [(3, .null), (0, .ref b), (1, .int x), (2, .int y)]) e_X9_life_5 (by decide) rfl ?_
  refine m_aload_nN F rfl e_X9_life_6 ?_
  refine m_ifnonnullN F e_X9_life_7 ?_
  refine m_ldc2 F kc_X9_149 e_X9_life_10 ?_
  exact m_lret F hQ e_X9_life_13 (⟨rfl, fun q h1 => rfl⟩)
set_option maxRecDepth 20000 in
theorem ldg_ifIndex (l : Launch) (V : VX) (N : Nat) (σ : Mem) (b : Nat) (x y : Int32) (hZ : LLz V σ b) : Ct l V yX9_ifIndex cX9_ifIndex 5 (some .long) 3 0 0 N σ [.ref b, .int x, .int y] (fun r τ => r = some (.long (-1)) ∧ ∀ q : Nat, b + 1457 ≤ q → τ q = σ q) := by
  refine Ct.of (by decide) (Nat.le_of_ble_eq_true rfl) [(0, .ref b), (1, .int x), (2, .int y)] rfl (fun X hX F hQ => ?_)
  obtain ⟨a0, a1, a2, a3, a4, a5, a6, a7, b0, b1, b2, b3⟩ := hZ
  have e1 := b0.eb
  have e2 := b1.eb
  have e3 := b2.eb
  have pst : ∀ j, j < 20 → ∃ pj, EB V σ (b + 197 + 63 * j) pj := fun j hj => ⟨0, (b3 j hj).eb⟩
  refine m_aload_n F rfl e_X9_ifIndex_0 ?_
  refine m_iload_n F rfl e_X9_ifIndex_1 ?_
  refine m_callV F e_X9_ifIndex_2 (k_leaseAt0 (x_l X) V _ _ b 0 0 0 x ⟨a0, a4, a5, a6, a7, e1, e2, pst⟩) cb_X9_leaseAt ml_X9_103 im_X9_leaseAt se_X9_leaseAt a0 rfl rfl (rest := []) rfl (Nat.le_of_ble_eq_true rfl) ⟨Nat.le_of_ble_eq_true rfl, Nat.le_of_ble_eq_true rfl⟩ ⟨Nat.le_of_ble_eq_true rfl, Nat.le_of_ble_eq_true rfl⟩ (k' := 0) (z' := 0) (N' := N) rfl rfl rfl (fun r τ hp => ?_)
  obtain ⟨rfl, hτ⟩ := hp
  rw [hτ]
  clear hτ
  refine m_ifnullN F e_X9_ifIndex_5 ?_
  refine m_ldc2 F kc_X9_149 e_X9_ifIndex_15 ?_
  exact m_lret F hQ e_X9_ifIndex_18 (⟨rfl, fun q h1 => rfl⟩)
set_option maxRecDepth 20000 in
theorem ldg_moved (l : Launch) (V : VX) (N : Nat) (σ : Mem) (b : Nat) (x y : Int32) (hZ : LLz V σ b) : Ct l V yX9_moved cX9_moved 4 (some .long) 3 0 0 N σ [.ref b, .int x, .int y] (fun r τ => r = some (.long NOA) ∧ ∀ q : Nat, b + 1457 ≤ q → τ q = σ q) := by
  refine Ct.of (by decide) (Nat.le_of_ble_eq_true rfl) [(0, .ref b), (1, .int x), (2, .int y)] rfl (fun X hX F hQ => ?_)
  obtain ⟨a0, a1, a2, a3, a4, a5, a6, a7, b0, b1, b2, b3⟩ := hZ
  have e1 := b0.eb
  have e2 := b1.eb
  have e3 := b2.eb
  have pst : ∀ j, j < 20 → ∃ pj, EB V σ (b + 197 + 63 * j) pj := fun j hj => ⟨0, (b3 j hj).eb⟩
  refine m_aload_n F rfl e_X9_moved_0 ?_
  refine m_iload_n F rfl e_X9_moved_1 ?_
  refine m_callV F e_X9_moved_2 (k_leaseAt0 (x_l X) V _ _ b 0 0 0 x ⟨a0, a4, a5, a6, a7, e1, e2, pst⟩) cb_X9_leaseAt ml_X9_103 im_X9_leaseAt se_X9_leaseAt a0 rfl rfl (rest := []) rfl (Nat.le_of_ble_eq_true rfl) ⟨Nat.le_of_ble_eq_true rfl, Nat.le_of_ble_eq_true rfl⟩ ⟨Nat.le_of_ble_eq_true rfl, Nat.le_of_ble_eq_true rfl⟩ (k' := 0) (z' := 0) (N' := N) rfl rfl rfl (fun r τ hp => ?_)
  obtain ⟨rfl, hτ⟩ := hp
  rw [hτ]
  clear hτ
  refine m_astore_nN F (lv' := [(3, .null), (0, .ref b), (1, .int x), (2, .int y)]) e_X9_moved_5 (by decide) rfl ?_
  refine m_aload_nN F rfl e_X9_moved_6 ?_
  refine m_ifnullN F e_X9_moved_7 ?_
  refine m_ldc2 F kc_X9_184 e_X9_moved_19 ?_
  exact m_lret F hQ e_X9_moved_22 (⟨rfl, fun q h1 => rfl⟩)
set_option maxRecDepth 20000 in
theorem ldg_rate (l : Launch) (V : VX) (N : Nat) (σ : Mem) (b : Nat) (x y : Int32) (hZ : LLz V σ b) : Ct l V yX9_rate cX9_rate 4 (some .long) 3 0 0 N σ [.ref b, .int x, .int y] (fun r τ => r = some (.long NOA) ∧ ∀ q : Nat, b + 1457 ≤ q → τ q = σ q) := by
  refine Ct.of (by decide) (Nat.le_of_ble_eq_true rfl) [(0, .ref b), (1, .int x), (2, .int y)] rfl (fun X hX F hQ => ?_)
  obtain ⟨a0, a1, a2, a3, a4, a5, a6, a7, b0, b1, b2, b3⟩ := hZ
  have e1 := b0.eb
  have e2 := b1.eb
  have e3 := b2.eb
  have pst : ∀ j, j < 20 → ∃ pj, EB V σ (b + 197 + 63 * j) pj := fun j hj => ⟨0, (b3 j hj).eb⟩
  refine m_aload_n F rfl e_X9_rate_0 ?_
  refine m_iload_n F rfl e_X9_rate_1 ?_
  refine m_callV F e_X9_rate_2 (k_runningAt0 (x_l X) V _ _ b 0 0 0 x ⟨a0, a4, a5, a6, a7, e1, e2, pst⟩) cb_X9_runningAt ml_X9_203 im_X9_runningAt se_X9_runningAt a0 rfl rfl (rest := []) rfl (Nat.le_of_ble_eq_true rfl) ⟨Nat.le_of_ble_eq_true rfl, Nat.le_of_ble_eq_true rfl⟩ ⟨Nat.le_of_ble_eq_true rfl, Nat.le_of_ble_eq_true rfl⟩ (k' := 0) (z' := 0) (N' := N) rfl rfl rfl (fun r τ hp => ?_)
  obtain ⟨rfl, hτ⟩ := hp
  rw [hτ]
  clear hτ
  refine m_astore_nN F (lv' := [(3, .null), (0, .ref b), (1, .int x), (2, .int y)]) e_X9_rate_5 (by decide) rfl ?_
  refine m_aload_nN F rfl e_X9_rate_6 ?_
  refine m_ifnullN F e_X9_rate_7 ?_
  refine m_ldc2 F kc_X9_184 e_X9_rate_20 ?_
  exact m_lret F hQ e_X9_rate_23 (⟨rfl, fun q h1 => rfl⟩)
set_option maxRecDepth 20000 in
theorem ldg_extend (l : Launch) (V : VX) (N : Nat) (σ : Mem) (b : Nat) (x y : Int32) (hZ : LLz V σ b) : Ct l V yX9_extend cX9_extend 4 (some .long) 3 0 0 N σ [.ref b, .int x, .int y] (fun r τ => r = some (.long NOA) ∧ ∀ q : Nat, b + 1457 ≤ q → τ q = σ q) := by
  refine Ct.of (by decide) (Nat.le_of_ble_eq_true rfl) [(0, .ref b), (1, .int x), (2, .int y)] rfl (fun X hX F hQ => ?_)
  obtain ⟨a0, a1, a2, a3, a4, a5, a6, a7, b0, b1, b2, b3⟩ := hZ
  have e1 := b0.eb
  have e2 := b1.eb
  have e3 := b2.eb
  have pst : ∀ j, j < 20 → ∃ pj, EB V σ (b + 197 + 63 * j) pj := fun j hj => ⟨0, (b3 j hj).eb⟩
  refine m_aload_n F rfl e_X9_extend_0 ?_
  refine m_iload_n F rfl e_X9_extend_1 ?_
  refine m_callV F e_X9_extend_2 (k_runningAt0 (x_l X) V _ _ b 0 0 0 x ⟨a0, a4, a5, a6, a7, e1, e2, pst⟩) cb_X9_runningAt ml_X9_203 im_X9_runningAt se_X9_runningAt a0 rfl rfl (rest := []) rfl (Nat.le_of_ble_eq_true rfl) ⟨Nat.le_of_ble_eq_true rfl, Nat.le_of_ble_eq_true rfl⟩ ⟨Nat.le_of_ble_eq_true rfl, Nat.le_of_ble_eq_true rfl⟩ (k' := 0) (z' := 0) (N' := N) rfl rfl rfl (fun r τ hp => ?_)
  obtain ⟨rfl, hτ⟩ := hp
  rw [hτ]
  clear hτ
  refine m_astore_nN F (lv' := [(3, .null), (0, .ref b), (1, .int x), (2, .int y)]) e_X9_extend_5 (by decide) rfl ?_
  refine m_aload_nN F rfl e_X9_extend_6 ?_
  refine m_ifnullN F e_X9_extend_7 ?_
  refine m_ldc2 F kc_X9_184 e_X9_extend_32 ?_
  exact m_lret F hQ e_X9_extend_35 (⟨rfl, fun q h1 => rfl⟩)
set_option maxRecDepth 20000 in
theorem ldg_take (l : Launch) (V : VX) (N : Nat) (σ : Mem) (b : Nat) (x : Int32) (hZ : LLz V σ b) : Ct l V yX9_take cX9_take 4 (some .long) 3 0 0 N σ [.ref b, .int x] (fun r τ => r = some (.long NOA) ∧ ∀ q : Nat, b + 1457 ≤ q → τ q = σ q) := by
  refine Ct.of (by decide) (Nat.le_of_ble_eq_true rfl) [(0, .ref b), (1, .int x)] rfl (fun X hX F hQ => ?_)
  obtain ⟨a0, a1, a2, a3, a4, a5, a6, a7, b0, b1, b2, b3⟩ := hZ
  have e1 := b0.eb
  have e2 := b1.eb
  have e3 := b2.eb
  have pst : ∀ j, j < 20 → ∃ pj, EB V σ (b + 197 + 63 * j) pj := fun j hj => ⟨0, (b3 j hj).eb⟩
  refine m_aload_n F rfl e_X9_take_0 ?_
  refine m_get F e_X9_take_1 fl_X9_16 a0 rfl ?_
  refine m_iload_n F rfl e_X9_take_4 ?_
  refine m_callV F e_X9_take_5 (k_canTake0b (x_l X) V _ _ (b + 2) 0 x e1) cb_X2_canTake ml_X9_214 im_X2_canTake se_X2_canTake e1.head rfl rfl (rest := []) rfl (Nat.le_of_ble_eq_true rfl) ⟨Nat.le_of_ble_eq_true rfl, Nat.le_of_ble_eq_true rfl⟩ ⟨Nat.le_of_ble_eq_true rfl, Nat.le_of_ble_eq_true rfl⟩ (k' := 0) (z' := 0) (N' := N) rfl rfl rfl (fun r τ hp => ?_)
  obtain ⟨rfl, hτ⟩ := hp
  rw [hτ]
  clear hτ
  refine m_if_ne F e_X9_take_8 (fun q => absurd (by decide) q) (fun _ => ?_)
  refine m_ldc2 F kc_X9_184 e_X9_take_11 ?_
  exact m_lret F hQ e_X9_take_14 (⟨rfl, fun q h1 => rfl⟩)
set_option maxRecDepth 20000 in
theorem ldg_part (l : Launch) (V : VX) (N : Nat) (σ : Mem) (b : Nat) (x y : Int32) (hZ : LLz V σ b) : Ct l V yX9_part cX9_part 6 (some .long) 3 0 0 N σ [.ref b, .int x, .int y] (fun r τ => r = some (.long NOA) ∧ ∀ q : Nat, b + 1457 ≤ q → τ q = σ q) := by
  refine Ct.of (by decide) (Nat.le_of_ble_eq_true rfl) [(0, .ref b), (1, .int x), (2, .int y)] rfl (fun X hX F hQ => ?_)
  obtain ⟨a0, a1, a2, a3, a4, a5, a6, a7, b0, b1, b2, b3⟩ := hZ
  have e1 := b0.eb
  have e2 := b1.eb
  have e3 := b2.eb
  have pst : ∀ j, j < 20 → ∃ pj, EB V σ (b + 197 + 63 * j) pj := fun j hj => ⟨0, (b3 j hj).eb⟩
  refine m_aload_n F rfl e_X9_part_0 ?_
  refine m_iload_n F rfl e_X9_part_1 ?_
  refine m_callV F e_X9_part_2 (k_runningAt0 (x_l X) V _ _ b 0 0 0 x ⟨a0, a4, a5, a6, a7, e1, e2, pst⟩) cb_X9_runningAt ml_X9_203 im_X9_runningAt se_X9_runningAt a0 rfl rfl (rest := []) rfl (Nat.le_of_ble_eq_true rfl) ⟨Nat.le_of_ble_eq_true rfl, Nat.le_of_ble_eq_true rfl⟩ ⟨Nat.le_of_ble_eq_true rfl, Nat.le_of_ble_eq_true rfl⟩ (k' := 0) (z' := 0) (N' := N) rfl rfl rfl (fun r τ hp => ?_)
  obtain ⟨rfl, hτ⟩ := hp
  rw [hτ]
  clear hτ
  refine m_astore_nN F (lv' := [(3, .null), (0, .ref b), (1, .int x), (2, .int y)]) e_X9_part_5 (by decide) rfl ?_
  refine m_aload_nN F rfl e_X9_part_6 ?_
  refine m_ifnullN F e_X9_part_7 ?_
  refine m_ldc2 F kc_X9_184 e_X9_part_22 ?_
  exact m_lret F hQ e_X9_part_25 (⟨rfl, fun q h1 => rfl⟩)
set_option maxRecDepth 20000 in
theorem ldg_end (l : Launch) (V : VX) (N : Nat) (σ : Mem) (b : Nat) (x : Int32) (hZ : LLz V σ b) : Ct l V yX9_end cX9_end 3 (some .long) 3 0 0 N σ [.ref b, .int x] (fun r τ => r = some (.long NOA) ∧ ∀ q : Nat, b + 1457 ≤ q → τ q = σ q) := by
  refine Ct.of (by decide) (Nat.le_of_ble_eq_true rfl) [(0, .ref b), (1, .int x)] rfl (fun X hX F hQ => ?_)
  obtain ⟨a0, a1, a2, a3, a4, a5, a6, a7, b0, b1, b2, b3⟩ := hZ
  have e1 := b0.eb
  have e2 := b1.eb
  have e3 := b2.eb
  have pst : ∀ j, j < 20 → ∃ pj, EB V σ (b + 197 + 63 * j) pj := fun j hj => ⟨0, (b3 j hj).eb⟩
  refine m_aload_n F rfl e_X9_end_0 ?_
  refine m_iload_n F rfl e_X9_end_1 ?_
  refine m_callV F e_X9_end_2 (k_runningAt0 (x_l X) V _ _ b 0 0 0 x ⟨a0, a4, a5, a6, a7, e1, e2, pst⟩) cb_X9_runningAt ml_X9_203 im_X9_runningAt se_X9_runningAt a0 rfl rfl (rest := []) rfl (Nat.le_of_ble_eq_true rfl) ⟨Nat.le_of_ble_eq_true rfl, Nat.le_of_ble_eq_true rfl⟩ ⟨Nat.le_of_ble_eq_true rfl, Nat.le_of_ble_eq_true rfl⟩ (k' := 0) (z' := 0) (N' := N) rfl rfl rfl (fun r τ hp => ?_)
  obtain ⟨rfl, hτ⟩ := hp
  rw [hτ]
  clear hτ
  refine m_astore_nN F (lv' := [(2, .null), (0, .ref b), (1, .int x)]) e_X9_end_5 (by decide) rfl ?_
  refine m_aload_nN F rfl e_X9_end_6 ?_
  refine m_ifnonnullN F e_X9_end_7 ?_
  refine m_ldc2 F kc_X9_184 e_X9_end_10 ?_
  exact m_lret F hQ e_X9_end_13 (⟨rfl, fun q h1 => rfl⟩)
set_option maxRecDepth 20000 in
theorem ldg_putOff (l : Launch) (V : VX) (N : Nat) (σ : Mem) (b : Nat) (x y z : Int32) (hZ : LLz V σ b) : Ct l V yX9_putOff cX9_putOff 5 (some .long) 3 0 0 N σ [.ref b, .int x, .int y, .int z] (fun r τ => r = some (.long NOA) ∧ ∀ q : Nat, b + 1457 ≤ q → τ q = σ q) := by
  refine Ct.of (by decide) (Nat.le_of_ble_eq_true rfl) [(0, .ref b), (1, .int x), (2, .int y), (3, .int z)] rfl (fun X hX F hQ => ?_)
  obtain ⟨a0, a1, a2, a3, a4, a5, a6, a7, b0, b1, b2, b3⟩ := hZ
  have e1 := b0.eb
  have e2 := b1.eb
  have e3 := b2.eb
  have pst : ∀ j, j < 20 → ∃ pj, EB V σ (b + 197 + 63 * j) pj := fun j hj => ⟨0, (b3 j hj).eb⟩
  refine m_aload_n F rfl e_X9_putOff_0 ?_
  refine m_iload_n F rfl e_X9_putOff_1 ?_
  refine m_callV F e_X9_putOff_2 (k_runningAt0 (x_l X) V _ _ b 0 0 0 x ⟨a0, a4, a5, a6, a7, e1, e2, pst⟩) cb_X9_runningAt ml_X9_203 im_X9_runningAt se_X9_runningAt a0 rfl rfl (rest := []) rfl (Nat.le_of_ble_eq_true rfl) ⟨Nat.le_of_ble_eq_true rfl, Nat.le_of_ble_eq_true rfl⟩ ⟨Nat.le_of_ble_eq_true rfl, Nat.le_of_ble_eq_true rfl⟩ (k' := 0) (z' := 0) (N' := N) rfl rfl rfl (fun r τ hp => ?_)
  obtain ⟨rfl, hτ⟩ := hp
  rw [hτ]
  clear hτ
  refine m_astoreN F (lv' := [(4, .null), (0, .ref b), (1, .int x), (2, .int y), (3, .int z)]) e_X9_putOff_5 (by decide) rfl ?_
  refine m_aloadN F rfl e_X9_putOff_7 ?_
  refine m_ifnullN F e_X9_putOff_9 ?_
  refine m_ldc2 F kc_X9_184 e_X9_putOff_44 ?_
  exact m_lret F hQ e_X9_putOff_47 (⟨rfl, fun q h1 => rfl⟩)
set_option maxRecDepth 20000 in
theorem ldg_ifTaken (l : Launch) (V : VX) (N : Nat) (σ : Mem) (b : Nat) (x : Int32) (hZ : LLz V σ b) : Ct l V yX9_ifTaken cX9_ifTaken 5 (some .long) 3 0 0 N σ [.ref b, .int x] (fun r τ => r = some (.long NOA) ∧ ∀ q : Nat, b + 1457 ≤ q → τ q = σ q) := by
  refine Ct.of (by decide) (Nat.le_of_ble_eq_true rfl) [(0, .ref b), (1, .int x)] rfl (fun X hX F hQ => ?_)
  obtain ⟨a0, a1, a2, a3, a4, a5, a6, a7, b0, b1, b2, b3⟩ := hZ
  have e1 := b0.eb
  have e2 := b1.eb
  have e3 := b2.eb
  have pst : ∀ j, j < 20 → ∃ pj, EB V σ (b + 197 + 63 * j) pj := fun j hj => ⟨0, (b3 j hj).eb⟩
  refine m_aload_n F rfl e_X9_ifTaken_0 ?_
  refine m_get F e_X9_ifTaken_1 fl_X9_16 a0 rfl ?_
  refine m_iload_n F rfl e_X9_ifTaken_4 ?_
  refine m_callV F e_X9_ifTaken_5 (k_canTake0b (x_l X) V _ _ (b + 2) 0 x e1) cb_X2_canTake ml_X9_214 im_X2_canTake se_X2_canTake e1.head rfl rfl (rest := []) rfl (Nat.le_of_ble_eq_true rfl) ⟨Nat.le_of_ble_eq_true rfl, Nat.le_of_ble_eq_true rfl⟩ ⟨Nat.le_of_ble_eq_true rfl, Nat.le_of_ble_eq_true rfl⟩ (k' := 0) (z' := 0) (N' := N) rfl rfl rfl (fun r τ hp => ?_)
  obtain ⟨rfl, hτ⟩ := hp
  rw [hτ]
  clear hτ
  refine m_if_ne F e_X9_ifTaken_8 (fun q => absurd (by decide) q) (fun _ => ?_)
  refine m_ldc2 F kc_X9_184 e_X9_ifTaken_11 ?_
  exact m_lret F hQ e_X9_ifTaken_14 (⟨rfl, fun q h1 => rfl⟩)
set_option maxRecDepth 20000 in
theorem ldg_down (l : Launch) (V : VX) (N : Nat) (σ : Mem) (b : Nat) (x : Int32) (v : Int64) (hZ : LLz V σ b) : Ct l V yX9_down cX9_down 5 (some .long) 3 0 0 N σ [.ref b, .int x, .long v] (fun r τ => r = some (.long NOA) ∧ ∀ q : Nat, b + 1457 ≤ q → τ q = σ q) := by
  refine Ct.of (by decide) (Nat.le_of_ble_eq_true rfl) [(0, .ref b), (1, .int x), (2, .long v)] rfl (fun X hX F hQ => ?_)
  obtain ⟨a0, a1, a2, a3, a4, a5, a6, a7, b0, b1, b2, b3⟩ := hZ
  have e1 := b0.eb
  have e2 := b1.eb
  have e3 := b2.eb
  have pst : ∀ j, j < 20 → ∃ pj, EB V σ (b + 197 + 63 * j) pj := fun j hj => ⟨0, (b3 j hj).eb⟩
  refine m_aload_n F rfl e_X9_down_0 ?_
  refine m_iload_n F rfl e_X9_down_1 ?_
  refine m_callV F e_X9_down_2 (k_runningAt0 (x_l X) V _ _ b 0 0 0 x ⟨a0, a4, a5, a6, a7, e1, e2, pst⟩) cb_X9_runningAt ml_X9_203 im_X9_runningAt se_X9_runningAt a0 rfl rfl (rest := []) rfl (Nat.le_of_ble_eq_true rfl) ⟨Nat.le_of_ble_eq_true rfl, Nat.le_of_ble_eq_true rfl⟩ ⟨Nat.le_of_ble_eq_true rfl, Nat.le_of_ble_eq_true rfl⟩ (k' := 0) (z' := 0) (N' := N) rfl rfl rfl (fun r τ hp => ?_)
  obtain ⟨rfl, hτ⟩ := hp
  rw [hτ]
  clear hτ
  refine m_astoreN F (lv' := [(4, .null), (0, .ref b), (1, .int x), (2, .long v)]) e_X9_down_5 (by decide) rfl ?_
  refine m_aloadN F rfl e_X9_down_7 ?_
  refine m_ifnullN F e_X9_down_9 ?_
  refine m_ldc2 F kc_X9_184 e_X9_down_30 ?_
  exact m_lret F hQ e_X9_down_33 (⟨rfl, fun q h1 => rfl⟩)
set_option maxRecDepth 20000 in
theorem ldg_named (l : Launch) (V : VX) (N : Nat) (σ : Mem) (b : Nat) (x : Int32) (hZ : LLz V σ b) : Ct l V yX9_named cX9_named 2 (some .int) 3 0 0 N σ [.ref b, .int x] (fun r τ => r = some (.int (-1)) ∧ ∀ q : Nat, b + 1457 ≤ q → τ q = σ q) := by
  refine Ct.of (by decide) (Nat.le_of_ble_eq_true rfl) [(0, .ref b), (1, .int x)] rfl (fun X hX F hQ => ?_)
  obtain ⟨a0, a1, a2, a3, a4, a5, a6, a7, b0, b1, b2, b3⟩ := hZ
  have e1 := b0.eb
  have e2 := b1.eb
  have e3 := b2.eb
  have pst : ∀ j, j < 20 → ∃ pj, EB V σ (b + 197 + 63 * j) pj := fun j hj => ⟨0, (b3 j hj).eb⟩
  refine m_aload_n F rfl e_X9_named_0 ?_
  refine m_get F e_X9_named_1 fl_X9_16 a0 rfl ?_
  refine m_iload_n F rfl e_X9_named_4 ?_
  refine m_callV F e_X9_named_5 (k_leaseNamed0 (x_l X) V _ _ (b + 2) 0 x e1) cb_X2_leaseNamed ml_X9_90 im_X2_leaseNamed se_X2_leaseNamed e1.head rfl rfl (rest := []) rfl (Nat.le_of_ble_eq_true rfl) ⟨Nat.le_of_ble_eq_true rfl, Nat.le_of_ble_eq_true rfl⟩ ⟨Nat.le_of_ble_eq_true rfl, Nat.le_of_ble_eq_true rfl⟩ (k' := 0) (z' := 0) (N' := N) rfl rfl rfl (fun r τ hp => ?_)
  obtain ⟨rfl, hτ⟩ := hp
  rw [hτ]
  clear hτ
  exact m_iret F hQ e_X9_named_8 (⟨rfl, fun q h1 => rfl⟩)
set_option maxRecDepth 20000 in
theorem ldg_choose (l : Launch) (V : VX) (N : Nat) (σ : Mem) (b : Nat) (x : Int32) (hZ : LLz V σ b) : Ct l V yX9_choose cX9_choose 9 (some .int) 3 0 0 N σ [.ref b, .int x] (fun r τ => r = some (.int (-1)) ∧ ∀ q : Nat, b + 1457 ≤ q → τ q = σ q) := by
  refine Ct.of (by decide) (Nat.le_of_ble_eq_true rfl) [(0, .ref b), (1, .int x)] rfl (fun X hX F hQ => ?_)
  obtain ⟨a0, a1, a2, a3, a4, a5, a6, a7, b0, b1, b2, b3⟩ := hZ
  have e1 := b0.eb
  have e2 := b1.eb
  have e3 := b2.eb
  have pst : ∀ j, j < 20 → ∃ pj, EB V σ (b + 197 + 63 * j) pj := fun j hj => ⟨0, (b3 j hj).eb⟩
  refine m_aload_n F rfl e_X9_choose_0 ?_
  refine m_iload_n F rfl e_X9_choose_1 ?_
  refine m_callV F e_X9_choose_2 (k_leaseAt0 (x_l X) V _ _ b 0 0 0 x ⟨a0, a4, a5, a6, a7, e1, e2, pst⟩) cb_X9_leaseAt ml_X9_103 im_X9_leaseAt se_X9_leaseAt a0 rfl rfl (rest := []) rfl (Nat.le_of_ble_eq_true rfl) ⟨Nat.le_of_ble_eq_true rfl, Nat.le_of_ble_eq_true rfl⟩ ⟨Nat.le_of_ble_eq_true rfl, Nat.le_of_ble_eq_true rfl⟩ (k' := 0) (z' := 0) (N' := N) rfl rfl rfl (fun r τ hp => ?_)
  obtain ⟨rfl, hτ⟩ := hp
  rw [hτ]
  clear hτ
  refine m_ifnonnullN F e_X9_choose_5 ?_
  refine m_iconst F (v := (-1)) (by decide) e_X9_choose_8 ?_
  exact m_iret F hQ e_X9_choose_9 (⟨rfl, fun q h1 => rfl⟩)
set_option maxRecDepth 20000 in
theorem ldg_partFor (l : Launch) (V : VX) (N : Nat) (σ : Mem) (b : Nat) (x : Int32) (v : Int64) (hZ : LLz V σ b) : Ct l V yX9_partFor cX9_partFor 6 (some .int) 3 0 0 N σ [.ref b, .int x, .long v] (fun r τ => r = some (.int (-1)) ∧ ∀ q : Nat, b + 1457 ≤ q → τ q = σ q) := by
  refine Ct.of (by decide) (Nat.le_of_ble_eq_true rfl) [(0, .ref b), (1, .int x), (2, .long v)] rfl (fun X hX F hQ => ?_)
  obtain ⟨a0, a1, a2, a3, a4, a5, a6, a7, b0, b1, b2, b3⟩ := hZ
  have e1 := b0.eb
  have e2 := b1.eb
  have e3 := b2.eb
  have pst : ∀ j, j < 20 → ∃ pj, EB V σ (b + 197 + 63 * j) pj := fun j hj => ⟨0, (b3 j hj).eb⟩
  refine m_aload_n F rfl e_X9_partFor_0 ?_
  refine m_iload_n F rfl e_X9_partFor_1 ?_
  refine m_callV F e_X9_partFor_2 (k_leaseAt0 (x_l X) V _ _ b 0 0 0 x ⟨a0, a4, a5, a6, a7, e1, e2, pst⟩) cb_X9_leaseAt ml_X9_103 im_X9_leaseAt se_X9_leaseAt a0 rfl rfl (rest := []) rfl (Nat.le_of_ble_eq_true rfl) ⟨Nat.le_of_ble_eq_true rfl, Nat.le_of_ble_eq_true rfl⟩ ⟨Nat.le_of_ble_eq_true rfl, Nat.le_of_ble_eq_true rfl⟩ (k' := 0) (z' := 0) (N' := N) rfl rfl rfl (fun r τ hp => ?_)
  obtain ⟨rfl, hτ⟩ := hp
  rw [hτ]
  clear hτ
  refine m_ifnonnullN F e_X9_partFor_5 ?_
  refine m_iconst F (v := (-1)) (by decide) e_X9_partFor_8 ?_
  exact m_iret F hQ e_X9_partFor_9 (⟨rfl, fun q h1 => rfl⟩)
set_option maxRecDepth 20000 in
theorem ldg_latest (l : Launch) (V : VX) (N : Nat) (σ : Mem) (b : Nat) (x y : Int32) (hZ : LLz V σ b) : Ct l V yX9_latest cX9_latest 5 (some .int) 3 0 0 N σ [.ref b, .int x, .int y] (fun r τ => r = some (.int (-1)) ∧ ∀ q : Nat, b + 1457 ≤ q → τ q = σ q) := by
  refine Ct.of (by decide) (Nat.le_of_ble_eq_true rfl) [(0, .ref b), (1, .int x), (2, .int y)] rfl (fun X hX F hQ => ?_)
  obtain ⟨a0, a1, a2, a3, a4, a5, a6, a7, b0, b1, b2, b3⟩ := hZ
  have e1 := b0.eb
  have e2 := b1.eb
  have e3 := b2.eb
  have pst : ∀ j, j < 20 → ∃ pj, EB V σ (b + 197 + 63 * j) pj := fun j hj => ⟨0, (b3 j hj).eb⟩
  refine m_aload_n F rfl e_X9_latest_0 ?_
  refine m_iload_n F rfl e_X9_latest_1 ?_
  refine m_callV F e_X9_latest_2 (k_leaseAt0 (x_l X) V _ _ b 0 0 0 x ⟨a0, a4, a5, a6, a7, e1, e2, pst⟩) cb_X9_leaseAt ml_X9_103 im_X9_leaseAt se_X9_leaseAt a0 rfl rfl (rest := []) rfl (Nat.le_of_ble_eq_true rfl) ⟨Nat.le_of_ble_eq_true rfl, Nat.le_of_ble_eq_true rfl⟩ ⟨Nat.le_of_ble_eq_true rfl, Nat.le_of_ble_eq_true rfl⟩ (k' := 0) (z' := 0) (N' := N) rfl rfl rfl (fun r τ hp => ?_)
  obtain ⟨rfl, hτ⟩ := hp
  rw [hτ]
  clear hτ
  refine m_ifnullN F e_X9_latest_5 ?_
  refine m_iconst F (v := (-1)) (by decide) e_X9_latest_15 ?_
  exact m_iret F hQ e_X9_latest_16 (⟨rfl, fun q h1 => rfl⟩)
set_option maxRecDepth 20000 in
theorem ldg_half (l : Launch) (V : VX) (N : Nat) (σ : Mem) (b : Nat) (x : Int32) (hZ : LLz V σ b) : Ct l V yX9_half cX9_half 6 (some .int) 3 0 0 N σ [.ref b, .int x] (fun r τ => r = some (.int (-1)) ∧ ∀ q : Nat, b + 1457 ≤ q → τ q = σ q) := by
  refine Ct.of (by decide) (Nat.le_of_ble_eq_true rfl) [(0, .ref b), (1, .int x)] rfl (fun X hX F hQ => ?_)
  obtain ⟨a0, a1, a2, a3, a4, a5, a6, a7, b0, b1, b2, b3⟩ := hZ
  have e1 := b0.eb
  have e2 := b1.eb
  have e3 := b2.eb
  have pst : ∀ j, j < 20 → ∃ pj, EB V σ (b + 197 + 63 * j) pj := fun j hj => ⟨0, (b3 j hj).eb⟩
  refine m_aload_n F rfl e_X9_half_0 ?_
  refine m_iload_n F rfl e_X9_half_1 ?_
  refine m_callV F e_X9_half_2 (k_leaseAt0 (x_l X) V _ _ b 0 0 0 x ⟨a0, a4, a5, a6, a7, e1, e2, pst⟩) cb_X9_leaseAt ml_X9_103 im_X9_leaseAt se_X9_leaseAt a0 rfl rfl (rest := []) rfl (Nat.le_of_ble_eq_true rfl) ⟨Nat.le_of_ble_eq_true rfl, Nat.le_of_ble_eq_true rfl⟩ ⟨Nat.le_of_ble_eq_true rfl, Nat.le_of_ble_eq_true rfl⟩ (k' := 0) (z' := 0) (N' := N) rfl rfl rfl (fun r τ hp => ?_)
  obtain ⟨rfl, hτ⟩ := hp
  rw [hτ]
  clear hτ
  refine m_astore_nN F (lv' := [(2, .null), (0, .ref b), (1, .int x)]) e_X9_half_5 (by decide) rfl ?_
  refine m_aload_nN F rfl e_X9_half_6 ?_
  refine m_ifnullN F e_X9_half_7 ?_
  refine m_iconst F (v := (-1)) (by decide) e_X9_half_17 ?_
  exact m_iret F hQ e_X9_half_18 (⟨rfl, fun q h1 => rfl⟩)
set_option maxRecDepth 20000 in
theorem ldg_yields (l : Launch) (V : VX) (N : Nat) (σ : Mem) (b : Nat) (x y : Int32) (v : Int64) (hZ : LLz V σ b) : Ct l V yX9_yields cX9_yields 6 (some .int) 3 0 0 N σ [.ref b, .int x, .int y, .long v] (fun r τ => r = some (.int (-1)) ∧ ∀ q : Nat, b + 1457 ≤ q → τ q = σ q) := by
  refine Ct.of (by decide) (Nat.le_of_ble_eq_true rfl) [(0, .ref b), (1, .int x), (2, .int y), (3, .long v)] rfl (fun X hX F hQ => ?_)
  obtain ⟨a0, a1, a2, a3, a4, a5, a6, a7, b0, b1, b2, b3⟩ := hZ
  have e1 := b0.eb
  have e2 := b1.eb
  have e3 := b2.eb
  have pst : ∀ j, j < 20 → ∃ pj, EB V σ (b + 197 + 63 * j) pj := fun j hj => ⟨0, (b3 j hj).eb⟩
  refine m_aload_n F rfl e_X9_yields_0 ?_
  refine m_iload_n F rfl e_X9_yields_1 ?_
  refine m_callV F e_X9_yields_2 (k_leaseAt0 (x_l X) V _ _ b 0 0 0 x ⟨a0, a4, a5, a6, a7, e1, e2, pst⟩) cb_X9_leaseAt ml_X9_103 im_X9_leaseAt se_X9_leaseAt a0 rfl rfl (rest := []) rfl (Nat.le_of_ble_eq_true rfl) ⟨Nat.le_of_ble_eq_true rfl, Nat.le_of_ble_eq_true rfl⟩ ⟨Nat.le_of_ble_eq_true rfl, Nat.le_of_ble_eq_true rfl⟩ (k' := 0) (z' := 0) (N' := N) rfl rfl rfl (fun r τ hp => ?_)
  obtain ⟨rfl, hτ⟩ := hp
  rw [hτ]
  clear hτ
  refine m_astoreN F (lv' := [(5, .null), (0, .ref b), (1, .int x), (2, .int y), (3, .long v)]) e_X9_yields_5 (by decide) rfl ?_
  refine m_aloadN F rfl e_X9_yields_7 ?_
  refine m_ifnullN F e_X9_yields_9 ?_
  refine m_iconst F (v := (-1)) (by decide) e_X9_yields_28 ?_
  exact m_iret F hQ e_X9_yields_29 (⟨rfl, fun q h1 => rfl⟩)
set_option maxRecDepth 20000 in
theorem ldg_level (l : Launch) (V : VX) (N : Nat) (σ : Mem) (b : Nat) (x : Int32) (v : Int64) (hZ : LLz V σ b) : Ct l V yX9_level cX9_level 6 (some .int) 3 0 0 N σ [.ref b, .int x, .long v] (fun r τ => r = some (.int (-1)) ∧ ∀ q : Nat, b + 1457 ≤ q → τ q = σ q) := by
  refine Ct.of (by decide) (Nat.le_of_ble_eq_true rfl) [(0, .ref b), (1, .int x), (2, .long v)] rfl (fun X hX F hQ => ?_)
  obtain ⟨a0, a1, a2, a3, a4, a5, a6, a7, b0, b1, b2, b3⟩ := hZ
  have e1 := b0.eb
  have e2 := b1.eb
  have e3 := b2.eb
  have pst : ∀ j, j < 20 → ∃ pj, EB V σ (b + 197 + 63 * j) pj := fun j hj => ⟨0, (b3 j hj).eb⟩
  refine m_aload_n F rfl e_X9_level_0 ?_
  refine m_iload_n F rfl e_X9_level_1 ?_
  refine m_callV F e_X9_level_2 (k_leaseAt0 (x_l X) V _ _ b 0 0 0 x ⟨a0, a4, a5, a6, a7, e1, e2, pst⟩) cb_X9_leaseAt ml_X9_103 im_X9_leaseAt se_X9_leaseAt a0 rfl rfl (rest := []) rfl (Nat.le_of_ble_eq_true rfl) ⟨Nat.le_of_ble_eq_true rfl, Nat.le_of_ble_eq_true rfl⟩ ⟨Nat.le_of_ble_eq_true rfl, Nat.le_of_ble_eq_true rfl⟩ (k' := 0) (z' := 0) (N' := N) rfl rfl rfl (fun r τ hp => ?_)
  obtain ⟨rfl, hτ⟩ := hp
  rw [hτ]
  clear hτ
  refine m_astoreN F (lv' := [(4, .null), (0, .ref b), (1, .int x), (2, .long v)]) e_X9_level_5 (by decide) rfl ?_
  refine m_aloadN F rfl e_X9_level_7 ?_
  refine m_ifnullN F e_X9_level_9 ?_
  refine m_iconst F (v := (-1)) (by decide) e_X9_level_19 ?_
  exact m_iret F hQ e_X9_level_20 (⟨rfl, fun q h1 => rfl⟩)
set_option maxRecDepth 20000 in
theorem ldg_undo (l : Launch) (V : VX) (N : Nat) (σ : Mem) (b : Nat)  (hZ : LLz V σ b) : Ct l V yX9_undo cX9_undo 1 (some .int) 3 0 0 N σ [.ref b] (fun r τ => r = some (.int (-1)) ∧ ∀ q : Nat, b + 1457 ≤ q → τ q = σ q) := by
  refine Ct.of (by decide) (Nat.le_of_ble_eq_true rfl) [(0, .ref b)] rfl (fun X hX F hQ => ?_)
  obtain ⟨a0, a1, a2, a3, a4, a5, a6, a7, b0, b1, b2, b3⟩ := hZ
  have e1 := b0.eb
  have e2 := b1.eb
  have e3 := b2.eb
  have pst : ∀ j, j < 20 → ∃ pj, EB V σ (b + 197 + 63 * j) pj := fun j hj => ⟨0, (b3 j hj).eb⟩
  refine m_aload_n F rfl e_X9_undo_0 ?_
  refine m_get F e_X9_undo_1 fl_X9_368 a0 rfl ?_
  refine m_iconst F (v := 1) (by decide) e_X9_undo_4 ?_
  refine m_icmp_ge F e_X9_undo_5 (fun q => absurd q (by decide)) (fun _ => ?_)
  refine m_iconst F (v := (-1)) (by decide) e_X9_undo_8 ?_
  exact m_iret F hQ e_X9_undo_9 (⟨rfl, fun q h1 => rfl⟩)
set_option maxRecDepth 20000 in
theorem ldg_back (l : Launch) (V : VX) (N : Nat) (σ : Mem) (b : Nat)  (hZ : LLz V σ b) : Ct l V yX9_back cX9_back 1 (some .int) 3 0 0 N σ [.ref b] (fun r τ => r = some (.int (-1)) ∧ ∀ q : Nat, b + 1457 ≤ q → τ q = σ q) := by
  refine Ct.of (by decide) (Nat.le_of_ble_eq_true rfl) [(0, .ref b)] rfl (fun X hX F hQ => ?_)
  obtain ⟨a0, a1, a2, a3, a4, a5, a6, a7, b0, b1, b2, b3⟩ := hZ
  have e1 := b0.eb
  have e2 := b1.eb
  have e3 := b2.eb
  have pst : ∀ j, j < 20 → ∃ pj, EB V σ (b + 197 + 63 * j) pj := fun j hj => ⟨0, (b3 j hj).eb⟩
  refine m_aload_n F rfl e_X9_back_0 ?_
  refine m_get F e_X9_back_1 fl_X9_77 a0 rfl ?_
  refine m_if_ne F e_X9_back_4 (fun q => absurd (by decide) q) (fun _ => ?_)
  refine m_iconst F (v := (-1)) (by decide) e_X9_back_7 ?_
  exact m_iret F hQ e_X9_back_8 (⟨rfl, fun q h1 => rfl⟩)
set_option maxRecDepth 20000 in
theorem ldg_heaviest (l : Launch) (V : VX) (N : Nat) (σ : Mem) (b : Nat)  (hZ : LLz V σ b) : Ct l V yX9_heaviest cX9_heaviest 6 (some .int) 3 0 0 N σ [.ref b] (fun r τ => r = some (.int (-2)) ∧ ∀ q : Nat, b + 1457 ≤ q → τ q = σ q) := by
  refine Ct.of (by decide) (Nat.le_of_ble_eq_true rfl) [(0, .ref b)] rfl (fun X hX F hQ => ?_)
  obtain ⟨a0, a1, a2, a3, a4, a5, a6, a7, b0, b1, b2, b3⟩ := hZ
  have e1 := b0.eb
  have e2 := b1.eb
  have e3 := b2.eb
  have pst : ∀ j, j < 20 → ∃ pj, EB V σ (b + 197 + 63 * j) pj := fun j hj => ⟨0, (b3 j hj).eb⟩
  refine m_bipush F (v := (-2)) (by decide) e_X9_heaviest_0 ?_
  refine m_istore_n F (lv' := [(1, .int (-2)), (0, .ref b)]) e_X9_heaviest_2 (by decide) rfl ?_
  refine m_aload_n F rfl e_X9_heaviest_3 ?_
  refine m_get F e_X9_heaviest_4 fl_X9_42 a0 rfl ?_
  refine m_astore_n F (lv' := [(2, .ref (b + 194)), (1, .int (-2)), (0, .ref b)]) e_X9_heaviest_7 (by decide) rfl ?_
  refine m_iconst F (v := 1) (by decide) e_X9_heaviest_8 ?_
  refine m_istore_n F (lv' := [(3, .int 1), (2, .ref (b + 194)), (1, .int (-2)), (0, .ref b)]) e_X9_heaviest_9 (by decide) rfl ?_
  refine m_iconst F (v := 0) (by decide) e_X9_heaviest_10 ?_
  refine m_istore F (lv' := [(4, .int 0), (3, .int 1), (2, .ref (b + 194)), (1, .int (-2)), (0, .ref b)]) e_X9_heaviest_11 (by decide) rfl ?_
  refine m_iload F rfl e_X9_heaviest_13 ?_
  refine m_aload_n F rfl e_X9_heaviest_15 ?_
  refine m_get F e_X9_heaviest_16 fl_X9_16 a0 rfl ?_
  refine m_get F e_X9_heaviest_19 fl_X9_358 e1.head rfl ?_
  refine m_icmp_ge F e_X9_heaviest_22 (fun _ => ?_) (fun q => absurd (by decide) q)
  refine m_iload_n F rfl e_X9_heaviest_97 ?_
  exact m_iret F hQ e_X9_heaviest_98 (⟨rfl, fun q h1 => rfl⟩)
set_option maxRecDepth 20000 in
theorem ldg_keep (l : Launch) (V : VX) (N : Nat) (σ : Mem) (b : Nat)  (hZ : LLz V σ b) : Ct l V yX9_keep cX9_keep 1 (some .int) 3 0 0 N σ [.ref b] (fun r τ => r = some (.int 0) ∧ ∀ q : Nat, b + 1457 ≤ q → τ q = σ q) := by
  refine Ct.of (by decide) (Nat.le_of_ble_eq_true rfl) [(0, .ref b)] rfl (fun X hX F hQ => ?_)
  obtain ⟨a0, a1, a2, a3, a4, a5, a6, a7, b0, b1, b2, b3⟩ := hZ
  have e1 := b0.eb
  have e2 := b1.eb
  have e3 := b2.eb
  have pst : ∀ j, j < 20 → ∃ pj, EB V σ (b + 197 + 63 * j) pj := fun j hj => ⟨0, (b3 j hj).eb⟩
  refine m_aload_n F rfl e_X9_keep_0 ?_
  refine m_get F e_X9_keep_1 fl_X9_32 a0 rfl ?_
  refine m_aload_n F rfl e_X9_keep_4 ?_
  refine m_get F e_X9_keep_5 fl_X9_16 a0 rfl ?_
  refine m_callV F e_X9_keep_8 (k_Bcopy0 (x_l X) V _ _ (b + 130) 0 (b + 2) 0 e3 e1 (by omega)) cb_X2_copyFrom ml_X9_374 im_X2_copyFrom se_X2_copyFrom e3.head rfl rfl (rest := []) rfl (Nat.le_of_ble_eq_true rfl) ⟨Nat.le_of_ble_eq_true rfl, Nat.le_of_ble_eq_true rfl⟩ ⟨Nat.le_of_ble_eq_true rfl, Nat.le_of_ble_eq_true rfl⟩ (k' := 0) (z' := 0) (N' := N) rfl rfl rfl (fun r τ85 hp => ?_)
  obtain ⟨rfl, eb86, hf87⟩ := hp
  have g88 : τ85 b = some (ob 7 [.ref (b + 1), .int 0, .ref (b + 2), .ref (b + 65), .ref (b + 128), .ref (b + 130), .int 0, .ref (b + 193), .int 0, .int 0, .ref (b + 194), .ref (b + 195), .ref (b + 196)]) := (hf87 b (by omega)).trans a0
  have g89 : τ85 (b + 1) = some (aB V 700 (fun _ => 0)) := (hf87 (b + 1) (by omega)).trans a1
  have g90 : τ85 (b + 128) = some (ob 5 [.ref (b + 1), .int 0, .ref (b + 65), .ref (b + 129), .int 0, .int 0, .int 0, .int 0, .int 0, .int 0, .int 0, .int 0, .int (-1)]) := (hf87 (b + 128) (by omega)).trans a2
  have g91 : τ85 (b + 129) = some (aI V 4 (fun _ => 0)) := (hf87 (b + 129) (by omega)).trans a3
  have g92 : τ85 (b + 193) = some (aR 6 V 20 (pfB b)) := (hf87 (b + 193) (by omega)).trans a4
  have g93 : τ85 (b + 194) = some (ob 0 [.long 0, .long 0]) := (hf87 (b + 194) (by omega)).trans a5
  have g94 : τ85 (b + 195) = some (ob 0 [.long 0, .long 0]) := (hf87 (b + 195) (by omega)).trans a6
  have g95 : τ85 (b + 196) = some (ob 0 [.long 0, .long 0]) := (hf87 (b + 196) (by omega)).trans a7
  have eb96 : EB V τ85 (b + 2) 0 := e1.keep (fun x g1 g2 => (hf87 x (by omega)).trans rfl)
  have eb97 : EB V τ85 (b + 65) 0 := e2.keep (fun x g1 g2 => (hf87 x (by omega)).trans rfl)
  have pst98 : ∀ j, j < 20 → ∃ pj, EB V τ85 (b + 197 + 63 * j) pj := fun j hj => (pst j hj).elim (fun pj h9 => ⟨pj, h9.keep (fun x g1 g2 => (hf87 x (by omega)).trans rfl)⟩)
  have fr99 : ∀ q : Nat, b + 1457 ≤ q → τ85 q = σ q := fun q h1 => (hf87 q (by omega)).trans rfl
  refine m_aload_n F rfl e_X9_keep_11 ?_
  refine m_iconst F (v := 1) (by decide) e_X9_keep_12 ?_
  refine m_put F e_X9_keep_13 fp_X9_77 g88 (by decide) rfl (Nat.le_of_ble_eq_true rfl) (fs' := [.ref (b + 1), .int 0, .ref (b + 2), .ref (b + 65), .ref (b + 128), .ref (b + 130), .int 1, .ref (b + 193), .int 0, .int 0, .ref (b + 194), .ref (b + 195), .ref (b + 196)]) rfl rfl ?_
  refine m_aload_n F rfl e_X9_keep_16 ?_
  refine m_get F e_X9_keep_17 fl_X9_16 ru_eq rfl ?_
  refine m_get F e_X9_keep_20 fl_X9_94 (ru_ne (by omega) eb96.head) rfl ?_
  exact m_iret F hQ e_X9_keep_23 (⟨rfl, fun q h1 => (ru_ne (by omega) (fr99 q h1))⟩)
set_option maxRecDepth 20000 in
theorem ldg_fault (l : Launch) (V : VX) (N : Nat) (σ : Mem) (b : Nat) (x : Int32) (hZ : LLz V σ b) : Ct l V yX9_fault cX9_fault 2 (some .int) 0 0 0 N σ [.ref b, .int x] (fun r τ => r = some (.int (if x = 0 then 0 else -1)) ∧ ∀ q : Nat, b + 1457 ≤ q → τ q = σ q) := by
  refine Ct.of (by decide) (Nat.le_of_ble_eq_true rfl) [(0, .ref b), (1, .int x)] rfl (fun X hX F hQ => ?_)
  obtain ⟨a0, a1, a2, a3, a4, a5, a6, a7, b0, b1, b2, b3⟩ := hZ
  have e1 := b0.eb
  have e2 := b1.eb
  have e3 := b2.eb
  have pst : ∀ j, j < 20 → ∃ pj, EB V σ (b + 197 + 63 * j) pj := fun j hj => ⟨0, (b3 j hj).eb⟩
  refine m_iload_n F rfl e_X9_fault_0 ?_
  by_cases hx0 : x = 0
  · refine m_lookup F e_X9_fault_1 (by decide) (off := 27) (by rw [hx0]; decide) (tgt := 28) (by decide) ?_
    refine m_aload_n F rfl e_X9_fault_28 ?_
    refine m_get F e_X9_fault_29 fl_X9_28 a0 rfl ?_
    refine m_get F e_X9_fault_32 fl_X9_70 a2 rfl ?_
    exact m_iret F hQ e_X9_fault_35 (⟨by rw [if_pos hx0], fun q h1 => rfl⟩)
  by_cases hx1 : x = 1
  · refine m_lookup F e_X9_fault_1 (by decide) (off := 35) (by rw [hx1]; decide) (tgt := 36) (by decide) ?_
    refine m_aload_n F rfl e_X9_fault_36 ?_
    refine m_get F e_X9_fault_37 fl_X9_28 a0 rfl ?_
    refine m_get F e_X9_fault_40 fl_X9_87 a2 rfl ?_
    exact m_iret F hQ e_X9_fault_43 (⟨by rw [if_neg hx0], fun q h1 => rfl⟩)
  refine m_lookup F e_X9_fault_1 (by decide) (off := 43) ((lv_osw hx0 (by decide)).trans ((lv_osw hx1 (by decide)).trans (rfl))) (tgt := 44) (by decide) ?_
  refine m_iconst F (v := (-1)) (by decide) e_X9_fault_44 ?_
  exact m_iret F hQ e_X9_fault_45 (⟨by rw [if_neg hx0], fun q h1 => rfl⟩)
set_option maxRecDepth 20000 in
theorem ldg_index (l : Launch) (V : VX) (N : Nat) (σ : Mem) (b : Nat) (x : Int32) (hZ : LLz V σ b) : Ct l V yX9_index cX9_index 2 (some .int) 0 0 0 N σ [.ref b, .int x] (fun r τ => r = some (.int (if x < 0 ∨ 99 < x then -1 else 1000)) ∧ ∀ q : Nat, b + 1457 ≤ q → τ q = σ q) := by
  refine Ct.of (by decide) (Nat.le_of_ble_eq_true rfl) [(0, .ref b), (1, .int x)] rfl (fun X hX F hQ => ?_)
  obtain ⟨a0, a1, a2, a3, a4, a5, a6, a7, b0, b1, b2, b3⟩ := hZ
  have e1 := b0.eb
  have e2 := b1.eb
  have e3 := b2.eb
  have pst : ∀ j, j < 20 → ∃ pj, EB V σ (b + 197 + 63 * j) pj := fun j hj => ⟨0, (b3 j hj).eb⟩
  refine m_iload_n F rfl e_X9_index_0 ?_
  refine m_if_lt F e_X9_index_1 (fun q1 => ?_) (fun q1 => ?_)
  · refine m_iconst F (v := (-1)) (by decide) e_X9_index_10 ?_
    exact m_iret F hQ e_X9_index_11 (⟨by rw [if_pos (Or.inl q1)], fun q h1 => rfl⟩)
  · refine m_iload_n F rfl e_X9_index_4 ?_
    refine m_bipush F (v := 99) (by decide) e_X9_index_5 ?_
    refine m_icmp_le F e_X9_index_7 (fun q7 => ?_) (fun q7 => ?_)
    · obtain ⟨k, hk, ek⟩ := nI_of2 (x := x) (M := 99) (n := 99) (by decide) q1 q7
      subst ek
      refine m_aload_n F rfl e_X9_index_12 ?_
      refine m_get F e_X9_index_13 fl_X9_16 a0 rfl ?_
      refine m_get F e_X9_index_16 fl_X9_180 e1.head rfl ?_
      refine m_iload_n F rfl e_X9_index_19 ?_
      refine m_iald F (j := k) e_X9_index_20 b0.1.2.2.2.1 (nI_clamp (by omega)) (vp_in_nI (by omega) (by omega)) ?_
      refine Wm.topE (w := 1000) (rfl) ?_
      exact m_iret F hQ e_X9_index_21 (⟨by rw [if_neg (fun h => h.elim q1 (fun h => absurd q7 (Int32.not_le.mpr h)))], fun q h1 => rfl⟩)
    · refine m_iconst F (v := (-1)) (by decide) e_X9_index_10 ?_
      exact m_iret F hQ e_X9_index_11 (⟨by rw [if_pos (Or.inr (Int32.not_le.mp q7))], fun q h1 => rfl⟩)
set_option maxRecDepth 20000 in
theorem ldg_account (l : Launch) (V : VX) (N : Nat) (σ : Mem) (b : Nat) (x : Int32) (hZ : LLz V σ b) : Ct l V yX9_account cX9_account 2 (some .long) 0 0 0 N σ [.ref b, .int x] (fun r τ => r = some (.long (if x < 0 ∨ 6 ≤ x then NOA else 0)) ∧ ∀ q : Nat, b + 1457 ≤ q → τ q = σ q) := by
  refine Ct.of (by decide) (Nat.le_of_ble_eq_true rfl) [(0, .ref b), (1, .int x)] rfl (fun X hX F hQ => ?_)
  obtain ⟨a0, a1, a2, a3, a4, a5, a6, a7, b0, b1, b2, b3⟩ := hZ
  have e1 := b0.eb
  have e2 := b1.eb
  have e3 := b2.eb
  have pst : ∀ j, j < 20 → ∃ pj, EB V σ (b + 197 + 63 * j) pj := fun j hj => ⟨0, (b3 j hj).eb⟩
  refine m_iload_n F rfl e_X9_account_0 ?_
  refine m_if_lt F e_X9_account_1 (fun q1 => ?_) (fun q1 => ?_)
  · refine m_ldc2 F kc_X9_184 e_X9_account_10 ?_
    exact m_lret F hQ e_X9_account_13 (⟨by rw [if_pos (Or.inl q1)]; rfl, fun q h1 => rfl⟩)
  · refine m_iload_n F rfl e_X9_account_4 ?_
    refine m_bipush F (v := 6) (by decide) e_X9_account_5 ?_
    refine m_icmp_lt F e_X9_account_7 (fun q7 => ?_) (fun q7 => ?_)
    · obtain ⟨k, hk, ek⟩ := nI_of2 (x := x) (M := 6) (n := 6) (by decide) q1 (Int32.le_of_lt q7)
      subst ek
      have hk6 : k < 6 := (nI_ltI (a := k) (b := 6) (by omega) (by omega)).mp q7
      refine m_aload_n F rfl e_X9_account_14 ?_
      refine m_get F e_X9_account_15 fl_X9_16 a0 rfl ?_
      refine m_get F e_X9_account_18 fl_X9_186 e1.head rfl ?_
      refine m_get F e_X9_account_21 fl_X9_190 e1.jn rfl ?_
      refine m_iload_n F rfl e_X9_account_24 ?_
      refine m_lald F (j := k) e_X9_account_25 b0.1.2.2.2.2.2.2.2.1 (nI_clamp (by omega)) (vp_in_nI (by omega) (by omega)) ?_
      refine Wm.toplE (w := 0) (rfl) ?_
      exact m_lret F hQ e_X9_account_26 (⟨by rw [if_neg (fun h => h.elim q1 (fun h => absurd q7 (Int32.not_lt.mpr h)))], fun q h1 => rfl⟩)
    · refine m_ldc2 F kc_X9_184 e_X9_account_10 ?_
      exact m_lret F hQ e_X9_account_13 (⟨by rw [if_pos (Or.inr (Int32.not_lt.mp q7))]; rfl, fun q h1 => rfl⟩)
set_option maxRecDepth 20000 in
theorem ldg_entry (l : Launch) (V : VX) (N : Nat) (σ : Mem) (b : Nat) (x y : Int32) (hZ : LLz V σ b) : Ct l V yX9_entry cX9_entry 5 (some .long) 2 0 0 N σ [.ref b, .int x, .int y] (fun r τ => r = some (.long NOA) ∧ ∀ q : Nat, b + 1457 ≤ q → τ q = σ q) := by
  refine Ct.of (by decide) (Nat.le_of_ble_eq_true rfl) [(0, .ref b), (1, .int x), (2, .int y)] rfl (fun X hX F hQ => ?_)
  obtain ⟨a0, a1, a2, a3, a4, a5, a6, a7, b0, b1, b2, b3⟩ := hZ
  have e1 := b0.eb
  have e2 := b1.eb
  have e3 := b2.eb
  have pst : ∀ j, j < 20 → ∃ pj, EB V σ (b + 197 + 63 * j) pj := fun j hj => ⟨0, (b3 j hj).eb⟩
  refine m_iload_n F rfl e_X9_entry_0 ?_
  refine m_if_lt F e_X9_entry_1 (fun q1 => ?_) (fun q1 => ?_)
  · refine m_iconst F (v := 0) (by decide) e_X9_entry_13 ?_
    refine m_istore_n F (lv' := [(3, .int 0), (0, .ref b), (1, .int x), (2, .int y)]) e_X9_entry_14 (by decide) rfl ?_
    refine m_iload_n F rfl e_X9_entry_15 ?_
    refine m_bipush F (v := 10) (by decide) e_X9_entry_16 ?_
    refine m_icmp_lt F e_X9_entry_18 (fun q18 => ?_) (fun q18 => ?_)
    · refine m_iconst F (v := 0) (by decide) e_X9_entry_31 ?_
      refine m_istore F (lv' := [(4, .int 0), (3, .int 0), (0, .ref b), (1, .int x), (2, .int y)]) e_X9_entry_32 (by decide) rfl ?_
      refine m_iload_n F rfl e_X9_entry_34 ?_
      refine m_if_lt F e_X9_entry_35 (fun q35 => ?_) (fun q35 => ?_)
      · refine m_ldc2 F kc_X9_184 e_X9_entry_61 ?_
        exact m_lret F hQ e_X9_entry_64 (⟨rfl, fun q h1 => rfl⟩)
      · refine m_iload_n F rfl e_X9_entry_38 ?_
        refine m_aload_n F rfl e_X9_entry_39 ?_
        refine m_get F e_X9_entry_40 fl_X9_16 a0 rfl ?_
        refine m_get F e_X9_entry_43 fl_X9_186 e1.head rfl ?_
        refine m_callV F e_X9_entry_46 (k_kept0 (x_l X) V _ _ (b + 7) e1.jn) cb_X3_kept ml_X9_196 im_X3_kept se_X3_kept e1.jn rfl rfl (rest := [.int x]) rfl (Nat.le_of_ble_eq_true rfl) ⟨Nat.le_of_ble_eq_true rfl, Nat.le_of_ble_eq_true rfl⟩ ⟨Nat.le_of_ble_eq_true rfl, Nat.le_of_ble_eq_true rfl⟩ (k' := 0) (z' := 0) (N' := N) rfl rfl rfl (fun r τ hp => ?_)
        obtain ⟨rfl, hτ⟩ := hp
        rw [hτ]
        clear hτ
        refine m_icmp_ge F e_X9_entry_49 (fun q49 => ?_) (fun q49 => absurd q49 (fun n => n (Int32.not_lt.mp q35)))
        refine m_ldc2 F kc_X9_184 e_X9_entry_61 ?_
        exact m_lret F hQ e_X9_entry_64 (⟨rfl, fun q h1 => rfl⟩)
    · refine m_iload_n F rfl e_X9_entry_21 ?_
      refine m_bipush F (v := 16) (by decide) e_X9_entry_22 ?_
      refine m_icmp_ge F e_X9_entry_24 (fun q24 => ?_) (fun q24 => ?_)
      · refine m_iconst F (v := 0) (by decide) e_X9_entry_31 ?_
        refine m_istore F (lv' := [(4, .int 0), (3, .int 0), (0, .ref b), (1, .int x), (2, .int y)]) e_X9_entry_32 (by decide) rfl ?_
        refine m_iload_n F rfl e_X9_entry_34 ?_
        refine m_if_lt F e_X9_entry_35 (fun q35 => ?_) (fun q35 => ?_)
        · refine m_ldc2 F kc_X9_184 e_X9_entry_61 ?_
          exact m_lret F hQ e_X9_entry_64 (⟨rfl, fun q h1 => rfl⟩)
        · refine m_iload_n F rfl e_X9_entry_38 ?_
          refine m_aload_n F rfl e_X9_entry_39 ?_
          refine m_get F e_X9_entry_40 fl_X9_16 a0 rfl ?_
          refine m_get F e_X9_entry_43 fl_X9_186 e1.head rfl ?_
          refine m_callV F e_X9_entry_46 (k_kept0 (x_l X) V _ _ (b + 7) e1.jn) cb_X3_kept ml_X9_196 im_X3_kept se_X3_kept e1.jn rfl rfl (rest := [.int x]) rfl (Nat.le_of_ble_eq_true rfl) ⟨Nat.le_of_ble_eq_true rfl, Nat.le_of_ble_eq_true rfl⟩ ⟨Nat.le_of_ble_eq_true rfl, Nat.le_of_ble_eq_true rfl⟩ (k' := 0) (z' := 0) (N' := N) rfl rfl rfl (fun r τ hp => ?_)
          obtain ⟨rfl, hτ⟩ := hp
          rw [hτ]
          clear hτ
          refine m_icmp_ge F e_X9_entry_49 (fun q49 => ?_) (fun q49 => absurd q49 (fun n => n (Int32.not_lt.mp q35)))
          refine m_ldc2 F kc_X9_184 e_X9_entry_61 ?_
          exact m_lret F hQ e_X9_entry_64 (⟨rfl, fun q h1 => rfl⟩)
      · refine m_iconst F (v := 1) (by decide) e_X9_entry_27 ?_
        refine m_goto F e_X9_entry_28 ?_
        refine m_istore F (lv' := [(4, .int 1), (3, .int 0), (0, .ref b), (1, .int x), (2, .int y)]) e_X9_entry_32 (by decide) rfl ?_
        refine m_iload_n F rfl e_X9_entry_34 ?_
        refine m_if_lt F e_X9_entry_35 (fun q35 => ?_) (fun q35 => ?_)
        · refine m_ldc2 F kc_X9_184 e_X9_entry_61 ?_
          exact m_lret F hQ e_X9_entry_64 (⟨rfl, fun q h1 => rfl⟩)
        · refine m_iload_n F rfl e_X9_entry_38 ?_
          refine m_aload_n F rfl e_X9_entry_39 ?_
          refine m_get F e_X9_entry_40 fl_X9_16 a0 rfl ?_
          refine m_get F e_X9_entry_43 fl_X9_186 e1.head rfl ?_
          refine m_callV F e_X9_entry_46 (k_kept0 (x_l X) V _ _ (b + 7) e1.jn) cb_X3_kept ml_X9_196 im_X3_kept se_X3_kept e1.jn rfl rfl (rest := [.int x]) rfl (Nat.le_of_ble_eq_true rfl) ⟨Nat.le_of_ble_eq_true rfl, Nat.le_of_ble_eq_true rfl⟩ ⟨Nat.le_of_ble_eq_true rfl, Nat.le_of_ble_eq_true rfl⟩ (k' := 0) (z' := 0) (N' := N) rfl rfl rfl (fun r τ hp => ?_)
          obtain ⟨rfl, hτ⟩ := hp
          rw [hτ]
          clear hτ
          refine m_icmp_ge F e_X9_entry_49 (fun q49 => ?_) (fun q49 => absurd q49 (fun n => n (Int32.not_lt.mp q35)))
          refine m_ldc2 F kc_X9_184 e_X9_entry_61 ?_
          exact m_lret F hQ e_X9_entry_64 (⟨rfl, fun q h1 => rfl⟩)
  · refine m_iload_n F rfl e_X9_entry_4 ?_
    refine m_iconst F (v := 3) (by decide) e_X9_entry_5 ?_
    refine m_icmp_ge F e_X9_entry_6 (fun q6 => ?_) (fun q6 => ?_)
    · refine m_iconst F (v := 0) (by decide) e_X9_entry_13 ?_
      refine m_istore_n F (lv' := [(3, .int 0), (0, .ref b), (1, .int x), (2, .int y)]) e_X9_entry_14 (by decide) rfl ?_
      refine m_iload_n F rfl e_X9_entry_15 ?_
      refine m_bipush F (v := 10) (by decide) e_X9_entry_16 ?_
      refine m_icmp_lt F e_X9_entry_18 (fun q18 => ?_) (fun q18 => ?_)
      · refine m_iconst F (v := 0) (by decide) e_X9_entry_31 ?_
        refine m_istore F (lv' := [(4, .int 0), (3, .int 0), (0, .ref b), (1, .int x), (2, .int y)]) e_X9_entry_32 (by decide) rfl ?_
        refine m_iload_n F rfl e_X9_entry_34 ?_
        refine m_if_lt F e_X9_entry_35 (fun q35 => ?_) (fun q35 => ?_)
        · refine m_ldc2 F kc_X9_184 e_X9_entry_61 ?_
          exact m_lret F hQ e_X9_entry_64 (⟨rfl, fun q h1 => rfl⟩)
        · refine m_iload_n F rfl e_X9_entry_38 ?_
          refine m_aload_n F rfl e_X9_entry_39 ?_
          refine m_get F e_X9_entry_40 fl_X9_16 a0 rfl ?_
          refine m_get F e_X9_entry_43 fl_X9_186 e1.head rfl ?_
          refine m_callV F e_X9_entry_46 (k_kept0 (x_l X) V _ _ (b + 7) e1.jn) cb_X3_kept ml_X9_196 im_X3_kept se_X3_kept e1.jn rfl rfl (rest := [.int x]) rfl (Nat.le_of_ble_eq_true rfl) ⟨Nat.le_of_ble_eq_true rfl, Nat.le_of_ble_eq_true rfl⟩ ⟨Nat.le_of_ble_eq_true rfl, Nat.le_of_ble_eq_true rfl⟩ (k' := 0) (z' := 0) (N' := N) rfl rfl rfl (fun r τ hp => ?_)
          obtain ⟨rfl, hτ⟩ := hp
          rw [hτ]
          clear hτ
          refine m_icmp_ge F e_X9_entry_49 (fun q49 => ?_) (fun q49 => absurd q49 (fun n => n (Int32.not_lt.mp q35)))
          refine m_ldc2 F kc_X9_184 e_X9_entry_61 ?_
          exact m_lret F hQ e_X9_entry_64 (⟨rfl, fun q h1 => rfl⟩)
      · refine m_iload_n F rfl e_X9_entry_21 ?_
        refine m_bipush F (v := 16) (by decide) e_X9_entry_22 ?_
        refine m_icmp_ge F e_X9_entry_24 (fun q24 => ?_) (fun q24 => ?_)
        · refine m_iconst F (v := 0) (by decide) e_X9_entry_31 ?_
          refine m_istore F (lv' := [(4, .int 0), (3, .int 0), (0, .ref b), (1, .int x), (2, .int y)]) e_X9_entry_32 (by decide) rfl ?_
          refine m_iload_n F rfl e_X9_entry_34 ?_
          refine m_if_lt F e_X9_entry_35 (fun q35 => ?_) (fun q35 => ?_)
          · refine m_ldc2 F kc_X9_184 e_X9_entry_61 ?_
            exact m_lret F hQ e_X9_entry_64 (⟨rfl, fun q h1 => rfl⟩)
          · refine m_iload_n F rfl e_X9_entry_38 ?_
            refine m_aload_n F rfl e_X9_entry_39 ?_
            refine m_get F e_X9_entry_40 fl_X9_16 a0 rfl ?_
            refine m_get F e_X9_entry_43 fl_X9_186 e1.head rfl ?_
            refine m_callV F e_X9_entry_46 (k_kept0 (x_l X) V _ _ (b + 7) e1.jn) cb_X3_kept ml_X9_196 im_X3_kept se_X3_kept e1.jn rfl rfl (rest := [.int x]) rfl (Nat.le_of_ble_eq_true rfl) ⟨Nat.le_of_ble_eq_true rfl, Nat.le_of_ble_eq_true rfl⟩ ⟨Nat.le_of_ble_eq_true rfl, Nat.le_of_ble_eq_true rfl⟩ (k' := 0) (z' := 0) (N' := N) rfl rfl rfl (fun r τ hp => ?_)
            obtain ⟨rfl, hτ⟩ := hp
            rw [hτ]
            clear hτ
            refine m_icmp_ge F e_X9_entry_49 (fun q49 => ?_) (fun q49 => absurd q49 (fun n => n (Int32.not_lt.mp q35)))
            refine m_ldc2 F kc_X9_184 e_X9_entry_61 ?_
            exact m_lret F hQ e_X9_entry_64 (⟨rfl, fun q h1 => rfl⟩)
        · refine m_iconst F (v := 1) (by decide) e_X9_entry_27 ?_
          refine m_goto F e_X9_entry_28 ?_
          refine m_istore F (lv' := [(4, .int 1), (3, .int 0), (0, .ref b), (1, .int x), (2, .int y)]) e_X9_entry_32 (by decide) rfl ?_
          refine m_iload_n F rfl e_X9_entry_34 ?_
          refine m_if_lt F e_X9_entry_35 (fun q35 => ?_) (fun q35 => ?_)
          · refine m_ldc2 F kc_X9_184 e_X9_entry_61 ?_
            exact m_lret F hQ e_X9_entry_64 (⟨rfl, fun q h1 => rfl⟩)
          · refine m_iload_n F rfl e_X9_entry_38 ?_
            refine m_aload_n F rfl e_X9_entry_39 ?_
            refine m_get F e_X9_entry_40 fl_X9_16 a0 rfl ?_
            refine m_get F e_X9_entry_43 fl_X9_186 e1.head rfl ?_
            refine m_callV F e_X9_entry_46 (k_kept0 (x_l X) V _ _ (b + 7) e1.jn) cb_X3_kept ml_X9_196 im_X3_kept se_X3_kept e1.jn rfl rfl (rest := [.int x]) rfl (Nat.le_of_ble_eq_true rfl) ⟨Nat.le_of_ble_eq_true rfl, Nat.le_of_ble_eq_true rfl⟩ ⟨Nat.le_of_ble_eq_true rfl, Nat.le_of_ble_eq_true rfl⟩ (k' := 0) (z' := 0) (N' := N) rfl rfl rfl (fun r τ hp => ?_)
            obtain ⟨rfl, hτ⟩ := hp
            rw [hτ]
            clear hτ
            refine m_icmp_ge F e_X9_entry_49 (fun q49 => ?_) (fun q49 => absurd q49 (fun n => n (Int32.not_lt.mp q35)))
            refine m_ldc2 F kc_X9_184 e_X9_entry_61 ?_
            exact m_lret F hQ e_X9_entry_64 (⟨rfl, fun q h1 => rfl⟩)
    · refine m_iconst F (v := 1) (by decide) e_X9_entry_9 ?_
      refine m_goto F e_X9_entry_10 ?_
      refine m_istore_n F (lv' := [(3, .int 1), (0, .ref b), (1, .int x), (2, .int y)]) e_X9_entry_14 (by decide) rfl ?_
      refine m_iload_n F rfl e_X9_entry_15 ?_
      refine m_bipush F (v := 10) (by decide) e_X9_entry_16 ?_
      refine m_icmp_lt F e_X9_entry_18 (fun q18 => ?_) (fun q18 => ?_)
      · refine m_iconst F (v := 0) (by decide) e_X9_entry_31 ?_
        refine m_istore F (lv' := [(4, .int 0), (3, .int 1), (0, .ref b), (1, .int x), (2, .int y)]) e_X9_entry_32 (by decide) rfl ?_
        refine m_iload_n F rfl e_X9_entry_34 ?_
        refine m_if_lt F e_X9_entry_35 (fun q35 => ?_) (fun q35 => ?_)
        · refine m_ldc2 F kc_X9_184 e_X9_entry_61 ?_
          exact m_lret F hQ e_X9_entry_64 (⟨rfl, fun q h1 => rfl⟩)
        · refine m_iload_n F rfl e_X9_entry_38 ?_
          refine m_aload_n F rfl e_X9_entry_39 ?_
          refine m_get F e_X9_entry_40 fl_X9_16 a0 rfl ?_
          refine m_get F e_X9_entry_43 fl_X9_186 e1.head rfl ?_
          refine m_callV F e_X9_entry_46 (k_kept0 (x_l X) V _ _ (b + 7) e1.jn) cb_X3_kept ml_X9_196 im_X3_kept se_X3_kept e1.jn rfl rfl (rest := [.int x]) rfl (Nat.le_of_ble_eq_true rfl) ⟨Nat.le_of_ble_eq_true rfl, Nat.le_of_ble_eq_true rfl⟩ ⟨Nat.le_of_ble_eq_true rfl, Nat.le_of_ble_eq_true rfl⟩ (k' := 0) (z' := 0) (N' := N) rfl rfl rfl (fun r τ hp => ?_)
          obtain ⟨rfl, hτ⟩ := hp
          rw [hτ]
          clear hτ
          refine m_icmp_ge F e_X9_entry_49 (fun q49 => ?_) (fun q49 => absurd q49 (fun n => n (Int32.not_lt.mp q35)))
          refine m_ldc2 F kc_X9_184 e_X9_entry_61 ?_
          exact m_lret F hQ e_X9_entry_64 (⟨rfl, fun q h1 => rfl⟩)
      · refine m_iload_n F rfl e_X9_entry_21 ?_
        refine m_bipush F (v := 16) (by decide) e_X9_entry_22 ?_
        refine m_icmp_ge F e_X9_entry_24 (fun q24 => ?_) (fun q24 => ?_)
        · refine m_iconst F (v := 0) (by decide) e_X9_entry_31 ?_
          refine m_istore F (lv' := [(4, .int 0), (3, .int 1), (0, .ref b), (1, .int x), (2, .int y)]) e_X9_entry_32 (by decide) rfl ?_
          refine m_iload_n F rfl e_X9_entry_34 ?_
          refine m_if_lt F e_X9_entry_35 (fun q35 => ?_) (fun q35 => ?_)
          · refine m_ldc2 F kc_X9_184 e_X9_entry_61 ?_
            exact m_lret F hQ e_X9_entry_64 (⟨rfl, fun q h1 => rfl⟩)
          · refine m_iload_n F rfl e_X9_entry_38 ?_
            refine m_aload_n F rfl e_X9_entry_39 ?_
            refine m_get F e_X9_entry_40 fl_X9_16 a0 rfl ?_
            refine m_get F e_X9_entry_43 fl_X9_186 e1.head rfl ?_
            refine m_callV F e_X9_entry_46 (k_kept0 (x_l X) V _ _ (b + 7) e1.jn) cb_X3_kept ml_X9_196 im_X3_kept se_X3_kept e1.jn rfl rfl (rest := [.int x]) rfl (Nat.le_of_ble_eq_true rfl) ⟨Nat.le_of_ble_eq_true rfl, Nat.le_of_ble_eq_true rfl⟩ ⟨Nat.le_of_ble_eq_true rfl, Nat.le_of_ble_eq_true rfl⟩ (k' := 0) (z' := 0) (N' := N) rfl rfl rfl (fun r τ hp => ?_)
            obtain ⟨rfl, hτ⟩ := hp
            rw [hτ]
            clear hτ
            refine m_icmp_ge F e_X9_entry_49 (fun q49 => ?_) (fun q49 => absurd q49 (fun n => n (Int32.not_lt.mp q35)))
            refine m_ldc2 F kc_X9_184 e_X9_entry_61 ?_
            exact m_lret F hQ e_X9_entry_64 (⟨rfl, fun q h1 => rfl⟩)
        · refine m_iconst F (v := 1) (by decide) e_X9_entry_27 ?_
          refine m_goto F e_X9_entry_28 ?_
          refine m_istore F (lv' := [(4, .int 1), (3, .int 1), (0, .ref b), (1, .int x), (2, .int y)]) e_X9_entry_32 (by decide) rfl ?_
          refine m_iload_n F rfl e_X9_entry_34 ?_
          refine m_if_lt F e_X9_entry_35 (fun q35 => ?_) (fun q35 => ?_)
          · refine m_ldc2 F kc_X9_184 e_X9_entry_61 ?_
            exact m_lret F hQ e_X9_entry_64 (⟨rfl, fun q h1 => rfl⟩)
          · refine m_iload_n F rfl e_X9_entry_38 ?_
            refine m_aload_n F rfl e_X9_entry_39 ?_
            refine m_get F e_X9_entry_40 fl_X9_16 a0 rfl ?_
            refine m_get F e_X9_entry_43 fl_X9_186 e1.head rfl ?_
            refine m_callV F e_X9_entry_46 (k_kept0 (x_l X) V _ _ (b + 7) e1.jn) cb_X3_kept ml_X9_196 im_X3_kept se_X3_kept e1.jn rfl rfl (rest := [.int x]) rfl (Nat.le_of_ble_eq_true rfl) ⟨Nat.le_of_ble_eq_true rfl, Nat.le_of_ble_eq_true rfl⟩ ⟨Nat.le_of_ble_eq_true rfl, Nat.le_of_ble_eq_true rfl⟩ (k' := 0) (z' := 0) (N' := N) rfl rfl rfl (fun r τ hp => ?_)
            obtain ⟨rfl, hτ⟩ := hp
            rw [hτ]
            clear hτ
            refine m_icmp_ge F e_X9_entry_49 (fun q49 => ?_) (fun q49 => absurd q49 (fun n => n (Int32.not_lt.mp q35)))
            refine m_ldc2 F kc_X9_184 e_X9_entry_61 ?_
            exact m_lret F hQ e_X9_entry_64 (⟨rfl, fun q h1 => rfl⟩)
set_option maxRecDepth 20000 in
theorem k_isIndex (l : Launch) (V : VX) (N : Nat) (σ : Mem) (x : Int32)  : Ct l V yX9_isIndex cX9_isIndex 1 (some .boolean) 0 0 0 N σ [.int x] (fun r τ => r = some (.int (if x < 500 ∨ 2000 < x then 0 else 1)) ∧ τ = σ) := by
  refine Ct.of (by decide) (Nat.le_of_ble_eq_true rfl) [(0, .int x)] rfl (fun X hX F hQ => ?_)
  refine m_iload_n F rfl e_X9_isIndex_0 ?_
  refine m_sipush F (v := 500) (by decide) e_X9_isIndex_1 ?_
  refine m_icmp_lt F e_X9_isIndex_4 (fun q4 => ?_) (fun q4 => ?_)
  · refine m_iconst F (v := 0) (by decide) e_X9_isIndex_18 ?_
    exact m_zret F hQ e_X9_isIndex_19 (by decide) (⟨by rw [if_pos (Or.inl q4)], rfl⟩)
  · refine m_iload_n F rfl e_X9_isIndex_7 ?_
    refine m_sipush F (v := 2000) (by decide) e_X9_isIndex_8 ?_
    refine m_icmp_gt F e_X9_isIndex_11 (fun q11 => ?_) (fun q11 => ?_)
    · refine m_iconst F (v := 0) (by decide) e_X9_isIndex_18 ?_
      exact m_zret F hQ e_X9_isIndex_19 (by decide) (⟨by rw [if_pos (Or.inr q11)], rfl⟩)
    · refine m_iconst F (v := 1) (by decide) e_X9_isIndex_14 ?_
      refine m_goto F e_X9_isIndex_15 ?_
      exact m_zret F hQ e_X9_isIndex_19 (by decide) (⟨by rw [if_neg (fun h => h.elim q4 q11)], rfl⟩)
set_option maxRecDepth 20000 in
theorem k_isSort (l : Launch) (V : VX) (N : Nat) (σ : Mem) (x : Int32)  : Ct l V yX9_isSort cX9_isSort 1 (some .boolean) 0 0 0 N σ [.int x] (fun r τ => r = some (.int (if x < 0 ∨ 6 ≤ x then 0 else 1)) ∧ τ = σ) := by
  refine Ct.of (by decide) (Nat.le_of_ble_eq_true rfl) [(0, .int x)] rfl (fun X hX F hQ => ?_)
  refine m_iload_n F rfl e_X9_isSort_0 ?_
  refine m_if_lt F e_X9_isSort_1 (fun q1 => ?_) (fun q1 => ?_)
  · refine m_iconst F (v := 0) (by decide) e_X9_isSort_14 ?_
    exact m_zret F hQ e_X9_isSort_15 (by decide) (⟨by rw [if_pos (Or.inl q1)], rfl⟩)
  · refine m_iload_n F rfl e_X9_isSort_4 ?_
    refine m_bipush F (v := 6) (by decide) e_X9_isSort_5 ?_
    refine m_icmp_ge F e_X9_isSort_7 (fun q7 => ?_) (fun q7 => ?_)
    · refine m_iconst F (v := 0) (by decide) e_X9_isSort_14 ?_
      exact m_zret F hQ e_X9_isSort_15 (by decide) (⟨by rw [if_pos (Or.inr q7)], rfl⟩)
    · refine m_iconst F (v := 1) (by decide) e_X9_isSort_10 ?_
      refine m_goto F e_X9_isSort_11 ?_
      exact m_zret F hQ e_X9_isSort_15 (by decide) (⟨by rw [if_neg (fun h => h.elim q1 q7)], rfl⟩)
set_option maxRecDepth 20000 in
theorem ldg_sum (l : Launch) (V : VX) (N : Nat) (σ : Mem) (b : Nat) (x y : Int32) (hZ : LLz V σ b) : Ct l V yX9_sum cX9_sum 7 (some .long) 2 0 0 N σ [.ref b, .int x, .int y] (fun r τ => r = some (.long (if x < 0 ∨ 5 < x ∨ y < 0 ∨ 5 < y then NOA else 0)) ∧ ∀ q : Nat, b + 1457 ≤ q → τ q = σ q) := by
  refine Ct.of (by decide) (Nat.le_of_ble_eq_true rfl) [(0, .ref b), (1, .int x), (2, .int y)] rfl (fun X hX F hQ => ?_)
  obtain ⟨a0, a1, a2, a3, a4, a5, a6, a7, b0, b1, b2, b3⟩ := hZ
  have e1 := b0.eb
  have e2 := b1.eb
  have e3 := b2.eb
  have pst : ∀ j, j < 20 → ∃ pj, EB V σ (b + 197 + 63 * j) pj := fun j hj => ⟨0, (b3 j hj).eb⟩
  refine m_iload_n F rfl e_X9_sum_0 ?_
  refine m_if_lt F e_X9_sum_1 (fun q1 => ?_) (fun q1 => ?_)
  · refine m_ldc2 F kc_X9_184 e_X9_sum_17 ?_
    exact m_lret F hQ e_X9_sum_20 (⟨by rw [if_pos (Or.inl q1)]; rfl, fun q h1 => rfl⟩)
  · refine m_iload_n F rfl e_X9_sum_4 ?_
    refine m_bipush F (v := 6) (by decide) e_X9_sum_5 ?_
    refine m_icmp_ge F e_X9_sum_7 (fun q7 => ?_) (fun q7 => ?_)
    · refine m_ldc2 F kc_X9_184 e_X9_sum_17 ?_
      exact m_lret F hQ e_X9_sum_20 (⟨by rw [if_pos (Or.inr (Or.inl (le6.mp q7)))]; rfl, fun q h1 => rfl⟩)
    · refine m_iload_n F rfl e_X9_sum_10 ?_
      by_cases hx9 : y < 0 ∨ 6 ≤ y
      · refine m_callS F e_X9_sum_11 (k_isSort (x_l X) V _ _ y) cb_X9_isSort ml_X9_281 sm_X9_isSort rfl (rest := []) rfl (Nat.le_of_ble_eq_true rfl) ⟨Nat.le_of_ble_eq_true rfl, Nat.le_of_ble_eq_true rfl⟩ ⟨Nat.le_of_ble_eq_true rfl, Nat.le_of_ble_eq_true rfl⟩ (k' := 0) (z' := 0) (N' := N) rfl rfl rfl (fun r τ hp => ?_)
        obtain ⟨rfl, hτ⟩ := hp
        rw [hτ]
        clear hτ
        refine Wm.topE (w := 0) (if_pos hx9) ?_
        refine m_if_ne F e_X9_sum_14 (fun q => absurd (by decide) q) (fun _ => ?_)
        refine m_ldc2 F kc_X9_184 e_X9_sum_17 ?_
        exact m_lret F hQ e_X9_sum_20 (⟨by rw [if_pos (Or.inr (Or.inr (hx9.elim (fun h => Or.inl h) (fun h => Or.inr (le6.mp h)))))]; rfl, fun q h1 => rfl⟩)
      · refine m_callS F e_X9_sum_11 (k_isSort (x_l X) V _ _ y) cb_X9_isSort ml_X9_281 sm_X9_isSort rfl (rest := []) rfl (Nat.le_of_ble_eq_true rfl) ⟨Nat.le_of_ble_eq_true rfl, Nat.le_of_ble_eq_true rfl⟩ ⟨Nat.le_of_ble_eq_true rfl, Nat.le_of_ble_eq_true rfl⟩ (k' := 0) (z' := 0) (N' := N) rfl rfl rfl (fun r τ hp => ?_)
        obtain ⟨rfl, hτ⟩ := hp
        rw [hτ]
        clear hτ
        refine Wm.topE (w := 1) (if_neg hx9) ?_
        refine m_if_ne F e_X9_sum_14 (fun _ => ?_) (fun q => absurd q (by decide))
        refine m_lconst F (v := 0) (by decide) e_X9_sum_21 ?_
        refine m_lstore_n F (lv' := [(3, .long 0), (0, .ref b), (1, .int x), (2, .int y)]) e_X9_sum_22 (by decide) rfl ?_
        refine m_aload_n F rfl e_X9_sum_23 ?_
        refine m_get F e_X9_sum_24 fl_X9_16 a0 rfl ?_
        refine m_get F e_X9_sum_27 fl_X9_186 e1.head rfl ?_
        refine m_callV F e_X9_sum_30 (k_kept0 (x_l X) V _ _ (b + 7) e1.jn) cb_X3_kept ml_X9_196 im_X3_kept se_X3_kept e1.jn rfl rfl (rest := []) rfl (Nat.le_of_ble_eq_true rfl) ⟨Nat.le_of_ble_eq_true rfl, Nat.le_of_ble_eq_true rfl⟩ ⟨Nat.le_of_ble_eq_true rfl, Nat.le_of_ble_eq_true rfl⟩ (k' := 0) (z' := 0) (N' := N) rfl rfl rfl (fun r τ hp => ?_)
        obtain ⟨rfl, hτ⟩ := hp
        rw [hτ]
        clear hτ
        refine m_istore F (lv' := [(5, .int 0), (3, .long 0), (0, .ref b), (1, .int x), (2, .int y)]) e_X9_sum_33 (by decide) rfl ?_
        refine m_iconst F (v := 0) (by decide) e_X9_sum_35 ?_
        refine m_istore F (lv' := [(6, .int 0), (5, .int 0), (3, .long 0), (0, .ref b), (1, .int x), (2, .int y)]) e_X9_sum_36 (by decide) rfl ?_
        refine m_iload F rfl e_X9_sum_38 ?_
        refine m_iload F rfl e_X9_sum_40 ?_
        refine m_icmp_ge F e_X9_sum_42 (fun _ => ?_) (fun q => absurd (by decide) q)
        refine m_lload_n F rfl e_X9_sum_88 ?_
        exact m_lret F hQ e_X9_sum_89 (⟨by rw [if_neg (fun h => h.elim q1 (fun h => h.elim (fun h => q7 (le6.mpr h)) (fun h => h.elim (fun h => hx9 (Or.inl h)) (fun h => hx9 (Or.inr (le6.mpr h))))))], fun q h1 => rfl⟩)
set_option maxRecDepth 20000 in
theorem k_indexNowZb (l : Launch) (V : VX) (N : Nat) (σ : Mem) (b : Nat) (h_b : σ b = some (ob 1 [.ref (b + 1), .ref (b + 2), .ref (b + 3), .ref (b + 4), .ref (b + 5), .ref (b + 8), .ref (b + 9), .ref (b + 10), .int 0, .int 0, .int 0, .int 0, .int 0])) (h_i : σ (b + 3) = some (aI V 100 (fun _ => 1000))) : Ct l V yX2_indexNow cX2_indexNow 1 (some .int) 0 0 0 N σ [.ref b] (fun r τ => r = some (.int 1000) ∧ τ = σ) := by
  refine Ct.of (by decide) (Nat.le_of_ble_eq_true rfl) [(0, .ref b)] rfl (fun X hX F hQ => ?_)
  refine m_aload_n F rfl e_X2_indexNow_0 ?_
  refine m_get F e_X2_indexNow_1 fl_X2_68 h_b rfl ?_
  refine m_if_lt F e_X2_indexNow_4 (fun q => absurd q (by decide)) (fun _ => ?_)
  refine m_aload_n F rfl e_X2_indexNow_7 ?_
  refine m_get F e_X2_indexNow_8 fl_X2_68 h_b rfl ?_
  refine m_bipush F (v := 99) (by decide) e_X2_indexNow_11 ?_
  refine m_icmp_gt F e_X2_indexNow_13 (fun q => absurd q (by decide)) (fun _ => ?_)
  refine m_aload_n F rfl e_X2_indexNow_16 ?_
  refine m_get F e_X2_indexNow_17 fl_X2_23 h_b rfl ?_
  refine m_aload_n F rfl e_X2_indexNow_20 ?_
  refine m_get F e_X2_indexNow_21 fl_X2_68 h_b rfl ?_
  refine m_iald F (j := 0) e_X2_indexNow_24 h_i (by decide) (by unfold vp_in; decide) ?_
  refine Wm.topE (w := 1000) (rfl) ?_
  refine m_goto F e_X2_indexNow_25 ?_
  exact m_iret F hQ e_X2_indexNow_31 (⟨rfl, rfl⟩)
set_option maxRecDepth 20000 in
theorem ldg_become (l : Launch) (V : VX) (N : Nat) (σ : Mem) (b : Nat) (x : Int32) (hZ : LLz V σ b) : Ct l V yX9_become cX9_become 3 (some .int) 4 0 0 N σ [.ref b, .int x] (fun r τ => r = some (.int (if x < 500 ∨ 2000 < x then -1 else 1000)) ∧ ∀ q : Nat, b + 1457 ≤ q → τ q = σ q) := by
  refine Ct.of (by decide) (Nat.le_of_ble_eq_true rfl) [(0, .ref b), (1, .int x)] rfl (fun X hX F hQ => ?_)
  obtain ⟨a0, a1, a2, a3, a4, a5, a6, a7, b0, b1, b2, b3⟩ := hZ
  have e1 := b0.eb
  have e2 := b1.eb
  have e3 := b2.eb
  have pst : ∀ j, j < 20 → ∃ pj, EB V σ (b + 197 + 63 * j) pj := fun j hj => ⟨0, (b3 j hj).eb⟩
  refine m_iload_n F rfl e_X9_become_0 ?_
  by_cases hx9 : x < 500 ∨ 2000 < x
  · refine m_callS F e_X9_become_1 (k_isIndex (x_l X) V _ _ x) cb_X9_isIndex ml_X9_262 sm_X9_isIndex rfl (rest := []) rfl (Nat.le_of_ble_eq_true rfl) ⟨Nat.le_of_ble_eq_true rfl, Nat.le_of_ble_eq_true rfl⟩ ⟨Nat.le_of_ble_eq_true rfl, Nat.le_of_ble_eq_true rfl⟩ (k' := 0) (z' := 0) (N' := N) rfl rfl rfl (fun r τ hp => ?_)
    obtain ⟨rfl, hτ⟩ := hp
    rw [hτ]
    clear hτ
    refine Wm.topE (w := 0) (if_pos hx9) ?_
    refine m_if_ne F e_X9_become_4 (fun q => absurd (by decide) q) (fun _ => ?_)
    refine m_iconst F (v := (-1)) (by decide) e_X9_become_7 ?_
    exact m_iret F hQ e_X9_become_8 (⟨by rw [if_pos hx9], fun q h1 => rfl⟩)
  · refine m_callS F e_X9_become_1 (k_isIndex (x_l X) V _ _ x) cb_X9_isIndex ml_X9_262 sm_X9_isIndex rfl (rest := []) rfl (Nat.le_of_ble_eq_true rfl) ⟨Nat.le_of_ble_eq_true rfl, Nat.le_of_ble_eq_true rfl⟩ ⟨Nat.le_of_ble_eq_true rfl, Nat.le_of_ble_eq_true rfl⟩ (k' := 0) (z' := 0) (N' := N) rfl rfl rfl (fun r τ hp => ?_)
    obtain ⟨rfl, hτ⟩ := hp
    rw [hτ]
    clear hτ
    refine Wm.topE (w := 1) (if_neg hx9) ?_
    refine m_if_ne F e_X9_become_4 (fun _ => ?_) (fun q => absurd q (by decide))
    refine m_aload_n F rfl e_X9_become_9 ?_
    refine m_callV F e_X9_become_10 (k_remember0 (x_l X) V _ _ b 0 0 0 ⟨a0, a4, a5, a6, a7, e1, e2, pst⟩ (by omega)) cb_X9_remember ml_X9_97 im_X9_remember se_X9_remember a0 rfl rfl (rest := []) rfl (Nat.le_of_ble_eq_true rfl) ⟨Nat.le_of_ble_eq_true rfl, Nat.le_of_ble_eq_true rfl⟩ ⟨Nat.le_of_ble_eq_true rfl, Nat.le_of_ble_eq_true rfl⟩ (k' := 0) (z' := 0) (N' := N) rfl rfl rfl (fun r τ100 hp => ?_)
    obtain ⟨rfl, lg101, hf102⟩ := hp
    have fr103 : ∀ q : Nat, b + 1457 ≤ q → τ100 q = σ q := fun q h1 => (hf102 q (Or.inl h1)).trans rfl
    have fr103x : τ100 (b + 5) = some (aI V 100 (fun _ => 1000)) := (hf102 (b + 5) (by omega)).trans b0.1.2.2.2.1
    obtain ⟨o104, pr104, f1_104, f2_104, f3_104, e1_104, e2_104, ps_104⟩ := lg101
    refine m_aload_n F rfl e_X9_become_13 ?_
    refine m_get F e_X9_become_14 fl_X9_16 o104 rfl ?_
    refine m_callV F e_X9_become_17 (k_indexNowZb (x_l X) V _ _ (b + 2) e1_104.head fr103x) cb_X2_indexNow ml_X9_265 im_X2_indexNow se_X2_indexNow e1_104.head rfl rfl (rest := []) rfl (Nat.le_of_ble_eq_true rfl) ⟨Nat.le_of_ble_eq_true rfl, Nat.le_of_ble_eq_true rfl⟩ ⟨Nat.le_of_ble_eq_true rfl, Nat.le_of_ble_eq_true rfl⟩ (k' := 0) (z' := 0) (N' := N) rfl rfl rfl (fun r τ hp => ?_)
    obtain ⟨rfl, hτ⟩ := hp
    rw [hτ]
    clear hτ
    refine m_istore_n F (lv' := [(2, .int 1000), (0, .ref b), (1, .int x)]) e_X9_become_20 (by decide) rfl ?_
    refine m_aload_n F rfl e_X9_become_21 ?_
    refine m_get F e_X9_become_22 fl_X9_16 o104 rfl ?_
    refine m_iload_n F rfl e_X9_become_25 ?_
    refine m_callV F e_X9_become_26 (k_changeIndex0 (x_l X) V _ _ (b + 2) 0 x e1_104 (by omega)) cb_X2_changeIndex ml_X9_268 im_X2_changeIndex se_X2_changeIndex e1_104.head rfl rfl (rest := []) rfl (Nat.le_of_ble_eq_true rfl) ⟨Nat.le_of_ble_eq_true rfl, Nat.le_of_ble_eq_true rfl⟩ ⟨Nat.le_of_ble_eq_true rfl, Nat.le_of_ble_eq_true rfl⟩ (k' := 0) (z' := 0) (N' := N) rfl rfl rfl (fun r τ105 hp => ?_)
    obtain ⟨rfl, eb106, hf107⟩ := hp
    have g108 : τ105 b = some (ob 7 [.ref (b + 1), .int 0, .ref (b + 2), .ref (b + 65), .ref (b + 128), .ref (b + 130), .int 0, .ref (b + 193), .int 0, .int (nI 1), .ref (b + 194), .ref (b + 195), .ref (b + 196)]) := (hf107 b (by omega)).trans o104
    have g109 : τ105 (b + 193) = some (aR 6 V 20 (pfB b)) := (hf107 (b + 193) (by omega)).trans pr104
    have g110 : τ105 (b + 194) = some (ob 0 [.long 0, .long 0]) := (hf107 (b + 194) (by omega)).trans f1_104
    have g111 : τ105 (b + 195) = some (ob 0 [.long 0, .long 0]) := (hf107 (b + 195) (by omega)).trans f2_104
    have g112 : τ105 (b + 196) = some (ob 0 [.long 0, .long 0]) := (hf107 (b + 196) (by omega)).trans f3_104
    have eb113 : EB V τ105 (b + 65) 0 := e2_104.keep (fun x g1 g2 => (hf107 x (by omega)).trans rfl)
    have pst114 : ∀ j, j < 20 → ∃ pj, EB V τ105 (b + 197 + 63 * j) pj := fun j hj => (ps_104 j hj).elim (fun pj h9 => ⟨pj, h9.keep (fun x g1 g2 => (hf107 x (by omega)).trans rfl)⟩)
    have fr115 : ∀ q : Nat, b + 1457 ≤ q → τ105 q = σ q := fun q h1 => (hf107 q (by omega)).trans (fr103 q h1)
    refine m_iload_n F rfl e_X9_become_29 ?_
    exact m_iret F hQ e_X9_become_30 (⟨by rw [if_neg hx9], fun q h1 => (fr115 q h1)⟩)
set_option maxRecDepth 20000 in
theorem ldg_all (l : Launch) (V : VX) (N : Nat) (σ : Mem) (b : Nat) (x : Int32) (hZ : LLz V σ b) : Ct l V yX9_all cX9_all 2 (some .long) 4 0 0 N σ [.ref b, .int x] (fun r τ => r = some (.long (if x < 0 ∨ 72 < x then -1 else 0)) ∧ ∀ q : Nat, b + 1457 ≤ q → τ q = σ q) := by
  refine Ct.of (by decide) (Nat.le_of_ble_eq_true rfl) [(0, .ref b), (1, .int x)] rfl (fun X hX F hQ => ?_)
  obtain ⟨a0, a1, a2, a3, a4, a5, a6, a7, b0, b1, b2, b3⟩ := hZ
  have e1 := b0.eb
  have e2 := b1.eb
  have e3 := b2.eb
  have pst : ∀ j, j < 20 → ∃ pj, EB V σ (b + 197 + 63 * j) pj := fun j hj => ⟨0, (b3 j hj).eb⟩
  refine m_iload_n F rfl e_X9_all_0 ?_
  refine m_if_lt F e_X9_all_1 (fun q1 => ?_) (fun q1 => ?_)
  · refine m_ldc2 F kc_X9_149 e_X9_all_10 ?_
    exact m_lret F hQ e_X9_all_13 (⟨by rw [if_pos (Or.inl q1)], fun q h1 => rfl⟩)
  · refine m_iload_n F rfl e_X9_all_4 ?_
    refine m_bipush F (v := 72) (by decide) e_X9_all_5 ?_
    refine m_icmp_le F e_X9_all_7 (fun q7 => ?_) (fun q7 => ?_)
    · obtain ⟨k, hk, ek⟩ := nI_of2 (x := x) (M := 72) (n := 72) (by decide) q1 q7
      subst ek
      refine m_aload_n F rfl e_X9_all_14 ?_
      refine m_iload_n F rfl e_X9_all_15 ?_
      refine m_callV F e_X9_all_16 (k_bookIn0 (x_l X) V _ _ b 0 0 0 k ⟨a0, a4, a5, a6, a7, e1, e2, pst⟩ (by omega)) cb_X9_bookIn ml_X9_271 im_X9_bookIn se_X9_bookIn a0 rfl rfl (rest := []) rfl (Nat.le_of_ble_eq_true rfl) ⟨Nat.le_of_ble_eq_true rfl, Nat.le_of_ble_eq_true rfl⟩ ⟨Nat.le_of_ble_eq_true rfl, Nat.le_of_ble_eq_true rfl⟩ (k' := 0) (z' := 0) (N' := N) rfl rfl rfl (fun r τ116 hp => ?_)
      obtain ⟨rfl, lg117, hf118⟩ := hp
      have fr119 : ∀ q : Nat, b + 1457 ≤ q → τ116 q = σ q := fun q h1 => (hf118 q h1).trans rfl
      obtain ⟨o120, pr120, f1_120, f2_120, f3_120, e1_120, e2_120, ps_120⟩ := lg117
      refine m_aload_n F rfl e_X9_all_19 ?_
      refine m_get F e_X9_all_20 fl_X9_42 o120 rfl ?_
      refine m_callV F e_X9_all_23 (k_countAll0 (x_l X) V _ _ (b + 65) (0 + k) (b + 194) e2_120 (by omega) f1_120) cb_X2_countAllOwed ml_X9_278 im_X2_countAllOwed se_X2_countAllOwed e2_120.head rfl rfl (rest := []) rfl (Nat.le_of_ble_eq_true rfl) ⟨Nat.le_of_ble_eq_true rfl, Nat.le_of_ble_eq_true rfl⟩ ⟨Nat.le_of_ble_eq_true rfl, Nat.le_of_ble_eq_true rfl⟩ (k' := 0) (z' := 0) (N' := N) rfl rfl rfl (fun r τ hp => ?_)
      obtain ⟨rfl, rfl⟩ := hp
      refine m_aload_n F rfl e_X9_all_26 ?_
      refine m_get F e_X9_all_27 fl_X9_42 (ru_ne (by omega) o120) rfl ?_
      refine m_callV F e_X9_all_30 (k_asLong0 (x_l X) V _ _ (b + 194) ru_eq) cb_X1_asLong ml_X9_157 im_X1_asLong se_X1_asLong ru_eq rfl rfl (rest := []) rfl (Nat.le_of_ble_eq_true rfl) ⟨Nat.le_of_ble_eq_true rfl, Nat.le_of_ble_eq_true rfl⟩ ⟨Nat.le_of_ble_eq_true rfl, Nat.le_of_ble_eq_true rfl⟩ (k' := 0) (z' := 0) (N' := N) rfl rfl rfl (fun r τ hp => ?_)
      obtain ⟨rfl, rfl⟩ := hp
      exact m_lret F hQ e_X9_all_33 (⟨by rw [if_neg (fun h => h.elim q1 (fun h => absurd q7 (Int32.not_le.mpr h)))], fun q h1 => (ru_ne (by omega) (fr119 q h1))⟩)
    · refine m_ldc2 F kc_X9_149 e_X9_all_10 ?_
      exact m_lret F hQ e_X9_all_13 (⟨by rw [if_pos (Or.inr (Int32.not_le.mp q7))], fun q h1 => rfl⟩)
set_option maxRecDepth 20000 in
theorem ldg_count (l : Launch) (V : VX) (N : Nat) (σ : Mem) (b : Nat) (x : Int32) (hZ : LLz V σ b) : Ct l V yX9_count cX9_count 2 (some .int) 2 0 0 N σ [.ref b, .int x] (fun r τ => r = some (.int (if x.toInt < 0 ∨ 7 < x.toInt then -1 else 0)) ∧ ∀ q : Nat, b + 1457 ≤ q → τ q = σ q) := by
  refine Ct.of (by decide) (Nat.le_of_ble_eq_true rfl) [(0, .ref b), (1, .int x)] rfl (fun X hX F hQ => ?_)
  obtain ⟨a0, a1, a2, a3, a4, a5, a6, a7, b0, b1, b2, b3⟩ := hZ
  have e1 := b0.eb
  have e2 := b1.eb
  have e3 := b2.eb
  have pst : ∀ j, j < 20 → ∃ pj, EB V σ (b + 197 + 63 * j) pj := fun j hj => ⟨0, (b3 j hj).eb⟩
  refine m_iload_n F rfl e_X9_count_0 ?_
  by_cases hlo : x.toInt < 0
  · refine m_tableOut F e_X9_count_1 (Or.inl hlo) (tgt := 112) (by decide) ?_
    refine m_iconst F (v := (-1)) (by decide) e_X9_count_112 ?_
    exact m_iret F hQ e_X9_count_113 (⟨by rw [if_pos (Or.inl hlo)], fun q h1 => rfl⟩)
  by_cases hhi : 7 < x.toInt
  · refine m_tableOut F e_X9_count_1 (Or.inr hhi) (tgt := 112) (by decide) ?_
    refine m_iconst F (v := (-1)) (by decide) e_X9_count_112 ?_
    exact m_iret F hQ e_X9_count_113 (⟨by rw [if_pos (Or.inr hhi)], fun q h1 => rfl⟩)
  have hx : x.toInt = 0 ∨ x.toInt = 1 ∨ x.toInt = 2 ∨ x.toInt = 3 ∨ x.toInt = 4 ∨ x.toInt = 5 ∨ x.toInt = 6 ∨ x.toInt = 7 := by omega
  rcases hx with hx | hx | hx | hx | hx | hx | hx | hx
  · refine m_tableIn F e_X9_count_1 hlo hhi (off := 47) (by rw [hx]; rfl) (tgt := 48) (by decide) ?_
    refine m_aload_n F rfl e_X9_count_48 ?_
    refine m_get F e_X9_count_49 fl_X9_16 a0 rfl ?_
    refine m_get F e_X9_count_52 fl_X9_358 e1.head rfl ?_
    exact m_iret F hQ e_X9_count_55 (⟨by rw [if_neg (fun h => h.elim hlo hhi)] <;> rfl, fun q h1 => rfl⟩)
  · refine m_tableIn F e_X9_count_1 hlo hhi (off := 55) (by rw [hx]; rfl) (tgt := 56) (by decide) ?_
    refine m_aload_n F rfl e_X9_count_56 ?_
    refine m_get F e_X9_count_57 fl_X9_16 a0 rfl ?_
    refine m_get F e_X9_count_60 fl_X9_377 e1.head rfl ?_
    exact m_iret F hQ e_X9_count_63 (⟨by rw [if_neg (fun h => h.elim hlo hhi)] <;> rfl, fun q h1 => rfl⟩)
  · refine m_tableIn F e_X9_count_1 hlo hhi (off := 63) (by rw [hx]; rfl) (tgt := 64) (by decide) ?_
    refine m_aload_n F rfl e_X9_count_64 ?_
    refine m_get F e_X9_count_65 fl_X9_16 a0 rfl ?_
    refine m_get F e_X9_count_68 fl_X9_94 e1.head rfl ?_
    exact m_iret F hQ e_X9_count_71 (⟨by rw [if_neg (fun h => h.elim hlo hhi)] <;> rfl, fun q h1 => rfl⟩)
  · refine m_tableIn F e_X9_count_1 hlo hhi (off := 71) (by rw [hx]; rfl) (tgt := 72) (by decide) ?_
    refine m_aload_n F rfl e_X9_count_72 ?_
    refine m_get F e_X9_count_73 fl_X9_16 a0 rfl ?_
    refine m_get F e_X9_count_76 fl_X9_186 e1.head rfl ?_
    refine m_callV F e_X9_count_79 (k_kept0 (x_l X) V _ _ (b + 7) e1.jn) cb_X3_kept ml_X9_196 im_X3_kept se_X3_kept e1.jn rfl rfl (rest := []) rfl (Nat.le_of_ble_eq_true rfl) ⟨Nat.le_of_ble_eq_true rfl, Nat.le_of_ble_eq_true rfl⟩ ⟨Nat.le_of_ble_eq_true rfl, Nat.le_of_ble_eq_true rfl⟩ (k' := 0) (z' := 0) (N' := N) rfl rfl rfl (fun r τ hp => ?_)
    obtain ⟨rfl, hτ⟩ := hp
    rw [hτ]
    clear hτ
    exact m_iret F hQ e_X9_count_82 (⟨by rw [if_neg (fun h => h.elim hlo hhi)] <;> rfl, fun q h1 => rfl⟩)
  · refine m_tableIn F e_X9_count_1 hlo hhi (off := 82) (by rw [hx]; rfl) (tgt := 83) (by decide) ?_
    refine m_aload_n F rfl e_X9_count_83 ?_
    refine m_get F e_X9_count_84 fl_X9_16 a0 rfl ?_
    refine m_get F e_X9_count_87 fl_X9_186 e1.head rfl ?_
    refine m_get F e_X9_count_90 fl_X9_380 e1.jn rfl ?_
    exact m_iret F hQ e_X9_count_93 (⟨by rw [if_neg (fun h => h.elim hlo hhi)] <;> rfl, fun q h1 => rfl⟩)
  · refine m_tableIn F e_X9_count_1 hlo hhi (off := 93) (by rw [hx]; rfl) (tgt := 94) (by decide) ?_
    refine m_aload_n F rfl e_X9_count_94 ?_
    refine m_get F e_X9_count_95 fl_X9_16 a0 rfl ?_
    refine m_callV F e_X9_count_98 (k_runningLeases0 (x_l X) V _ _ (b + 2) 0  e1) cb_X2_runningLeases ml_X9_383 im_X2_runningLeases se_X2_runningLeases e1.head rfl rfl (rest := []) rfl (Nat.le_of_ble_eq_true rfl) ⟨Nat.le_of_ble_eq_true rfl, Nat.le_of_ble_eq_true rfl⟩ ⟨Nat.le_of_ble_eq_true rfl, Nat.le_of_ble_eq_true rfl⟩ (k' := 0) (z' := 0) (N' := N) rfl rfl rfl (fun r τ hp => ?_)
    obtain ⟨rfl, hτ⟩ := hp
    rw [hτ]
    clear hτ
    exact m_iret F hQ e_X9_count_101 (⟨by rw [if_neg (fun h => h.elim hlo hhi)] <;> rfl, fun q h1 => rfl⟩)
  · refine m_tableIn F e_X9_count_1 hlo hhi (off := 101) (by rw [hx]; rfl) (tgt := 102) (by decide) ?_
    refine m_aload_n F rfl e_X9_count_102 ?_
    refine m_get F e_X9_count_103 fl_X9_368 a0 rfl ?_
    exact m_iret F hQ e_X9_count_106 (⟨by rw [if_neg (fun h => h.elim hlo hhi)] <;> rfl, fun q h1 => rfl⟩)
  · refine m_tableIn F e_X9_count_1 hlo hhi (off := 106) (by rw [hx]; rfl) (tgt := 107) (by decide) ?_
    refine m_aload_n F rfl e_X9_count_107 ?_
    refine m_get F e_X9_count_108 fl_X9_52 a0 rfl ?_
    exact m_iret F hQ e_X9_count_111 (⟨by rw [if_neg (fun h => h.elim hlo hhi)] <;> rfl, fun q h1 => rfl⟩)
