theorem upd_c {c : Int32} {j : Nat} : upd (fun _ => c) j c = (fun _ => c) := by
  funext q; simp [upd]
theorem updL_c {c : Int64} {j : Nat} : vp_updL (fun _ => c) j c = (fun _ => c) := by
  funext q; simp [vp_updL]
def sZ : Nat → Int64 := fillJ (fun _ => 0) 1000 644 744
theorem e_X10_leases_0 : DC cX10_leases 0 1 1 (.aload_n 0) := ⟨by decide +kernel, rfl⟩
theorem e_X10_leases_1 : DC cX10_leases 1 3 4 (.getfield 13) := ⟨by decide +kernel, rfl⟩
theorem uw_8 : ∀ w ∈ u_ws RX10 TX10 37, w ∈ tb := tb_all [1497, 1499, 1501, 1503, 1505, 1507, 1509, 1511, 1513, 1515, 1517, 1519, 1521, 1523, 1525, 1527, 1529, 1531, 1533, 1535, 1537, 1539, 1541, 1543, 1545, 1547, 1549, 1551, 1553, 1555, 1557, 1559, 1561, 1563, 1565, 1567, 1569] (by decide +kernel) (by decide +kernel)
theorem fl_X10_13 : FL RX10 13 8 3 := ⟨RX10, TX10, 37, rfl, by decide, uw_8, tb_in 1463 (by decide +kernel) (by decide +kernel), rfl⟩
theorem e_X10_leases_4 : DC cX10_leases 4 1 5 (.iconst 0) := ⟨by decide +kernel, rfl⟩
theorem e_X10_leases_5 : DC cX10_leases 5 1 6 (.iaload) := ⟨by decide +kernel, rfl⟩
theorem e_X10_leases_6 : DC cX10_leases 6 1 7 (.ireturn) := ⟨by decide +kernel, rfl⟩
theorem e_X10_reading_0 : DC cX10_reading 0 1 1 (.aload_n 0) := ⟨by decide +kernel, rfl⟩
theorem e_X10_reading_1 : DC cX10_reading 1 3 4 (.getfield 13) := ⟨by decide +kernel, rfl⟩
theorem e_X10_reading_4 : DC cX10_reading 4 1 5 (.iconst 5) := ⟨by decide +kernel, rfl⟩
theorem e_X10_reading_5 : DC cX10_reading 5 1 6 (.iload_n 1) := ⟨by decide +kernel, rfl⟩
theorem e_X10_reading_6 : DC cX10_reading 6 1 7 (.iadd) := ⟨by decide +kernel, rfl⟩
theorem e_X10_reading_7 : DC cX10_reading 7 1 8 (.iaload) := ⟨by decide +kernel, rfl⟩
theorem e_X10_reading_8 : DC cX10_reading 8 1 9 (.ireturn) := ⟨by decide +kernel, rfl⟩
theorem e_X10_reads_0 : DC cX10_reads 0 1 1 (.aload_n 0) := ⟨by decide +kernel, rfl⟩
theorem e_X10_reads_1 : DC cX10_reads 1 3 4 (.getfield 13) := ⟨by decide +kernel, rfl⟩
theorem e_X10_reads_4 : DC cX10_reads 4 1 5 (.iconst 5) := ⟨by decide +kernel, rfl⟩
theorem e_X10_reads_5 : DC cX10_reads 5 1 6 (.iload_n 1) := ⟨by decide +kernel, rfl⟩
theorem e_X10_reads_6 : DC cX10_reads 6 1 7 (.iadd) := ⟨by decide +kernel, rfl⟩
theorem e_X10_reads_7 : DC cX10_reads 7 1 8 (.iload_n 2) := ⟨by decide +kernel, rfl⟩
theorem e_X10_reads_8 : DC cX10_reads 8 1 9 (.iastore) := ⟨by decide +kernel, rfl⟩
theorem e_X10_reads_9 : DC cX10_reads 9 1 10 (.return_) := ⟨by decide +kernel, rfl⟩
theorem e_X10_freshText_0 : DC cX10_freshText 0 1 1 (.iconst 0) := ⟨by decide +kernel, rfl⟩
theorem e_X10_freshText_1 : DC cX10_freshText 1 1 2 (.istore_n 1) := ⟨by decide +kernel, rfl⟩
theorem e_X10_freshText_2 : DC cX10_freshText 2 1 3 (.iload_n 1) := ⟨by decide +kernel, rfl⟩
theorem e_X10_freshText_3 : DC cX10_freshText 3 1 4 (.iconst 5) := ⟨by decide +kernel, rfl⟩
theorem e_X10_freshText_4 : DJ cX10_freshText 4 19 7 (.if_icmp .ge) := DJ.mk 15 (by decide +kernel) (by decide) rfl
theorem e_X10_freshText_7 : DC cX10_freshText 7 1 8 (.aload_n 0) := ⟨by decide +kernel, rfl⟩
theorem e_X10_freshText_8 : DC cX10_freshText 8 1 9 (.iload_n 1) := ⟨by decide +kernel, rfl⟩
theorem e_X10_freshText_9 : DC cX10_freshText 9 1 10 (.iconst 0) := ⟨by decide +kernel, rfl⟩
theorem e_X10_freshText_10 : DC cX10_freshText 10 3 13 (.invokevirtual 170) := ⟨by decide +kernel, rfl⟩
theorem cb_X10_reads : CB yX10_reads cX10_reads 3 none 2 := ⟨tb_in 1423 (by decide +kernel) (by decide +kernel), tb_in 10 (by decide +kernel) (by decide +kernel), by decide +kernel⟩
theorem ml_X10_170 : Cond.methodLink RX10 170 yX10_reads ∈ tb := tb_in 1420 (by decide +kernel) (by decide +kernel)
theorem im_X10_reads : Cond.instanceMethod yX10_reads ∈ tb := tb_in 1422 (by decide +kernel) (by decide +kernel)
theorem se_X10_reads : Cond.selects (yX10_reads).cls yX10_reads yX10_reads ∈ tb := tb_sel 9 (by decide +kernel) (by decide +kernel)
theorem e_X10_freshText_13 : DC cX10_freshText 13 3 16 (.iinc 1 1) := ⟨by decide +kernel, rfl⟩
theorem e_X10_freshText_16 : DJ cX10_freshText 16 2 19 .goto := DJ.mk (-14) (by decide +kernel) (by decide) rfl
theorem e_X10_freshText_19 : DC cX10_freshText 19 1 20 (.return_) := ⟨by decide +kernel, rfl⟩
theorem e_X10_takeText_179 : DC cX10_takeText 179 1 180 (.iload_n 1) := ⟨by decide +kernel, rfl⟩
theorem e_X10_takeText_180 : DC cX10_takeText 180 3 183 (.sipush 192) := ⟨by decide +kernel, rfl⟩
theorem e_X10_takeText_183 : DJ cX10_takeText 183 208 186 (.if_icmp .ge) := DJ.mk 25 (by decide +kernel) (by decide) rfl
theorem e_X10_takeText_208 : DC cX10_takeText 208 1 209 (.iconst 0) := ⟨by decide +kernel, rfl⟩
theorem e_X10_takeText_209 : DC cX10_takeText 209 1 210 (.istore_n 1) := ⟨by decide +kernel, rfl⟩
theorem e_X10_takeText_210 : DC cX10_takeText 210 1 211 (.iload_n 1) := ⟨by decide +kernel, rfl⟩
theorem e_X10_takeText_211 : DC cX10_takeText 211 2 213 (.bipush 8) := ⟨by decide +kernel, rfl⟩
theorem e_X10_takeText_213 : DJ cX10_takeText 213 252 216 (.if_icmp .ge) := DJ.mk 39 (by decide +kernel) (by decide) rfl
theorem e_X10_takeText_216 : DC cX10_takeText 216 1 217 (.aload_n 0) := ⟨by decide +kernel, rfl⟩
theorem e_X10_takeText_217 : DC cX10_takeText 217 3 220 (.getfield 40) := ⟨by decide +kernel, rfl⟩
theorem fl_X10_40 : FL RX10 40 8 12 := ⟨RX10, TX10, 37, rfl, by decide, uw_8, tb_in 1472 (by decide +kernel) (by decide +kernel), rfl⟩
theorem e_X10_takeText_220 : DC cX10_takeText 220 1 221 (.iload_n 1) := ⟨by decide +kernel, rfl⟩
theorem e_X10_takeText_221 : DC cX10_takeText 221 1 222 (.aload_n 0) := ⟨by decide +kernel, rfl⟩
theorem e_X10_takeText_222 : DC cX10_takeText 222 3 225 (.getfield 40) := ⟨by decide +kernel, rfl⟩
theorem e_X10_takeText_225 : DC cX10_takeText 225 2 227 (.bipush 8) := ⟨by decide +kernel, rfl⟩
theorem e_X10_takeText_227 : DC cX10_takeText 227 1 228 (.iload_n 1) := ⟨by decide +kernel, rfl⟩
theorem e_X10_takeText_228 : DC cX10_takeText 228 1 229 (.iadd) := ⟨by decide +kernel, rfl⟩
theorem e_X10_takeText_229 : DC cX10_takeText 229 1 230 (.iaload) := ⟨by decide +kernel, rfl⟩
theorem e_X10_takeText_230 : DC cX10_takeText 230 1 231 (.iastore) := ⟨by decide +kernel, rfl⟩
theorem e_X10_takeText_231 : DC cX10_takeText 231 1 232 (.aload_n 0) := ⟨by decide +kernel, rfl⟩
theorem e_X10_takeText_232 : DC cX10_takeText 232 3 235 (.getfield 43) := ⟨by decide +kernel, rfl⟩
theorem fl_X10_43 : FL RX10 43 8 13 := ⟨RX10, TX10, 37, rfl, by decide, uw_8, tb_in 1473 (by decide +kernel) (by decide +kernel), rfl⟩
theorem e_X10_takeText_235 : DC cX10_takeText 235 1 236 (.iload_n 1) := ⟨by decide +kernel, rfl⟩
theorem e_X10_takeText_236 : DC cX10_takeText 236 1 237 (.aload_n 0) := ⟨by decide +kernel, rfl⟩
theorem e_X10_takeText_237 : DC cX10_takeText 237 3 240 (.getfield 43) := ⟨by decide +kernel, rfl⟩
theorem e_X10_takeText_240 : DC cX10_takeText 240 2 242 (.bipush 8) := ⟨by decide +kernel, rfl⟩
theorem e_X10_takeText_242 : DC cX10_takeText 242 1 243 (.iload_n 1) := ⟨by decide +kernel, rfl⟩
theorem e_X10_takeText_243 : DC cX10_takeText 243 1 244 (.iadd) := ⟨by decide +kernel, rfl⟩
theorem e_X10_takeText_244 : DC cX10_takeText 244 1 245 (.iaload) := ⟨by decide +kernel, rfl⟩
theorem e_X10_takeText_245 : DC cX10_takeText 245 1 246 (.iastore) := ⟨by decide +kernel, rfl⟩
theorem e_X10_takeText_246 : DC cX10_takeText 246 3 249 (.iinc 1 1) := ⟨by decide +kernel, rfl⟩
theorem e_X10_takeText_249 : DJ cX10_takeText 249 210 252 .goto := DJ.mk (-39) (by decide +kernel) (by decide) rfl
theorem e_X10_takeText_252 : DC cX10_takeText 252 1 253 (.return_) := ⟨by decide +kernel, rfl⟩
theorem e_X10_takeText_186 : DC cX10_takeText 186 1 187 (.aload_n 0) := ⟨by decide +kernel, rfl⟩
theorem e_X10_takeText_187 : DC cX10_takeText 187 3 190 (.getfield 37) := ⟨by decide +kernel, rfl⟩
theorem fl_X10_37 : FL RX10 37 8 11 := ⟨RX10, TX10, 37, rfl, by decide, uw_8, tb_in 1471 (by decide +kernel) (by decide +kernel), rfl⟩
theorem e_X10_takeText_190 : DC cX10_takeText 190 1 191 (.iload_n 1) := ⟨by decide +kernel, rfl⟩
theorem e_X10_takeText_191 : DC cX10_takeText 191 1 192 (.aload_n 0) := ⟨by decide +kernel, rfl⟩
theorem e_X10_takeText_192 : DC cX10_takeText 192 3 195 (.getfield 37) := ⟨by decide +kernel, rfl⟩
theorem e_X10_takeText_195 : DC cX10_takeText 195 3 198 (.sipush 192) := ⟨by decide +kernel, rfl⟩
theorem e_X10_takeText_198 : DC cX10_takeText 198 1 199 (.iload_n 1) := ⟨by decide +kernel, rfl⟩
theorem e_X10_takeText_199 : DC cX10_takeText 199 1 200 (.iadd) := ⟨by decide +kernel, rfl⟩
theorem e_X10_takeText_200 : DC cX10_takeText 200 1 201 (.iaload) := ⟨by decide +kernel, rfl⟩
theorem e_X10_takeText_201 : DC cX10_takeText 201 1 202 (.iastore) := ⟨by decide +kernel, rfl⟩
theorem e_X10_takeText_202 : DC cX10_takeText 202 3 205 (.iinc 1 1) := ⟨by decide +kernel, rfl⟩
theorem e_X10_takeText_205 : DJ cX10_takeText 205 179 208 .goto := DJ.mk (-26) (by decide +kernel) (by decide) rfl
theorem e_X10_takeText_0 : DC cX10_takeText 0 1 1 (.iconst 0) := ⟨by decide +kernel, rfl⟩
theorem e_X10_takeText_1 : DC cX10_takeText 1 1 2 (.istore_n 1) := ⟨by decide +kernel, rfl⟩
theorem e_X10_takeText_2 : DC cX10_takeText 2 1 3 (.iload_n 1) := ⟨by decide +kernel, rfl⟩
theorem e_X10_takeText_3 : DC cX10_takeText 3 1 4 (.iconst 5) := ⟨by decide +kernel, rfl⟩
theorem e_X10_takeText_4 : DJ cX10_takeText 4 24 7 (.if_icmp .ge) := DJ.mk 20 (by decide +kernel) (by decide) rfl
theorem e_X10_takeText_7 : DC cX10_takeText 7 1 8 (.aload_n 0) := ⟨by decide +kernel, rfl⟩
theorem e_X10_takeText_8 : DC cX10_takeText 8 3 11 (.getfield 13) := ⟨by decide +kernel, rfl⟩
theorem e_X10_takeText_11 : DC cX10_takeText 11 1 12 (.iload_n 1) := ⟨by decide +kernel, rfl⟩
theorem e_X10_takeText_12 : DC cX10_takeText 12 1 13 (.aload_n 0) := ⟨by decide +kernel, rfl⟩
theorem e_X10_takeText_13 : DC cX10_takeText 13 1 14 (.iload_n 1) := ⟨by decide +kernel, rfl⟩
theorem e_X10_takeText_14 : DC cX10_takeText 14 3 17 (.invokevirtual 157) := ⟨by decide +kernel, rfl⟩
theorem cb_X10_reading : CB yX10_reading cX10_reading 2 (some .int) 1 := ⟨tb_in 1431 (by decide +kernel) (by decide +kernel), tb_in 10 (by decide +kernel) (by decide +kernel), by decide +kernel⟩
theorem ml_X10_157 : Cond.methodLink RX10 157 yX10_reading ∈ tb := tb_in 1428 (by decide +kernel) (by decide +kernel)
theorem im_X10_reading : Cond.instanceMethod yX10_reading ∈ tb := tb_in 1430 (by decide +kernel) (by decide +kernel)
theorem se_X10_reading : Cond.selects (yX10_reading).cls yX10_reading yX10_reading ∈ tb := tb_sel 11 (by decide +kernel) (by decide +kernel)
theorem e_X10_takeText_17 : DC cX10_takeText 17 1 18 (.iastore) := ⟨by decide +kernel, rfl⟩
theorem e_X10_takeText_18 : DC cX10_takeText 18 3 21 (.iinc 1 1) := ⟨by decide +kernel, rfl⟩
theorem e_X10_takeText_21 : DJ cX10_takeText 21 2 24 .goto := DJ.mk (-19) (by decide +kernel) (by decide) rfl
theorem e_X10_takeText_24 : DC cX10_takeText 24 1 25 (.iconst 0) := ⟨by decide +kernel, rfl⟩
theorem e_X10_takeText_25 : DC cX10_takeText 25 1 26 (.istore_n 1) := ⟨by decide +kernel, rfl⟩
theorem e_X10_takeText_26 : DC cX10_takeText 26 1 27 (.iload_n 1) := ⟨by decide +kernel, rfl⟩
theorem e_X10_takeText_27 : DC cX10_takeText 27 1 28 (.iconst 4) := ⟨by decide +kernel, rfl⟩
theorem e_X10_takeText_28 : DJ cX10_takeText 28 177 31 (.if_icmp .ge) := DJ.mk 149 (by decide +kernel) (by decide) rfl
theorem e_X10_takeText_31 : DC cX10_takeText 31 1 32 (.aload_n 0) := ⟨by decide +kernel, rfl⟩
theorem e_X10_takeText_32 : DC cX10_takeText 32 3 35 (.getfield 16) := ⟨by decide +kernel, rfl⟩
theorem fl_X10_16 : FL RX10 16 8 4 := ⟨RX10, TX10, 37, rfl, by decide, uw_8, tb_in 1464 (by decide +kernel) (by decide +kernel), rfl⟩
theorem e_X10_takeText_35 : DC cX10_takeText 35 1 36 (.iload_n 1) := ⟨by decide +kernel, rfl⟩
theorem e_X10_takeText_36 : DC cX10_takeText 36 1 37 (.aload_n 0) := ⟨by decide +kernel, rfl⟩
theorem e_X10_takeText_37 : DC cX10_takeText 37 3 40 (.getfield 16) := ⟨by decide +kernel, rfl⟩
theorem e_X10_takeText_40 : DC cX10_takeText 40 1 41 (.iconst 4) := ⟨by decide +kernel, rfl⟩
theorem e_X10_takeText_41 : DC cX10_takeText 41 1 42 (.iload_n 1) := ⟨by decide +kernel, rfl⟩
theorem e_X10_takeText_42 : DC cX10_takeText 42 1 43 (.iadd) := ⟨by decide +kernel, rfl⟩
theorem e_X10_takeText_43 : DC cX10_takeText 43 1 44 (.iaload) := ⟨by decide +kernel, rfl⟩
theorem e_X10_takeText_44 : DC cX10_takeText 44 1 45 (.iastore) := ⟨by decide +kernel, rfl⟩
theorem e_X10_takeText_45 : DC cX10_takeText 45 1 46 (.aload_n 0) := ⟨by decide +kernel, rfl⟩
theorem e_X10_takeText_46 : DC cX10_takeText 46 3 49 (.getfield 19) := ⟨by decide +kernel, rfl⟩
theorem fl_X10_19 : FL RX10 19 8 5 := ⟨RX10, TX10, 37, rfl, by decide, uw_8, tb_in 1465 (by decide +kernel) (by decide +kernel), rfl⟩
theorem e_X10_takeText_49 : DC cX10_takeText 49 1 50 (.iload_n 1) := ⟨by decide +kernel, rfl⟩
theorem e_X10_takeText_50 : DC cX10_takeText 50 1 51 (.aload_n 0) := ⟨by decide +kernel, rfl⟩
theorem e_X10_takeText_51 : DC cX10_takeText 51 3 54 (.getfield 19) := ⟨by decide +kernel, rfl⟩
theorem e_X10_takeText_54 : DC cX10_takeText 54 1 55 (.iconst 4) := ⟨by decide +kernel, rfl⟩
theorem e_X10_takeText_55 : DC cX10_takeText 55 1 56 (.iload_n 1) := ⟨by decide +kernel, rfl⟩
theorem e_X10_takeText_56 : DC cX10_takeText 56 1 57 (.iadd) := ⟨by decide +kernel, rfl⟩
theorem e_X10_takeText_57 : DC cX10_takeText 57 1 58 (.iaload) := ⟨by decide +kernel, rfl⟩
theorem e_X10_takeText_58 : DC cX10_takeText 58 1 59 (.iastore) := ⟨by decide +kernel, rfl⟩
theorem e_X10_takeText_59 : DC cX10_takeText 59 1 60 (.aload_n 0) := ⟨by decide +kernel, rfl⟩
theorem e_X10_takeText_60 : DC cX10_takeText 60 3 63 (.getfield 22) := ⟨by decide +kernel, rfl⟩
theorem fl_X10_22 : FL RX10 22 8 6 := ⟨RX10, TX10, 37, rfl, by decide, uw_8, tb_in 1466 (by decide +kernel) (by decide +kernel), rfl⟩
theorem e_X10_takeText_63 : DC cX10_takeText 63 1 64 (.iload_n 1) := ⟨by decide +kernel, rfl⟩
theorem e_X10_takeText_64 : DC cX10_takeText 64 1 65 (.aload_n 0) := ⟨by decide +kernel, rfl⟩
theorem e_X10_takeText_65 : DC cX10_takeText 65 3 68 (.getfield 22) := ⟨by decide +kernel, rfl⟩
theorem e_X10_takeText_68 : DC cX10_takeText 68 1 69 (.iconst 4) := ⟨by decide +kernel, rfl⟩
theorem e_X10_takeText_69 : DC cX10_takeText 69 1 70 (.iload_n 1) := ⟨by decide +kernel, rfl⟩
theorem e_X10_takeText_70 : DC cX10_takeText 70 1 71 (.iadd) := ⟨by decide +kernel, rfl⟩
theorem e_X10_takeText_71 : DC cX10_takeText 71 1 72 (.iaload) := ⟨by decide +kernel, rfl⟩
theorem e_X10_takeText_72 : DC cX10_takeText 72 1 73 (.iastore) := ⟨by decide +kernel, rfl⟩
theorem e_X10_takeText_73 : DC cX10_takeText 73 1 74 (.aload_n 0) := ⟨by decide +kernel, rfl⟩
theorem e_X10_takeText_74 : DC cX10_takeText 74 3 77 (.getfield 25) := ⟨by decide +kernel, rfl⟩
theorem fl_X10_25 : FL RX10 25 8 7 := ⟨RX10, TX10, 37, rfl, by decide, uw_8, tb_in 1467 (by decide +kernel) (by decide +kernel), rfl⟩
theorem e_X10_takeText_77 : DC cX10_takeText 77 1 78 (.iload_n 1) := ⟨by decide +kernel, rfl⟩
theorem e_X10_takeText_78 : DC cX10_takeText 78 1 79 (.aload_n 0) := ⟨by decide +kernel, rfl⟩
theorem e_X10_takeText_79 : DC cX10_takeText 79 3 82 (.getfield 25) := ⟨by decide +kernel, rfl⟩
theorem e_X10_takeText_82 : DC cX10_takeText 82 1 83 (.iconst 4) := ⟨by decide +kernel, rfl⟩
theorem e_X10_takeText_83 : DC cX10_takeText 83 1 84 (.iload_n 1) := ⟨by decide +kernel, rfl⟩
theorem e_X10_takeText_84 : DC cX10_takeText 84 1 85 (.iadd) := ⟨by decide +kernel, rfl⟩
theorem e_X10_takeText_85 : DC cX10_takeText 85 1 86 (.iaload) := ⟨by decide +kernel, rfl⟩
theorem e_X10_takeText_86 : DC cX10_takeText 86 1 87 (.iastore) := ⟨by decide +kernel, rfl⟩
theorem e_X10_takeText_87 : DC cX10_takeText 87 1 88 (.aload_n 0) := ⟨by decide +kernel, rfl⟩
theorem e_X10_takeText_88 : DC cX10_takeText 88 3 91 (.getfield 28) := ⟨by decide +kernel, rfl⟩
theorem fl_X10_28 : FL RX10 28 8 8 := ⟨RX10, TX10, 37, rfl, by decide, uw_8, tb_in 1468 (by decide +kernel) (by decide +kernel), rfl⟩
theorem e_X10_takeText_91 : DC cX10_takeText 91 1 92 (.iload_n 1) := ⟨by decide +kernel, rfl⟩
theorem e_X10_takeText_92 : DC cX10_takeText 92 1 93 (.aload_n 0) := ⟨by decide +kernel, rfl⟩
theorem e_X10_takeText_93 : DC cX10_takeText 93 3 96 (.getfield 28) := ⟨by decide +kernel, rfl⟩
theorem e_X10_takeText_96 : DC cX10_takeText 96 1 97 (.iconst 4) := ⟨by decide +kernel, rfl⟩
theorem e_X10_takeText_97 : DC cX10_takeText 97 1 98 (.iload_n 1) := ⟨by decide +kernel, rfl⟩
theorem e_X10_takeText_98 : DC cX10_takeText 98 1 99 (.iadd) := ⟨by decide +kernel, rfl⟩
theorem e_X10_takeText_99 : DC cX10_takeText 99 1 100 (.iaload) := ⟨by decide +kernel, rfl⟩
theorem e_X10_takeText_100 : DC cX10_takeText 100 1 101 (.iastore) := ⟨by decide +kernel, rfl⟩
theorem e_X10_takeText_101 : DC cX10_takeText 101 1 102 (.aload_n 0) := ⟨by decide +kernel, rfl⟩
theorem e_X10_takeText_102 : DC cX10_takeText 102 3 105 (.getfield 31) := ⟨by decide +kernel, rfl⟩
theorem fl_X10_31 : FL RX10 31 8 9 := ⟨RX10, TX10, 37, rfl, by decide, uw_8, tb_in 1469 (by decide +kernel) (by decide +kernel), rfl⟩
theorem e_X10_takeText_105 : DC cX10_takeText 105 1 106 (.iload_n 1) := ⟨by decide +kernel, rfl⟩
theorem e_X10_takeText_106 : DC cX10_takeText 106 1 107 (.aload_n 0) := ⟨by decide +kernel, rfl⟩
theorem e_X10_takeText_107 : DC cX10_takeText 107 3 110 (.getfield 31) := ⟨by decide +kernel, rfl⟩
theorem e_X10_takeText_110 : DC cX10_takeText 110 1 111 (.iconst 4) := ⟨by decide +kernel, rfl⟩
theorem e_X10_takeText_111 : DC cX10_takeText 111 1 112 (.iload_n 1) := ⟨by decide +kernel, rfl⟩
theorem e_X10_takeText_112 : DC cX10_takeText 112 1 113 (.iadd) := ⟨by decide +kernel, rfl⟩
theorem e_X10_takeText_113 : DC cX10_takeText 113 1 114 (.iaload) := ⟨by decide +kernel, rfl⟩
theorem e_X10_takeText_114 : DC cX10_takeText 114 1 115 (.iastore) := ⟨by decide +kernel, rfl⟩
theorem e_X10_takeText_115 : DC cX10_takeText 115 1 116 (.aload_n 0) := ⟨by decide +kernel, rfl⟩
theorem e_X10_takeText_116 : DC cX10_takeText 116 3 119 (.getfield 34) := ⟨by decide +kernel, rfl⟩
theorem fl_X10_34 : FL RX10 34 8 10 := ⟨RX10, TX10, 37, rfl, by decide, uw_8, tb_in 1470 (by decide +kernel) (by decide +kernel), rfl⟩
theorem e_X10_takeText_119 : DC cX10_takeText 119 1 120 (.iload_n 1) := ⟨by decide +kernel, rfl⟩
theorem e_X10_takeText_120 : DC cX10_takeText 120 1 121 (.aload_n 0) := ⟨by decide +kernel, rfl⟩
theorem e_X10_takeText_121 : DC cX10_takeText 121 3 124 (.getfield 34) := ⟨by decide +kernel, rfl⟩
theorem e_X10_takeText_124 : DC cX10_takeText 124 1 125 (.iconst 4) := ⟨by decide +kernel, rfl⟩
theorem e_X10_takeText_125 : DC cX10_takeText 125 1 126 (.iload_n 1) := ⟨by decide +kernel, rfl⟩
theorem e_X10_takeText_126 : DC cX10_takeText 126 1 127 (.iadd) := ⟨by decide +kernel, rfl⟩
theorem e_X10_takeText_127 : DC cX10_takeText 127 1 128 (.iaload) := ⟨by decide +kernel, rfl⟩
theorem e_X10_takeText_128 : DC cX10_takeText 128 1 129 (.iastore) := ⟨by decide +kernel, rfl⟩
theorem e_X10_takeText_129 : DC cX10_takeText 129 1 130 (.aload_n 0) := ⟨by decide +kernel, rfl⟩
theorem e_X10_takeText_130 : DC cX10_takeText 130 3 133 (.getfield 46) := ⟨by decide +kernel, rfl⟩
theorem fl_X10_46 : FL RX10 46 8 14 := ⟨RX10, TX10, 37, rfl, by decide, uw_8, tb_in 1474 (by decide +kernel) (by decide +kernel), rfl⟩
theorem e_X10_takeText_133 : DC cX10_takeText 133 1 134 (.iload_n 1) := ⟨by decide +kernel, rfl⟩
theorem e_X10_takeText_134 : DC cX10_takeText 134 1 135 (.aload_n 0) := ⟨by decide +kernel, rfl⟩
theorem e_X10_takeText_135 : DC cX10_takeText 135 3 138 (.getfield 46) := ⟨by decide +kernel, rfl⟩
theorem e_X10_takeText_138 : DC cX10_takeText 138 1 139 (.iconst 4) := ⟨by decide +kernel, rfl⟩
theorem e_X10_takeText_139 : DC cX10_takeText 139 1 140 (.iload_n 1) := ⟨by decide +kernel, rfl⟩
theorem e_X10_takeText_140 : DC cX10_takeText 140 1 141 (.iadd) := ⟨by decide +kernel, rfl⟩
theorem e_X10_takeText_141 : DC cX10_takeText 141 1 142 (.iaload) := ⟨by decide +kernel, rfl⟩
theorem e_X10_takeText_142 : DC cX10_takeText 142 1 143 (.iastore) := ⟨by decide +kernel, rfl⟩
theorem e_X10_takeText_143 : DC cX10_takeText 143 1 144 (.aload_n 0) := ⟨by decide +kernel, rfl⟩
theorem e_X10_takeText_144 : DC cX10_takeText 144 3 147 (.getfield 49) := ⟨by decide +kernel, rfl⟩
theorem fl_X10_49 : FL RX10 49 8 15 := ⟨RX10, TX10, 37, rfl, by decide, uw_8, tb_in 1475 (by decide +kernel) (by decide +kernel), rfl⟩
theorem e_X10_takeText_147 : DC cX10_takeText 147 1 148 (.iload_n 1) := ⟨by decide +kernel, rfl⟩
theorem e_X10_takeText_148 : DC cX10_takeText 148 1 149 (.aload_n 0) := ⟨by decide +kernel, rfl⟩
theorem e_X10_takeText_149 : DC cX10_takeText 149 3 152 (.getfield 49) := ⟨by decide +kernel, rfl⟩
theorem e_X10_takeText_152 : DC cX10_takeText 152 1 153 (.iconst 4) := ⟨by decide +kernel, rfl⟩
theorem e_X10_takeText_153 : DC cX10_takeText 153 1 154 (.iload_n 1) := ⟨by decide +kernel, rfl⟩
theorem e_X10_takeText_154 : DC cX10_takeText 154 1 155 (.iadd) := ⟨by decide +kernel, rfl⟩
theorem e_X10_takeText_155 : DC cX10_takeText 155 1 156 (.iaload) := ⟨by decide +kernel, rfl⟩
theorem e_X10_takeText_156 : DC cX10_takeText 156 1 157 (.iastore) := ⟨by decide +kernel, rfl⟩
theorem e_X10_takeText_157 : DC cX10_takeText 157 1 158 (.aload_n 0) := ⟨by decide +kernel, rfl⟩
theorem e_X10_takeText_158 : DC cX10_takeText 158 3 161 (.getfield 52) := ⟨by decide +kernel, rfl⟩
theorem fl_X10_52 : FL RX10 52 8 16 := ⟨RX10, TX10, 37, rfl, by decide, uw_8, tb_in 1476 (by decide +kernel) (by decide +kernel), rfl⟩
theorem e_X10_takeText_161 : DC cX10_takeText 161 1 162 (.iload_n 1) := ⟨by decide +kernel, rfl⟩
theorem e_X10_takeText_162 : DC cX10_takeText 162 1 163 (.aload_n 0) := ⟨by decide +kernel, rfl⟩
theorem e_X10_takeText_163 : DC cX10_takeText 163 3 166 (.getfield 52) := ⟨by decide +kernel, rfl⟩
theorem e_X10_takeText_166 : DC cX10_takeText 166 1 167 (.iconst 4) := ⟨by decide +kernel, rfl⟩
theorem e_X10_takeText_167 : DC cX10_takeText 167 1 168 (.iload_n 1) := ⟨by decide +kernel, rfl⟩
theorem e_X10_takeText_168 : DC cX10_takeText 168 1 169 (.iadd) := ⟨by decide +kernel, rfl⟩
theorem e_X10_takeText_169 : DC cX10_takeText 169 1 170 (.iaload) := ⟨by decide +kernel, rfl⟩
theorem e_X10_takeText_170 : DC cX10_takeText 170 1 171 (.iastore) := ⟨by decide +kernel, rfl⟩
theorem e_X10_takeText_171 : DC cX10_takeText 171 3 174 (.iinc 1 1) := ⟨by decide +kernel, rfl⟩
theorem e_X10_takeText_174 : DJ cX10_takeText 174 26 177 .goto := DJ.mk (-148) (by decide +kernel) (by decide) rfl
theorem e_X10_takeText_177 : DC cX10_takeText 177 1 178 (.iconst 0) := ⟨by decide +kernel, rfl⟩
theorem e_X10_takeText_178 : DC cX10_takeText 178 1 179 (.istore_n 1) := ⟨by decide +kernel, rfl⟩
theorem e_X10_begins_2 : DC cX10_begins 2 1 3 (.iload_n 1) := ⟨by decide +kernel, rfl⟩
theorem e_X10_begins_3 : DC cX10_begins 3 3 6 (.sipush 1113) := ⟨by decide +kernel, rfl⟩
theorem e_X10_begins_6 : DJ cX10_begins 6 22 9 (.if_icmp .ge) := DJ.mk 16 (by decide +kernel) (by decide) rfl
theorem e_X10_begins_9 : DC cX10_begins 9 1 10 (.aload_n 0) := ⟨by decide +kernel, rfl⟩
theorem e_X10_begins_10 : DC cX10_begins 10 3 13 (.getfield 59) := ⟨by decide +kernel, rfl⟩
theorem fl_X10_59 : FL RX10 59 8 27 := ⟨RX10, TX10, 37, rfl, by decide, uw_8, tb_in 1487 (by decide +kernel) (by decide +kernel), rfl⟩
theorem e_X10_begins_13 : DC cX10_begins 13 1 14 (.iload_n 1) := ⟨by decide +kernel, rfl⟩
theorem e_X10_begins_14 : DC cX10_begins 14 1 15 (.lconst 0) := ⟨by decide +kernel, rfl⟩
theorem e_X10_begins_15 : DC cX10_begins 15 1 16 (.lastore) := ⟨by decide +kernel, rfl⟩
theorem e_X10_begins_16 : DC cX10_begins 16 3 19 (.iinc 1 1) := ⟨by decide +kernel, rfl⟩
theorem e_X10_begins_19 : DJ cX10_begins 19 2 22 .goto := DJ.mk (-17) (by decide +kernel) (by decide) rfl
theorem e_X10_begins_24 : DC cX10_begins 24 1 25 (.iload_n 1) := ⟨by decide +kernel, rfl⟩
theorem e_X10_begins_25 : DC cX10_begins 25 2 27 (.bipush 99) := ⟨by decide +kernel, rfl⟩
theorem e_X10_begins_27 : DJ cX10_begins 27 94 30 (.if_icmp .gt) := DJ.mk 67 (by decide +kernel) (by decide) rfl
theorem e_X10_begins_94 : DC cX10_begins 94 1 95 (.iconst 0) := ⟨by decide +kernel, rfl⟩
theorem e_X10_begins_95 : DC cX10_begins 95 1 96 (.istore_n 1) := ⟨by decide +kernel, rfl⟩
theorem e_X10_begins_96 : DC cX10_begins 96 1 97 (.iload_n 1) := ⟨by decide +kernel, rfl⟩
theorem e_X10_begins_97 : DC cX10_begins 97 1 98 (.aload_n 0) := ⟨by decide +kernel, rfl⟩
theorem e_X10_begins_98 : DC cX10_begins 98 3 101 (.invokevirtual 221) := ⟨by decide +kernel, rfl⟩
theorem cb_X10_leases : CB yX10_leases cX10_leases 1 (some .int) 0 := ⟨tb_in 1440 (by decide +kernel) (by decide +kernel), tb_in 10 (by decide +kernel) (by decide +kernel), by decide +kernel⟩
theorem ml_X10_221 : Cond.methodLink RX10 221 yX10_leases ∈ tb := tb_in 1437 (by decide +kernel) (by decide +kernel)
theorem im_X10_leases : Cond.instanceMethod yX10_leases ∈ tb := tb_in 1439 (by decide +kernel) (by decide +kernel)
theorem se_X10_leases : Cond.selects (yX10_leases).cls yX10_leases yX10_leases ∈ tb := tb_sel 13 (by decide +kernel) (by decide +kernel)
theorem e_X10_begins_101 : DJ cX10_begins 101 274 104 (.if_icmp .ge) := DJ.mk 173 (by decide +kernel) (by decide) rfl
theorem e_X10_begins_274 : DC cX10_begins 274 1 275 (.return_) := ⟨by decide +kernel, rfl⟩
theorem e_X10_begins_30 : DC cX10_begins 30 1 31 (.aload_n 0) := ⟨by decide +kernel, rfl⟩
theorem e_X10_begins_31 : DC cX10_begins 31 3 34 (.getfield 59) := ⟨by decide +kernel, rfl⟩
theorem e_X10_begins_34 : DC cX10_begins 34 3 37 (.sipush 644) := ⟨by decide +kernel, rfl⟩
theorem e_X10_begins_37 : DC cX10_begins 37 1 38 (.iload_n 1) := ⟨by decide +kernel, rfl⟩
theorem e_X10_begins_38 : DC cX10_begins 38 1 39 (.iadd) := ⟨by decide +kernel, rfl⟩
theorem e_X10_begins_39 : DC cX10_begins 39 3 42 (.ldc2_w 224) := ⟨by decide +kernel, rfl⟩
theorem kc_X10_224 : Cond.constantLong RX10 224 1000 ∈ tb := tb_in 1436 (by decide +kernel) (by decide +kernel)
theorem e_X10_begins_42 : DC cX10_begins 42 1 43 (.lastore) := ⟨by decide +kernel, rfl⟩
theorem e_X10_begins_43 : DC cX10_begins 43 1 44 (.iconst 0) := ⟨by decide +kernel, rfl⟩
theorem e_X10_begins_44 : DC cX10_begins 44 1 45 (.istore_n 2) := ⟨by decide +kernel, rfl⟩
theorem e_X10_begins_45 : DC cX10_begins 45 1 46 (.iload_n 2) := ⟨by decide +kernel, rfl⟩
theorem e_X10_begins_46 : DC cX10_begins 46 1 47 (.aload_n 0) := ⟨by decide +kernel, rfl⟩
theorem e_X10_begins_47 : DC cX10_begins 47 3 50 (.getfield 13) := ⟨by decide +kernel, rfl⟩
theorem e_X10_begins_50 : DC cX10_begins 50 1 51 (.iconst 2) := ⟨by decide +kernel, rfl⟩
theorem e_X10_begins_51 : DC cX10_begins 51 1 52 (.iaload) := ⟨by decide +kernel, rfl⟩
theorem e_X10_begins_52 : DJ cX10_begins 52 88 55 (.if_icmp .ge) := DJ.mk 36 (by decide +kernel) (by decide) rfl
theorem e_X10_begins_88 : DC cX10_begins 88 3 91 (.iinc 1 1) := ⟨by decide +kernel, rfl⟩
theorem e_X10_begins_91 : DJ cX10_begins 91 24 94 .goto := DJ.mk (-67) (by decide +kernel) (by decide) rfl
theorem e_X10_begins_0 : DC cX10_begins 0 1 1 (.iconst 0) := ⟨by decide +kernel, rfl⟩
theorem e_X10_begins_1 : DC cX10_begins 1 1 2 (.istore_n 1) := ⟨by decide +kernel, rfl⟩
theorem e_X10_begins_22 : DC cX10_begins 22 1 23 (.iconst 0) := ⟨by decide +kernel, rfl⟩
theorem e_X10_begins_23 : DC cX10_begins 23 1 24 (.istore_n 1) := ⟨by decide +kernel, rfl⟩
set_option maxRecDepth 20000 in
theorem k_leases0 (l : Launch) (V : VX) (N : Nat) (σ : Mem) (m : Nat) (v_thrown v_taped v_lines v_size v_at v_place v_sort v_value v_fault v_faultPlace v_lastFault v_lastPlace v_undoable v_hasImage v_drawn : Int32)  (h_obj : σ m = some (ob 8 [.int v_thrown, .ref (m + 1), .int v_taped, .ref (m + 2), .ref (m + 3), .ref (m + 4), .ref (m + 5), .ref (m + 6), .ref (m + 7), .ref (m + 8), .ref (m + 9), .ref (m + 10), .ref (m + 11), .ref (m + 12), .ref (m + 13), .ref (m + 14), .ref (m + 15), .int v_lines, .int v_size, .int v_at, .int v_place, .int v_sort, .int v_value, .int v_fault, .int v_faultPlace, .int v_lastFault, .int v_lastPlace, .ref (m + 16), .ref (m + 17), .ref (m + 18), .ref (m + 19), .ref (m + 20), .int v_undoable, .int v_hasImage, .ref (m + 21), .ref (m + 22), .int v_drawn])) (h_number : σ (m + 2) = some (aI V 10 (fun _ => 0)))  : Ct l V yX10_leases cX10_leases 1 (some .int) 0 0 0 N σ [.ref m] (fun r τ => r = some (.int 0) ∧ τ = σ) := by
  refine Ct.of (by decide) (Nat.le_of_ble_eq_true rfl) [(0, .ref m)] rfl (fun X hX F hQ => ?_)
  refine m_aload_n F rfl e_X10_leases_0 ?_
  refine m_get F e_X10_leases_1 fl_X10_13 h_obj rfl ?_
  refine m_iconst F (v := 0) (by decide) e_X10_leases_4 ?_
  refine m_iald F (j := 0) e_X10_leases_5 h_number (by decide) (by unfold vp_in; decide) ?_
  refine Wm.topE (w := 0) (rfl) ?_
  exact m_iret F hQ e_X10_leases_6 (⟨rfl, rfl⟩)
set_option maxRecDepth 20000 in
theorem k_reading0 (l : Launch) (V : VX) (N : Nat) (σ : Mem) (m : Nat) (v_thrown v_taped v_lines v_size v_at v_place v_sort v_value v_fault v_faultPlace v_lastFault v_lastPlace v_undoable v_hasImage v_drawn : Int32) (i : Nat) (hi : i < 5) (h_obj : σ m = some (ob 8 [.int v_thrown, .ref (m + 1), .int v_taped, .ref (m + 2), .ref (m + 3), .ref (m + 4), .ref (m + 5), .ref (m + 6), .ref (m + 7), .ref (m + 8), .ref (m + 9), .ref (m + 10), .ref (m + 11), .ref (m + 12), .ref (m + 13), .ref (m + 14), .ref (m + 15), .int v_lines, .int v_size, .int v_at, .int v_place, .int v_sort, .int v_value, .int v_fault, .int v_faultPlace, .int v_lastFault, .int v_lastPlace, .ref (m + 16), .ref (m + 17), .ref (m + 18), .ref (m + 19), .ref (m + 20), .int v_undoable, .int v_hasImage, .ref (m + 21), .ref (m + 22), .int v_drawn])) (h_number : σ (m + 2) = some (aI V 10 (fun _ => 0)))  : Ct l V yX10_reading cX10_reading 2 (some .int) 0 0 0 N σ [.ref m, .int (nI i)] (fun r τ => r = some (.int 0) ∧ τ = σ) := by
  refine Ct.of (by decide) (Nat.le_of_ble_eq_true rfl) [(0, .ref m), (1, .int (nI i))] rfl (fun X hX F hQ => ?_)
  refine m_aload_n F rfl e_X10_reading_0 ?_
  refine m_get F e_X10_reading_1 fl_X10_13 h_obj rfl ?_
  refine m_iconst F (v := 5) (by decide) e_X10_reading_4 ?_
  refine m_iload_n F rfl e_X10_reading_5 ?_
  refine m_iadd F e_X10_reading_6 ?_
  refine Wm.topE (w := nI (5 + i)) (nI_add 5 i) ?_
  refine m_iald F (j := 5 + i) e_X10_reading_7 h_number (nI_clamp (by omega)) (vp_in_nI (by omega) (by omega)) ?_
  refine Wm.topE (w := 0) (rfl) ?_
  exact m_iret F hQ e_X10_reading_8 (⟨rfl, rfl⟩)
set_option maxRecDepth 20000 in
theorem k_reads0 (l : Launch) (V : VX) (N : Nat) (σ : Mem) (m : Nat) (v_thrown v_taped v_lines v_size v_at v_place v_sort v_value v_fault v_faultPlace v_lastFault v_lastPlace v_undoable v_hasImage v_drawn : Int32) (i : Nat) (hi : i < 5) (h_obj : σ m = some (ob 8 [.int v_thrown, .ref (m + 1), .int v_taped, .ref (m + 2), .ref (m + 3), .ref (m + 4), .ref (m + 5), .ref (m + 6), .ref (m + 7), .ref (m + 8), .ref (m + 9), .ref (m + 10), .ref (m + 11), .ref (m + 12), .ref (m + 13), .ref (m + 14), .ref (m + 15), .int v_lines, .int v_size, .int v_at, .int v_place, .int v_sort, .int v_value, .int v_fault, .int v_faultPlace, .int v_lastFault, .int v_lastPlace, .ref (m + 16), .ref (m + 17), .ref (m + 18), .ref (m + 19), .ref (m + 20), .int v_undoable, .int v_hasImage, .ref (m + 21), .ref (m + 22), .int v_drawn])) (h_number : σ (m + 2) = some (aI V 10 (fun _ => 0)))  : Ct l V yX10_reads cX10_reads 3 none 0 0 0 N σ [.ref m, .int (nI i), .int 0] (fun r τ => r = none ∧ τ = σ) := by
  refine Ct.of (by decide) (Nat.le_of_ble_eq_true rfl) [(0, .ref m), (1, .int (nI i)), (2, .int 0)] rfl (fun X hX F hQ => ?_)
  refine m_aload_n F rfl e_X10_reads_0 ?_
  refine m_get F e_X10_reads_1 fl_X10_13 h_obj rfl ?_
  refine m_iconst F (v := 5) (by decide) e_X10_reads_4 ?_
  refine m_iload_n F rfl e_X10_reads_5 ?_
  refine m_iadd F e_X10_reads_6 ?_
  refine Wm.topE (w := nI (5 + i)) (nI_add 5 i) ?_
  refine m_iload_n F rfl e_X10_reads_7 ?_
  refine m_iast F (j := 5 + i) e_X10_reads_8 h_number (nI_clamp (by omega)) (vp_in_nI (by omega) (by omega)) upd_c (up_self h_number).symm ?_
  exact m_vret F hQ e_X10_reads_9 (⟨rfl, rfl⟩)
set_option maxRecDepth 20000 in
theorem k_freshText0 (l : Launch) (V : VX) (N : Nat) (σ : Mem) (m : Nat) (v_thrown v_taped v_lines v_size v_at v_place v_sort v_value v_fault v_faultPlace v_lastFault v_lastPlace v_undoable v_hasImage v_drawn : Int32)  (h_obj : σ m = some (ob 8 [.int v_thrown, .ref (m + 1), .int v_taped, .ref (m + 2), .ref (m + 3), .ref (m + 4), .ref (m + 5), .ref (m + 6), .ref (m + 7), .ref (m + 8), .ref (m + 9), .ref (m + 10), .ref (m + 11), .ref (m + 12), .ref (m + 13), .ref (m + 14), .ref (m + 15), .int v_lines, .int v_size, .int v_at, .int v_place, .int v_sort, .int v_value, .int v_fault, .int v_faultPlace, .int v_lastFault, .int v_lastPlace, .ref (m + 16), .ref (m + 17), .ref (m + 18), .ref (m + 19), .ref (m + 20), .int v_undoable, .int v_hasImage, .ref (m + 21), .ref (m + 22), .int v_drawn])) (h_number : σ (m + 2) = some (aI V 10 (fun _ => 0)))  : Ct l V yX10_freshText cX10_freshText 2 none 1 0 0 N σ [.ref m] (fun r τ => r = none ∧ τ = σ) := by
  refine Ct.of (by decide) (Nat.le_of_ble_eq_true rfl) [(0, .ref m)] rfl (fun X hX F hQ => ?_)
  refine m_iconst F (v := 0) (by decide) e_X10_freshText_0 ?_
  refine m_istore_n F (lv' := [(1, .int 0), (0, .ref m)]) e_X10_freshText_1 (by decide) rfl ?_
  refine m_iload_n F rfl e_X10_freshText_2 ?_
  refine m_iconst F (v := 5) (by decide) e_X10_freshText_3 ?_
  refine m_icmp_ge F e_X10_freshText_4 (fun q => absurd q (by decide)) (fun _ => ?_)
  refine m_aload_n F rfl e_X10_freshText_7 ?_
  refine m_iload_n F rfl e_X10_freshText_8 ?_
  refine m_iconst F (v := 0) (by decide) e_X10_freshText_9 ?_
  refine m_callV F e_X10_freshText_10 (k_reads0 (x_l X) V _ _ m v_thrown v_taped v_lines v_size v_at v_place v_sort v_value v_fault v_faultPlace v_lastFault v_lastPlace v_undoable v_hasImage v_drawn 0 (by omega) h_obj h_number ) cb_X10_reads ml_X10_170 im_X10_reads se_X10_reads h_obj rfl rfl (rest := []) rfl (Nat.le_of_ble_eq_true rfl) ⟨Nat.le_of_ble_eq_true rfl, Nat.le_of_ble_eq_true rfl⟩ ⟨Nat.le_of_ble_eq_true rfl, Nat.le_of_ble_eq_true rfl⟩ (k' := 0) (z' := 0) (N' := N) rfl rfl rfl (fun r τ hp => ?_)
  obtain ⟨rfl, rfl⟩ := hp
  refine m_iinc F (v := 1) (lv' := [(1, .int 1), (0, .ref m)]) e_X10_freshText_13 rfl (by decide) (by decide) rfl ?_
  refine m_goto F e_X10_freshText_16 ?_
  refine m_iload_n F rfl e_X10_freshText_2 ?_
  refine m_iconst F (v := 5) (by decide) e_X10_freshText_3 ?_
  refine m_icmp_ge F e_X10_freshText_4 (fun q => absurd q (by decide)) (fun _ => ?_)
  refine m_aload_n F rfl e_X10_freshText_7 ?_
  refine m_iload_n F rfl e_X10_freshText_8 ?_
  refine m_iconst F (v := 0) (by decide) e_X10_freshText_9 ?_
  refine m_callV F e_X10_freshText_10 (k_reads0 (x_l X) V _ _ m v_thrown v_taped v_lines v_size v_at v_place v_sort v_value v_fault v_faultPlace v_lastFault v_lastPlace v_undoable v_hasImage v_drawn 1 (by omega) h_obj h_number ) cb_X10_reads ml_X10_170 im_X10_reads se_X10_reads h_obj rfl rfl (rest := []) rfl (Nat.le_of_ble_eq_true rfl) ⟨Nat.le_of_ble_eq_true rfl, Nat.le_of_ble_eq_true rfl⟩ ⟨Nat.le_of_ble_eq_true rfl, Nat.le_of_ble_eq_true rfl⟩ (k' := 0) (z' := 0) (N' := N) rfl rfl rfl (fun r τ hp => ?_)
  obtain ⟨rfl, rfl⟩ := hp
  refine m_iinc F (v := 2) (lv' := [(1, .int 2), (0, .ref m)]) e_X10_freshText_13 rfl (by decide) (by decide) rfl ?_
  refine m_goto F e_X10_freshText_16 ?_
  refine m_iload_n F rfl e_X10_freshText_2 ?_
  refine m_iconst F (v := 5) (by decide) e_X10_freshText_3 ?_
  refine m_icmp_ge F e_X10_freshText_4 (fun q => absurd q (by decide)) (fun _ => ?_)
  refine m_aload_n F rfl e_X10_freshText_7 ?_
  refine m_iload_n F rfl e_X10_freshText_8 ?_
  refine m_iconst F (v := 0) (by decide) e_X10_freshText_9 ?_
  refine m_callV F e_X10_freshText_10 (k_reads0 (x_l X) V _ _ m v_thrown v_taped v_lines v_size v_at v_place v_sort v_value v_fault v_faultPlace v_lastFault v_lastPlace v_undoable v_hasImage v_drawn 2 (by omega) h_obj h_number ) cb_X10_reads ml_X10_170 im_X10_reads se_X10_reads h_obj rfl rfl (rest := []) rfl (Nat.le_of_ble_eq_true rfl) ⟨Nat.le_of_ble_eq_true rfl, Nat.le_of_ble_eq_true rfl⟩ ⟨Nat.le_of_ble_eq_true rfl, Nat.le_of_ble_eq_true rfl⟩ (k' := 0) (z' := 0) (N' := N) rfl rfl rfl (fun r τ hp => ?_)
  obtain ⟨rfl, rfl⟩ := hp
  refine m_iinc F (v := 3) (lv' := [(1, .int 3), (0, .ref m)]) e_X10_freshText_13 rfl (by decide) (by decide) rfl ?_
  refine m_goto F e_X10_freshText_16 ?_
  refine m_iload_n F rfl e_X10_freshText_2 ?_
  refine m_iconst F (v := 5) (by decide) e_X10_freshText_3 ?_
  refine m_icmp_ge F e_X10_freshText_4 (fun q => absurd q (by decide)) (fun _ => ?_)
  refine m_aload_n F rfl e_X10_freshText_7 ?_
  refine m_iload_n F rfl e_X10_freshText_8 ?_
  refine m_iconst F (v := 0) (by decide) e_X10_freshText_9 ?_
  refine m_callV F e_X10_freshText_10 (k_reads0 (x_l X) V _ _ m v_thrown v_taped v_lines v_size v_at v_place v_sort v_value v_fault v_faultPlace v_lastFault v_lastPlace v_undoable v_hasImage v_drawn 3 (by omega) h_obj h_number ) cb_X10_reads ml_X10_170 im_X10_reads se_X10_reads h_obj rfl rfl (rest := []) rfl (Nat.le_of_ble_eq_true rfl) ⟨Nat.le_of_ble_eq_true rfl, Nat.le_of_ble_eq_true rfl⟩ ⟨Nat.le_of_ble_eq_true rfl, Nat.le_of_ble_eq_true rfl⟩ (k' := 0) (z' := 0) (N' := N) rfl rfl rfl (fun r τ hp => ?_)
  obtain ⟨rfl, rfl⟩ := hp
  refine m_iinc F (v := 4) (lv' := [(1, .int 4), (0, .ref m)]) e_X10_freshText_13 rfl (by decide) (by decide) rfl ?_
  refine m_goto F e_X10_freshText_16 ?_
  refine m_iload_n F rfl e_X10_freshText_2 ?_
  refine m_iconst F (v := 5) (by decide) e_X10_freshText_3 ?_
  refine m_icmp_ge F e_X10_freshText_4 (fun q => absurd q (by decide)) (fun _ => ?_)
  refine m_aload_n F rfl e_X10_freshText_7 ?_
  refine m_iload_n F rfl e_X10_freshText_8 ?_
  refine m_iconst F (v := 0) (by decide) e_X10_freshText_9 ?_
  refine m_callV F e_X10_freshText_10 (k_reads0 (x_l X) V _ _ m v_thrown v_taped v_lines v_size v_at v_place v_sort v_value v_fault v_faultPlace v_lastFault v_lastPlace v_undoable v_hasImage v_drawn 4 (by omega) h_obj h_number ) cb_X10_reads ml_X10_170 im_X10_reads se_X10_reads h_obj rfl rfl (rest := []) rfl (Nat.le_of_ble_eq_true rfl) ⟨Nat.le_of_ble_eq_true rfl, Nat.le_of_ble_eq_true rfl⟩ ⟨Nat.le_of_ble_eq_true rfl, Nat.le_of_ble_eq_true rfl⟩ (k' := 0) (z' := 0) (N' := N) rfl rfl rfl (fun r τ hp => ?_)
  obtain ⟨rfl, rfl⟩ := hp
  refine m_iinc F (v := 5) (lv' := [(1, .int 5), (0, .ref m)]) e_X10_freshText_13 rfl (by decide) (by decide) rfl ?_
  refine m_goto F e_X10_freshText_16 ?_
  refine m_iload_n F rfl e_X10_freshText_2 ?_
  refine m_iconst F (v := 5) (by decide) e_X10_freshText_3 ?_
  refine m_icmp_ge F e_X10_freshText_4 (fun _ => ?_) (fun q => absurd (by decide) q)
  exact m_vret F hQ e_X10_freshText_19 (⟨rfl, rfl⟩)
set_option maxRecDepth 20000 in
theorem lp_takeText0 {V : VX} {X : MX} {N : Nat} {σ : Mem} {Post : Option Value → Mem → Prop} (F : Fx V X yX10_takeText cX10_takeText 2 none (rmd 1 0 0)) (hQ : Rt V X 0 0 N Post) {m : Nat} {v_thrown v_taped v_lines v_size v_at v_place v_sort v_value v_fault v_faultPlace v_lastFault v_lastPlace v_undoable v_hasImage v_drawn : Int32} (h_obj : σ m = some (ob 8 [.int v_thrown, .ref (m + 1), .int v_taped, .ref (m + 2), .ref (m + 3), .ref (m + 4), .ref (m + 5), .ref (m + 6), .ref (m + 7), .ref (m + 8), .ref (m + 9), .ref (m + 10), .ref (m + 11), .ref (m + 12), .ref (m + 13), .ref (m + 14), .ref (m + 15), .int v_lines, .int v_size, .int v_at, .int v_place, .int v_sort, .int v_value, .int v_fault, .int v_faultPlace, .int v_lastFault, .int v_lastPlace, .ref (m + 16), .ref (m + 17), .ref (m + 18), .ref (m + 19), .ref (m + 20), .int v_undoable, .int v_hasImage, .ref (m + 21), .ref (m + 22), .int v_drawn])) (h_number : σ (m + 2) = some (aI V 10 (fun _ => 0))) (h_name : σ (m + 3) = some (aI V 8 (fun _ => 0))) (h_starts : σ (m + 4) = some (aI V 8 (fun _ => 0))) (h_term : σ (m + 5) = some (aI V 8 (fun _ => 0))) (h_toldRate : σ (m + 6) = some (aI V 8 (fun _ => 0))) (h_marks : σ (m + 7) = some (aI V 8 (fun _ => 0))) (h_fair : σ (m + 8) = some (aI V 8 (fun _ => 0))) (h_fee : σ (m + 9) = some (aI V 8 (fun _ => 0))) (h_toldPay : σ (m + 10) = some (aI V 384 (fun _ => 0))) (h_changeAt : σ (m + 11) = some (aI V 16 (fun _ => 0))) (h_changeTo : σ (m + 12) = some (aI V 16 (fun _ => 0))) (h_optionOf : σ (m + 13) = some (aI V 8 (fun _ => 0))) (h_optionMany : σ (m + 14) = some (aI V 8 (fun _ => 0))) (h_optionPays : σ (m + 15) = some (aI V 8 (fun _ => 0))) (hp : Post none σ) : ∀ n i : Nat, i ≤ 192 → 192 - i < n → Wm V X 2 N σ 0 0 179 [(1, .int (nI i)), (0, .ref m)] [] := by
  intro n
  induction n with
  | zero => intro i h1 h2; exact absurd h2 (by omega)
  | succ n ih =>
    intro i h1 h2
    refine m_iload_n F rfl e_X10_takeText_179 ?_
    refine m_sipush F (v := 192) (by decide) e_X10_takeText_180 ?_
    refine m_icmp_ge F e_X10_takeText_183 (fun q183 => ?_) (fun q183 => ?_)
    · have c183 : i ≥ 192 := (nI_leI (a := 192) (b := i) (by omega) (by omega)).mp q183
      have hi : i = 192 := by omega
      subst hi
      refine m_iconst F (v := 0) (by decide) e_X10_takeText_208 ?_
      refine m_istore_n F (lv' := [(1, .int 0), (0, .ref m)]) e_X10_takeText_209 (by decide) rfl ?_
      refine m_iload_n F rfl e_X10_takeText_210 ?_
      refine m_bipush F (v := 8) (by decide) e_X10_takeText_211 ?_
      refine m_icmp_ge F e_X10_takeText_213 (fun q => absurd q (by decide)) (fun _ => ?_)
      refine m_aload_n F rfl e_X10_takeText_216 ?_
      refine m_get F e_X10_takeText_217 fl_X10_40 h_obj rfl ?_
      refine m_iload_n F rfl e_X10_takeText_220 ?_
      refine m_aload_n F rfl e_X10_takeText_221 ?_
      refine m_get F e_X10_takeText_222 fl_X10_40 h_obj rfl ?_
      refine m_bipush F (v := 8) (by decide) e_X10_takeText_225 ?_
      refine m_iload_n F rfl e_X10_takeText_227 ?_
      refine m_iadd F e_X10_takeText_228 ?_
      refine Wm.topE (w := 8) (by decide) ?_
      refine m_iald F (j := 8) e_X10_takeText_229 h_changeAt (by decide) (by unfold vp_in; decide) ?_
      refine Wm.topE (w := 0) (rfl) ?_
      refine m_iast F (j := 0) e_X10_takeText_230 h_changeAt (by decide) (by unfold vp_in; decide) upd_c (up_self h_changeAt).symm ?_
      refine m_aload_n F rfl e_X10_takeText_231 ?_
      refine m_get F e_X10_takeText_232 fl_X10_43 h_obj rfl ?_
      refine m_iload_n F rfl e_X10_takeText_235 ?_
      refine m_aload_n F rfl e_X10_takeText_236 ?_
      refine m_get F e_X10_takeText_237 fl_X10_43 h_obj rfl ?_
      refine m_bipush F (v := 8) (by decide) e_X10_takeText_240 ?_
      refine m_iload_n F rfl e_X10_takeText_242 ?_
      refine m_iadd F e_X10_takeText_243 ?_
      refine Wm.topE (w := 8) (by decide) ?_
      refine m_iald F (j := 8) e_X10_takeText_244 h_changeTo (by decide) (by unfold vp_in; decide) ?_
      refine Wm.topE (w := 0) (rfl) ?_
      refine m_iast F (j := 0) e_X10_takeText_245 h_changeTo (by decide) (by unfold vp_in; decide) upd_c (up_self h_changeTo).symm ?_
      refine m_iinc F (v := 1) (lv' := [(1, .int 1), (0, .ref m)]) e_X10_takeText_246 rfl (by decide) (by decide) rfl ?_
      refine m_goto F e_X10_takeText_249 ?_
      refine m_iload_n F rfl e_X10_takeText_210 ?_
      refine m_bipush F (v := 8) (by decide) e_X10_takeText_211 ?_
      refine m_icmp_ge F e_X10_takeText_213 (fun q => absurd q (by decide)) (fun _ => ?_)
      refine m_aload_n F rfl e_X10_takeText_216 ?_
      refine m_get F e_X10_takeText_217 fl_X10_40 h_obj rfl ?_
      refine m_iload_n F rfl e_X10_takeText_220 ?_
      refine m_aload_n F rfl e_X10_takeText_221 ?_
      refine m_get F e_X10_takeText_222 fl_X10_40 h_obj rfl ?_
      refine m_bipush F (v := 8) (by decide) e_X10_takeText_225 ?_
      refine m_iload_n F rfl e_X10_takeText_227 ?_
      refine m_iadd F e_X10_takeText_228 ?_
      refine Wm.topE (w := 9) (by decide) ?_
      refine m_iald F (j := 9) e_X10_takeText_229 h_changeAt (by decide) (by unfold vp_in; decide) ?_
      refine Wm.topE (w := 0) (rfl) ?_
      refine m_iast F (j := 1) e_X10_takeText_230 h_changeAt (by decide) (by unfold vp_in; decide) upd_c (up_self h_changeAt).symm ?_
      refine m_aload_n F rfl e_X10_takeText_231 ?_
      refine m_get F e_X10_takeText_232 fl_X10_43 h_obj rfl ?_
      refine m_iload_n F rfl e_X10_takeText_235 ?_
      refine m_aload_n F rfl e_X10_takeText_236 ?_
      refine m_get F e_X10_takeText_237 fl_X10_43 h_obj rfl ?_
      refine m_bipush F (v := 8) (by decide) e_X10_takeText_240 ?_
      refine m_iload_n F rfl e_X10_takeText_242 ?_
      refine m_iadd F e_X10_takeText_243 ?_
      refine Wm.topE (w := 9) (by decide) ?_
      refine m_iald F (j := 9) e_X10_takeText_244 h_changeTo (by decide) (by unfold vp_in; decide) ?_
      refine Wm.topE (w := 0) (rfl) ?_
      refine m_iast F (j := 1) e_X10_takeText_245 h_changeTo (by decide) (by unfold vp_in; decide) upd_c (up_self h_changeTo).symm ?_
      refine m_iinc F (v := 2) (lv' := [(1, .int 2), (0, .ref m)]) e_X10_takeText_246 rfl (by decide) (by decide) rfl ?_
      refine m_goto F e_X10_takeText_249 ?_
      refine m_iload_n F rfl e_X10_takeText_210 ?_
      refine m_bipush F (v := 8) (by decide) e_X10_takeText_211 ?_
      refine m_icmp_ge F e_X10_takeText_213 (fun q => absurd q (by decide)) (fun _ => ?_)
      refine m_aload_n F rfl e_X10_takeText_216 ?_
      refine m_get F e_X10_takeText_217 fl_X10_40 h_obj rfl ?_
      refine m_iload_n F rfl e_X10_takeText_220 ?_
      refine m_aload_n F rfl e_X10_takeText_221 ?_
      refine m_get F e_X10_takeText_222 fl_X10_40 h_obj rfl ?_
      refine m_bipush F (v := 8) (by decide) e_X10_takeText_225 ?_
      refine m_iload_n F rfl e_X10_takeText_227 ?_
      refine m_iadd F e_X10_takeText_228 ?_
      refine Wm.topE (w := 10) (by decide) ?_
      refine m_iald F (j := 10) e_X10_takeText_229 h_changeAt (by decide) (by unfold vp_in; decide) ?_
      refine Wm.topE (w := 0) (rfl) ?_
      refine m_iast F (j := 2) e_X10_takeText_230 h_changeAt (by decide) (by unfold vp_in; decide) upd_c (up_self h_changeAt).symm ?_
      refine m_aload_n F rfl e_X10_takeText_231 ?_
      refine m_get F e_X10_takeText_232 fl_X10_43 h_obj rfl ?_
      refine m_iload_n F rfl e_X10_takeText_235 ?_
      refine m_aload_n F rfl e_X10_takeText_236 ?_
      refine m_get F e_X10_takeText_237 fl_X10_43 h_obj rfl ?_
      refine m_bipush F (v := 8) (by decide) e_X10_takeText_240 ?_
      refine m_iload_n F rfl e_X10_takeText_242 ?_
      refine m_iadd F e_X10_takeText_243 ?_
      refine Wm.topE (w := 10) (by decide) ?_
      refine m_iald F (j := 10) e_X10_takeText_244 h_changeTo (by decide) (by unfold vp_in; decide) ?_
      refine Wm.topE (w := 0) (rfl) ?_
      refine m_iast F (j := 2) e_X10_takeText_245 h_changeTo (by decide) (by unfold vp_in; decide) upd_c (up_self h_changeTo).symm ?_
      refine m_iinc F (v := 3) (lv' := [(1, .int 3), (0, .ref m)]) e_X10_takeText_246 rfl (by decide) (by decide) rfl ?_
      refine m_goto F e_X10_takeText_249 ?_
      refine m_iload_n F rfl e_X10_takeText_210 ?_
      refine m_bipush F (v := 8) (by decide) e_X10_takeText_211 ?_
      refine m_icmp_ge F e_X10_takeText_213 (fun q => absurd q (by decide)) (fun _ => ?_)
      refine m_aload_n F rfl e_X10_takeText_216 ?_
      refine m_get F e_X10_takeText_217 fl_X10_40 h_obj rfl ?_
      refine m_iload_n F rfl e_X10_takeText_220 ?_
      refine m_aload_n F rfl e_X10_takeText_221 ?_
      refine m_get F e_X10_takeText_222 fl_X10_40 h_obj rfl ?_
      refine m_bipush F (v := 8) (by decide) e_X10_takeText_225 ?_
      refine m_iload_n F rfl e_X10_takeText_227 ?_
      refine m_iadd F e_X10_takeText_228 ?_
      refine Wm.topE (w := 11) (by decide) ?_
      refine m_iald F (j := 11) e_X10_takeText_229 h_changeAt (by decide) (by unfold vp_in; decide) ?_
      refine Wm.topE (w := 0) (rfl) ?_
      refine m_iast F (j := 3) e_X10_takeText_230 h_changeAt (by decide) (by unfold vp_in; decide) upd_c (up_self h_changeAt).symm ?_
      refine m_aload_n F rfl e_X10_takeText_231 ?_
      refine m_get F e_X10_takeText_232 fl_X10_43 h_obj rfl ?_
      refine m_iload_n F rfl e_X10_takeText_235 ?_
      refine m_aload_n F rfl e_X10_takeText_236 ?_
      refine m_get F e_X10_takeText_237 fl_X10_43 h_obj rfl ?_
      refine m_bipush F (v := 8) (by decide) e_X10_takeText_240 ?_
      refine m_iload_n F rfl e_X10_takeText_242 ?_
      refine m_iadd F e_X10_takeText_243 ?_
      refine Wm.topE (w := 11) (by decide) ?_
      refine m_iald F (j := 11) e_X10_takeText_244 h_changeTo (by decide) (by unfold vp_in; decide) ?_
      refine Wm.topE (w := 0) (rfl) ?_
      refine m_iast F (j := 3) e_X10_takeText_245 h_changeTo (by decide) (by unfold vp_in; decide) upd_c (up_self h_changeTo).symm ?_
      refine m_iinc F (v := 4) (lv' := [(1, .int 4), (0, .ref m)]) e_X10_takeText_246 rfl (by decide) (by decide) rfl ?_
      refine m_goto F e_X10_takeText_249 ?_
      refine m_iload_n F rfl e_X10_takeText_210 ?_
      refine m_bipush F (v := 8) (by decide) e_X10_takeText_211 ?_
      refine m_icmp_ge F e_X10_takeText_213 (fun q => absurd q (by decide)) (fun _ => ?_)
      refine m_aload_n F rfl e_X10_takeText_216 ?_
      refine m_get F e_X10_takeText_217 fl_X10_40 h_obj rfl ?_
      refine m_iload_n F rfl e_X10_takeText_220 ?_
      refine m_aload_n F rfl e_X10_takeText_221 ?_
      refine m_get F e_X10_takeText_222 fl_X10_40 h_obj rfl ?_
      refine m_bipush F (v := 8) (by decide) e_X10_takeText_225 ?_
      refine m_iload_n F rfl e_X10_takeText_227 ?_
      refine m_iadd F e_X10_takeText_228 ?_
      refine Wm.topE (w := 12) (by decide) ?_
      refine m_iald F (j := 12) e_X10_takeText_229 h_changeAt (by decide) (by unfold vp_in; decide) ?_
      refine Wm.topE (w := 0) (rfl) ?_
      refine m_iast F (j := 4) e_X10_takeText_230 h_changeAt (by decide) (by unfold vp_in; decide) upd_c (up_self h_changeAt).symm ?_
      refine m_aload_n F rfl e_X10_takeText_231 ?_
      refine m_get F e_X10_takeText_232 fl_X10_43 h_obj rfl ?_
      refine m_iload_n F rfl e_X10_takeText_235 ?_
      refine m_aload_n F rfl e_X10_takeText_236 ?_
      refine m_get F e_X10_takeText_237 fl_X10_43 h_obj rfl ?_
      refine m_bipush F (v := 8) (by decide) e_X10_takeText_240 ?_
      refine m_iload_n F rfl e_X10_takeText_242 ?_
      refine m_iadd F e_X10_takeText_243 ?_
      refine Wm.topE (w := 12) (by decide) ?_
      refine m_iald F (j := 12) e_X10_takeText_244 h_changeTo (by decide) (by unfold vp_in; decide) ?_
      refine Wm.topE (w := 0) (rfl) ?_
      refine m_iast F (j := 4) e_X10_takeText_245 h_changeTo (by decide) (by unfold vp_in; decide) upd_c (up_self h_changeTo).symm ?_
      refine m_iinc F (v := 5) (lv' := [(1, .int 5), (0, .ref m)]) e_X10_takeText_246 rfl (by decide) (by decide) rfl ?_
      refine m_goto F e_X10_takeText_249 ?_
      refine m_iload_n F rfl e_X10_takeText_210 ?_
      refine m_bipush F (v := 8) (by decide) e_X10_takeText_211 ?_
      refine m_icmp_ge F e_X10_takeText_213 (fun q => absurd q (by decide)) (fun _ => ?_)
      refine m_aload_n F rfl e_X10_takeText_216 ?_
      refine m_get F e_X10_takeText_217 fl_X10_40 h_obj rfl ?_
      refine m_iload_n F rfl e_X10_takeText_220 ?_
      refine m_aload_n F rfl e_X10_takeText_221 ?_
      refine m_get F e_X10_takeText_222 fl_X10_40 h_obj rfl ?_
      refine m_bipush F (v := 8) (by decide) e_X10_takeText_225 ?_
      refine m_iload_n F rfl e_X10_takeText_227 ?_
      refine m_iadd F e_X10_takeText_228 ?_
      refine Wm.topE (w := 13) (by decide) ?_
      refine m_iald F (j := 13) e_X10_takeText_229 h_changeAt (by decide) (by unfold vp_in; decide) ?_
      refine Wm.topE (w := 0) (rfl) ?_
      refine m_iast F (j := 5) e_X10_takeText_230 h_changeAt (by decide) (by unfold vp_in; decide) upd_c (up_self h_changeAt).symm ?_
      refine m_aload_n F rfl e_X10_takeText_231 ?_
      refine m_get F e_X10_takeText_232 fl_X10_43 h_obj rfl ?_
      refine m_iload_n F rfl e_X10_takeText_235 ?_
      refine m_aload_n F rfl e_X10_takeText_236 ?_
      refine m_get F e_X10_takeText_237 fl_X10_43 h_obj rfl ?_
      refine m_bipush F (v := 8) (by decide) e_X10_takeText_240 ?_
      refine m_iload_n F rfl e_X10_takeText_242 ?_
      refine m_iadd F e_X10_takeText_243 ?_
      refine Wm.topE (w := 13) (by decide) ?_
      refine m_iald F (j := 13) e_X10_takeText_244 h_changeTo (by decide) (by unfold vp_in; decide) ?_
      refine Wm.topE (w := 0) (rfl) ?_
      refine m_iast F (j := 5) e_X10_takeText_245 h_changeTo (by decide) (by unfold vp_in; decide) upd_c (up_self h_changeTo).symm ?_
      refine m_iinc F (v := 6) (lv' := [(1, .int 6), (0, .ref m)]) e_X10_takeText_246 rfl (by decide) (by decide) rfl ?_
      refine m_goto F e_X10_takeText_249 ?_
      refine m_iload_n F rfl e_X10_takeText_210 ?_
      refine m_bipush F (v := 8) (by decide) e_X10_takeText_211 ?_
      refine m_icmp_ge F e_X10_takeText_213 (fun q => absurd q (by decide)) (fun _ => ?_)
      refine m_aload_n F rfl e_X10_takeText_216 ?_
      refine m_get F e_X10_takeText_217 fl_X10_40 h_obj rfl ?_
      refine m_iload_n F rfl e_X10_takeText_220 ?_
      refine m_aload_n F rfl e_X10_takeText_221 ?_
      refine m_get F e_X10_takeText_222 fl_X10_40 h_obj rfl ?_
      refine m_bipush F (v := 8) (by decide) e_X10_takeText_225 ?_
      refine m_iload_n F rfl e_X10_takeText_227 ?_
      refine m_iadd F e_X10_takeText_228 ?_
      refine Wm.topE (w := 14) (by decide) ?_
      refine m_iald F (j := 14) e_X10_takeText_229 h_changeAt (by decide) (by unfold vp_in; decide) ?_
      refine Wm.topE (w := 0) (rfl) ?_
      refine m_iast F (j := 6) e_X10_takeText_230 h_changeAt (by decide) (by unfold vp_in; decide) upd_c (up_self h_changeAt).symm ?_
      refine m_aload_n F rfl e_X10_takeText_231 ?_
      refine m_get F e_X10_takeText_232 fl_X10_43 h_obj rfl ?_
      refine m_iload_n F rfl e_X10_takeText_235 ?_
      refine m_aload_n F rfl e_X10_takeText_236 ?_
      refine m_get F e_X10_takeText_237 fl_X10_43 h_obj rfl ?_
      refine m_bipush F (v := 8) (by decide) e_X10_takeText_240 ?_
      refine m_iload_n F rfl e_X10_takeText_242 ?_
      refine m_iadd F e_X10_takeText_243 ?_
      refine Wm.topE (w := 14) (by decide) ?_
      refine m_iald F (j := 14) e_X10_takeText_244 h_changeTo (by decide) (by unfold vp_in; decide) ?_
      refine Wm.topE (w := 0) (rfl) ?_
      refine m_iast F (j := 6) e_X10_takeText_245 h_changeTo (by decide) (by unfold vp_in; decide) upd_c (up_self h_changeTo).symm ?_
      refine m_iinc F (v := 7) (lv' := [(1, .int 7), (0, .ref m)]) e_X10_takeText_246 rfl (by decide) (by decide) rfl ?_
      refine m_goto F e_X10_takeText_249 ?_
      refine m_iload_n F rfl e_X10_takeText_210 ?_
      refine m_bipush F (v := 8) (by decide) e_X10_takeText_211 ?_
      refine m_icmp_ge F e_X10_takeText_213 (fun q => absurd q (by decide)) (fun _ => ?_)
      refine m_aload_n F rfl e_X10_takeText_216 ?_
      refine m_get F e_X10_takeText_217 fl_X10_40 h_obj rfl ?_
      refine m_iload_n F rfl e_X10_takeText_220 ?_
      refine m_aload_n F rfl e_X10_takeText_221 ?_
      refine m_get F e_X10_takeText_222 fl_X10_40 h_obj rfl ?_
      refine m_bipush F (v := 8) (by decide) e_X10_takeText_225 ?_
      refine m_iload_n F rfl e_X10_takeText_227 ?_
      refine m_iadd F e_X10_takeText_228 ?_
      refine Wm.topE (w := 15) (by decide) ?_
      refine m_iald F (j := 15) e_X10_takeText_229 h_changeAt (by decide) (by unfold vp_in; decide) ?_
      refine Wm.topE (w := 0) (rfl) ?_
      refine m_iast F (j := 7) e_X10_takeText_230 h_changeAt (by decide) (by unfold vp_in; decide) upd_c (up_self h_changeAt).symm ?_
      refine m_aload_n F rfl e_X10_takeText_231 ?_
      refine m_get F e_X10_takeText_232 fl_X10_43 h_obj rfl ?_
      refine m_iload_n F rfl e_X10_takeText_235 ?_
      refine m_aload_n F rfl e_X10_takeText_236 ?_
      refine m_get F e_X10_takeText_237 fl_X10_43 h_obj rfl ?_
      refine m_bipush F (v := 8) (by decide) e_X10_takeText_240 ?_
      refine m_iload_n F rfl e_X10_takeText_242 ?_
      refine m_iadd F e_X10_takeText_243 ?_
      refine Wm.topE (w := 15) (by decide) ?_
      refine m_iald F (j := 15) e_X10_takeText_244 h_changeTo (by decide) (by unfold vp_in; decide) ?_
      refine Wm.topE (w := 0) (rfl) ?_
      refine m_iast F (j := 7) e_X10_takeText_245 h_changeTo (by decide) (by unfold vp_in; decide) upd_c (up_self h_changeTo).symm ?_
      refine m_iinc F (v := 8) (lv' := [(1, .int 8), (0, .ref m)]) e_X10_takeText_246 rfl (by decide) (by decide) rfl ?_
      refine m_goto F e_X10_takeText_249 ?_
      refine m_iload_n F rfl e_X10_takeText_210 ?_
      refine m_bipush F (v := 8) (by decide) e_X10_takeText_211 ?_
      refine m_icmp_ge F e_X10_takeText_213 (fun _ => ?_) (fun q => absurd (by decide) q)
      exact m_vret F hQ e_X10_takeText_252 (hp)
    · have c183 : i < 192 := by have hh := mt (nI_leI (a := 192) (b := i) (by omega) (by omega)).mpr q183; omega
      refine m_aload_n F rfl e_X10_takeText_186 ?_
      refine m_get F e_X10_takeText_187 fl_X10_37 h_obj rfl ?_
      refine m_iload_n F rfl e_X10_takeText_190 ?_
      refine m_aload_n F rfl e_X10_takeText_191 ?_
      refine m_get F e_X10_takeText_192 fl_X10_37 h_obj rfl ?_
      refine m_sipush F (v := 192) (by decide) e_X10_takeText_195 ?_
      refine m_iload_n F rfl e_X10_takeText_198 ?_
      refine m_iadd F e_X10_takeText_199 ?_
      refine Wm.topE (w := nI (192 + i)) (nI_add 192 i) ?_
      refine m_iald F (j := 192 + i) e_X10_takeText_200 h_toldPay (nI_clamp (by omega)) (vp_in_nI (by omega) (by omega)) ?_
      refine Wm.topE (w := 0) (rfl) ?_
      refine m_iast F (j := i) e_X10_takeText_201 h_toldPay (nI_clamp (by omega)) (vp_in_nI (by omega) (by omega)) upd_c (up_self h_toldPay).symm ?_
      refine m_iinc F (v := nI (i + 1)) (lv' := [(1, .int (nI (i + 1))), (0, .ref m)]) e_X10_takeText_202 rfl (nI_add i 1) (by decide) rfl ?_
      refine m_goto F e_X10_takeText_205 ?_
      exact ih (i + 1) (by omega) (by omega)
set_option maxRecDepth 20000 in
theorem k_takeText0 (l : Launch) (V : VX) (N : Nat) (σ : Mem) (m : Nat) (v_thrown v_taped v_lines v_size v_at v_place v_sort v_value v_fault v_faultPlace v_lastFault v_lastPlace v_undoable v_hasImage v_drawn : Int32)  (h_obj : σ m = some (ob 8 [.int v_thrown, .ref (m + 1), .int v_taped, .ref (m + 2), .ref (m + 3), .ref (m + 4), .ref (m + 5), .ref (m + 6), .ref (m + 7), .ref (m + 8), .ref (m + 9), .ref (m + 10), .ref (m + 11), .ref (m + 12), .ref (m + 13), .ref (m + 14), .ref (m + 15), .int v_lines, .int v_size, .int v_at, .int v_place, .int v_sort, .int v_value, .int v_fault, .int v_faultPlace, .int v_lastFault, .int v_lastPlace, .ref (m + 16), .ref (m + 17), .ref (m + 18), .ref (m + 19), .ref (m + 20), .int v_undoable, .int v_hasImage, .ref (m + 21), .ref (m + 22), .int v_drawn])) (h_number : σ (m + 2) = some (aI V 10 (fun _ => 0))) (h_name : σ (m + 3) = some (aI V 8 (fun _ => 0))) (h_starts : σ (m + 4) = some (aI V 8 (fun _ => 0))) (h_term : σ (m + 5) = some (aI V 8 (fun _ => 0))) (h_toldRate : σ (m + 6) = some (aI V 8 (fun _ => 0))) (h_marks : σ (m + 7) = some (aI V 8 (fun _ => 0))) (h_fair : σ (m + 8) = some (aI V 8 (fun _ => 0))) (h_fee : σ (m + 9) = some (aI V 8 (fun _ => 0))) (h_toldPay : σ (m + 10) = some (aI V 384 (fun _ => 0))) (h_changeAt : σ (m + 11) = some (aI V 16 (fun _ => 0))) (h_changeTo : σ (m + 12) = some (aI V 16 (fun _ => 0))) (h_optionOf : σ (m + 13) = some (aI V 8 (fun _ => 0))) (h_optionMany : σ (m + 14) = some (aI V 8 (fun _ => 0))) (h_optionPays : σ (m + 15) = some (aI V 8 (fun _ => 0)))  : Ct l V yX10_takeText cX10_takeText 2 none 1 0 0 N σ [.ref m] (fun r τ => r = none ∧ τ = σ) := by
  refine Ct.of (by decide) (Nat.le_of_ble_eq_true rfl) [(0, .ref m)] rfl (fun X hX F hQ => ?_)
  refine m_iconst F (v := 0) (by decide) e_X10_takeText_0 ?_
  refine m_istore_n F (lv' := [(1, .int 0), (0, .ref m)]) e_X10_takeText_1 (by decide) rfl ?_
  refine m_iload_n F rfl e_X10_takeText_2 ?_
  refine m_iconst F (v := 5) (by decide) e_X10_takeText_3 ?_
  refine m_icmp_ge F e_X10_takeText_4 (fun q => absurd q (by decide)) (fun _ => ?_)
  refine m_aload_n F rfl e_X10_takeText_7 ?_
  refine m_get F e_X10_takeText_8 fl_X10_13 h_obj rfl ?_
  refine m_iload_n F rfl e_X10_takeText_11 ?_
  refine m_aload_n F rfl e_X10_takeText_12 ?_
  refine m_iload_n F rfl e_X10_takeText_13 ?_
  refine m_callV F e_X10_takeText_14 (k_reading0 (x_l X) V _ _ m v_thrown v_taped v_lines v_size v_at v_place v_sort v_value v_fault v_faultPlace v_lastFault v_lastPlace v_undoable v_hasImage v_drawn 0 (by omega) h_obj h_number ) cb_X10_reading ml_X10_157 im_X10_reading se_X10_reading h_obj rfl rfl (rest := [.int 0, .ref (m + 2)]) rfl (Nat.le_of_ble_eq_true rfl) ⟨Nat.le_of_ble_eq_true rfl, Nat.le_of_ble_eq_true rfl⟩ ⟨Nat.le_of_ble_eq_true rfl, Nat.le_of_ble_eq_true rfl⟩ (k' := 0) (z' := 0) (N' := N) rfl rfl rfl (fun r τ hp => ?_)
  obtain ⟨rfl, rfl⟩ := hp
  refine m_iast F (j := 0) e_X10_takeText_17 h_number (by decide) (by unfold vp_in; decide) upd_c (up_self h_number).symm ?_
  refine m_iinc F (v := 1) (lv' := [(1, .int 1), (0, .ref m)]) e_X10_takeText_18 rfl (by decide) (by decide) rfl ?_
  refine m_goto F e_X10_takeText_21 ?_
  refine m_iload_n F rfl e_X10_takeText_2 ?_
  refine m_iconst F (v := 5) (by decide) e_X10_takeText_3 ?_
  refine m_icmp_ge F e_X10_takeText_4 (fun q => absurd q (by decide)) (fun _ => ?_)
  refine m_aload_n F rfl e_X10_takeText_7 ?_
  refine m_get F e_X10_takeText_8 fl_X10_13 h_obj rfl ?_
  refine m_iload_n F rfl e_X10_takeText_11 ?_
  refine m_aload_n F rfl e_X10_takeText_12 ?_
  refine m_iload_n F rfl e_X10_takeText_13 ?_
  refine m_callV F e_X10_takeText_14 (k_reading0 (x_l X) V _ _ m v_thrown v_taped v_lines v_size v_at v_place v_sort v_value v_fault v_faultPlace v_lastFault v_lastPlace v_undoable v_hasImage v_drawn 1 (by omega) h_obj h_number ) cb_X10_reading ml_X10_157 im_X10_reading se_X10_reading h_obj rfl rfl (rest := [.int 1, .ref (m + 2)]) rfl (Nat.le_of_ble_eq_true rfl) ⟨Nat.le_of_ble_eq_true rfl, Nat.le_of_ble_eq_true rfl⟩ ⟨Nat.le_of_ble_eq_true rfl, Nat.le_of_ble_eq_true rfl⟩ (k' := 0) (z' := 0) (N' := N) rfl rfl rfl (fun r τ hp => ?_)
  obtain ⟨rfl, rfl⟩ := hp
  refine m_iast F (j := 1) e_X10_takeText_17 h_number (by decide) (by unfold vp_in; decide) upd_c (up_self h_number).symm ?_
  refine m_iinc F (v := 2) (lv' := [(1, .int 2), (0, .ref m)]) e_X10_takeText_18 rfl (by decide) (by decide) rfl ?_
  refine m_goto F e_X10_takeText_21 ?_
  refine m_iload_n F rfl e_X10_takeText_2 ?_
  refine m_iconst F (v := 5) (by decide) e_X10_takeText_3 ?_
  refine m_icmp_ge F e_X10_takeText_4 (fun q => absurd q (by decide)) (fun _ => ?_)
  refine m_aload_n F rfl e_X10_takeText_7 ?_
  refine m_get F e_X10_takeText_8 fl_X10_13 h_obj rfl ?_
  refine m_iload_n F rfl e_X10_takeText_11 ?_
  refine m_aload_n F rfl e_X10_takeText_12 ?_
  refine m_iload_n F rfl e_X10_takeText_13 ?_
  refine m_callV F e_X10_takeText_14 (k_reading0 (x_l X) V _ _ m v_thrown v_taped v_lines v_size v_at v_place v_sort v_value v_fault v_faultPlace v_lastFault v_lastPlace v_undoable v_hasImage v_drawn 2 (by omega) h_obj h_number ) cb_X10_reading ml_X10_157 im_X10_reading se_X10_reading h_obj rfl rfl (rest := [.int 2, .ref (m + 2)]) rfl (Nat.le_of_ble_eq_true rfl) ⟨Nat.le_of_ble_eq_true rfl, Nat.le_of_ble_eq_true rfl⟩ ⟨Nat.le_of_ble_eq_true rfl, Nat.le_of_ble_eq_true rfl⟩ (k' := 0) (z' := 0) (N' := N) rfl rfl rfl (fun r τ hp => ?_)
  obtain ⟨rfl, rfl⟩ := hp
  refine m_iast F (j := 2) e_X10_takeText_17 h_number (by decide) (by unfold vp_in; decide) upd_c (up_self h_number).symm ?_
  refine m_iinc F (v := 3) (lv' := [(1, .int 3), (0, .ref m)]) e_X10_takeText_18 rfl (by decide) (by decide) rfl ?_
  refine m_goto F e_X10_takeText_21 ?_
  refine m_iload_n F rfl e_X10_takeText_2 ?_
  refine m_iconst F (v := 5) (by decide) e_X10_takeText_3 ?_
  refine m_icmp_ge F e_X10_takeText_4 (fun q => absurd q (by decide)) (fun _ => ?_)
  refine m_aload_n F rfl e_X10_takeText_7 ?_
  refine m_get F e_X10_takeText_8 fl_X10_13 h_obj rfl ?_
  refine m_iload_n F rfl e_X10_takeText_11 ?_
  refine m_aload_n F rfl e_X10_takeText_12 ?_
  refine m_iload_n F rfl e_X10_takeText_13 ?_
  refine m_callV F e_X10_takeText_14 (k_reading0 (x_l X) V _ _ m v_thrown v_taped v_lines v_size v_at v_place v_sort v_value v_fault v_faultPlace v_lastFault v_lastPlace v_undoable v_hasImage v_drawn 3 (by omega) h_obj h_number ) cb_X10_reading ml_X10_157 im_X10_reading se_X10_reading h_obj rfl rfl (rest := [.int 3, .ref (m + 2)]) rfl (Nat.le_of_ble_eq_true rfl) ⟨Nat.le_of_ble_eq_true rfl, Nat.le_of_ble_eq_true rfl⟩ ⟨Nat.le_of_ble_eq_true rfl, Nat.le_of_ble_eq_true rfl⟩ (k' := 0) (z' := 0) (N' := N) rfl rfl rfl (fun r τ hp => ?_)
  obtain ⟨rfl, rfl⟩ := hp
  refine m_iast F (j := 3) e_X10_takeText_17 h_number (by decide) (by unfold vp_in; decide) upd_c (up_self h_number).symm ?_
  refine m_iinc F (v := 4) (lv' := [(1, .int 4), (0, .ref m)]) e_X10_takeText_18 rfl (by decide) (by decide) rfl ?_
  refine m_goto F e_X10_takeText_21 ?_
  refine m_iload_n F rfl e_X10_takeText_2 ?_
  refine m_iconst F (v := 5) (by decide) e_X10_takeText_3 ?_
  refine m_icmp_ge F e_X10_takeText_4 (fun q => absurd q (by decide)) (fun _ => ?_)
  refine m_aload_n F rfl e_X10_takeText_7 ?_
  refine m_get F e_X10_takeText_8 fl_X10_13 h_obj rfl ?_
  refine m_iload_n F rfl e_X10_takeText_11 ?_
  refine m_aload_n F rfl e_X10_takeText_12 ?_
  refine m_iload_n F rfl e_X10_takeText_13 ?_
  refine m_callV F e_X10_takeText_14 (k_reading0 (x_l X) V _ _ m v_thrown v_taped v_lines v_size v_at v_place v_sort v_value v_fault v_faultPlace v_lastFault v_lastPlace v_undoable v_hasImage v_drawn 4 (by omega) h_obj h_number ) cb_X10_reading ml_X10_157 im_X10_reading se_X10_reading h_obj rfl rfl (rest := [.int 4, .ref (m + 2)]) rfl (Nat.le_of_ble_eq_true rfl) ⟨Nat.le_of_ble_eq_true rfl, Nat.le_of_ble_eq_true rfl⟩ ⟨Nat.le_of_ble_eq_true rfl, Nat.le_of_ble_eq_true rfl⟩ (k' := 0) (z' := 0) (N' := N) rfl rfl rfl (fun r τ hp => ?_)
  obtain ⟨rfl, rfl⟩ := hp
  refine m_iast F (j := 4) e_X10_takeText_17 h_number (by decide) (by unfold vp_in; decide) upd_c (up_self h_number).symm ?_
  refine m_iinc F (v := 5) (lv' := [(1, .int 5), (0, .ref m)]) e_X10_takeText_18 rfl (by decide) (by decide) rfl ?_
  refine m_goto F e_X10_takeText_21 ?_
  refine m_iload_n F rfl e_X10_takeText_2 ?_
  refine m_iconst F (v := 5) (by decide) e_X10_takeText_3 ?_
  refine m_icmp_ge F e_X10_takeText_4 (fun _ => ?_) (fun q => absurd (by decide) q)
  refine m_iconst F (v := 0) (by decide) e_X10_takeText_24 ?_
  refine m_istore_n F (lv' := [(1, .int 0), (0, .ref m)]) e_X10_takeText_25 (by decide) rfl ?_
  refine m_iload_n F rfl e_X10_takeText_26 ?_
  refine m_iconst F (v := 4) (by decide) e_X10_takeText_27 ?_
  refine m_icmp_ge F e_X10_takeText_28 (fun q => absurd q (by decide)) (fun _ => ?_)
  refine m_aload_n F rfl e_X10_takeText_31 ?_
  refine m_get F e_X10_takeText_32 fl_X10_16 h_obj rfl ?_
  refine m_iload_n F rfl e_X10_takeText_35 ?_
  refine m_aload_n F rfl e_X10_takeText_36 ?_
  refine m_get F e_X10_takeText_37 fl_X10_16 h_obj rfl ?_
  refine m_iconst F (v := 4) (by decide) e_X10_takeText_40 ?_
  refine m_iload_n F rfl e_X10_takeText_41 ?_
  refine m_iadd F e_X10_takeText_42 ?_
  refine Wm.topE (w := 4) (by decide) ?_
  refine m_iald F (j := 4) e_X10_takeText_43 h_name (by decide) (by unfold vp_in; decide) ?_
  refine Wm.topE (w := 0) (rfl) ?_
  refine m_iast F (j := 0) e_X10_takeText_44 h_name (by decide) (by unfold vp_in; decide) upd_c (up_self h_name).symm ?_
  refine m_aload_n F rfl e_X10_takeText_45 ?_
  refine m_get F e_X10_takeText_46 fl_X10_19 h_obj rfl ?_
  refine m_iload_n F rfl e_X10_takeText_49 ?_
  refine m_aload_n F rfl e_X10_takeText_50 ?_
  refine m_get F e_X10_takeText_51 fl_X10_19 h_obj rfl ?_
  refine m_iconst F (v := 4) (by decide) e_X10_takeText_54 ?_
  refine m_iload_n F rfl e_X10_takeText_55 ?_
  refine m_iadd F e_X10_takeText_56 ?_
  refine Wm.topE (w := 4) (by decide) ?_
  refine m_iald F (j := 4) e_X10_takeText_57 h_starts (by decide) (by unfold vp_in; decide) ?_
  refine Wm.topE (w := 0) (rfl) ?_
  refine m_iast F (j := 0) e_X10_takeText_58 h_starts (by decide) (by unfold vp_in; decide) upd_c (up_self h_starts).symm ?_
  refine m_aload_n F rfl e_X10_takeText_59 ?_
  refine m_get F e_X10_takeText_60 fl_X10_22 h_obj rfl ?_
  refine m_iload_n F rfl e_X10_takeText_63 ?_
  refine m_aload_n F rfl e_X10_takeText_64 ?_
  refine m_get F e_X10_takeText_65 fl_X10_22 h_obj rfl ?_
  refine m_iconst F (v := 4) (by decide) e_X10_takeText_68 ?_
  refine m_iload_n F rfl e_X10_takeText_69 ?_
  refine m_iadd F e_X10_takeText_70 ?_
  refine Wm.topE (w := 4) (by decide) ?_
  refine m_iald F (j := 4) e_X10_takeText_71 h_term (by decide) (by unfold vp_in; decide) ?_
  refine Wm.topE (w := 0) (rfl) ?_
  refine m_iast F (j := 0) e_X10_takeText_72 h_term (by decide) (by unfold vp_in; decide) upd_c (up_self h_term).symm ?_
  refine m_aload_n F rfl e_X10_takeText_73 ?_
  refine m_get F e_X10_takeText_74 fl_X10_25 h_obj rfl ?_
  refine m_iload_n F rfl e_X10_takeText_77 ?_
  refine m_aload_n F rfl e_X10_takeText_78 ?_
  refine m_get F e_X10_takeText_79 fl_X10_25 h_obj rfl ?_
  refine m_iconst F (v := 4) (by decide) e_X10_takeText_82 ?_
  refine m_iload_n F rfl e_X10_takeText_83 ?_
  refine m_iadd F e_X10_takeText_84 ?_
  refine Wm.topE (w := 4) (by decide) ?_
  refine m_iald F (j := 4) e_X10_takeText_85 h_toldRate (by decide) (by unfold vp_in; decide) ?_
  refine Wm.topE (w := 0) (rfl) ?_
  refine m_iast F (j := 0) e_X10_takeText_86 h_toldRate (by decide) (by unfold vp_in; decide) upd_c (up_self h_toldRate).symm ?_
  refine m_aload_n F rfl e_X10_takeText_87 ?_
  refine m_get F e_X10_takeText_88 fl_X10_28 h_obj rfl ?_
  refine m_iload_n F rfl e_X10_takeText_91 ?_
  refine m_aload_n F rfl e_X10_takeText_92 ?_
  refine m_get F e_X10_takeText_93 fl_X10_28 h_obj rfl ?_
  refine m_iconst F (v := 4) (by decide) e_X10_takeText_96 ?_
  refine m_iload_n F rfl e_X10_takeText_97 ?_
  refine m_iadd F e_X10_takeText_98 ?_
  refine Wm.topE (w := 4) (by decide) ?_
  refine m_iald F (j := 4) e_X10_takeText_99 h_marks (by decide) (by unfold vp_in; decide) ?_
  refine Wm.topE (w := 0) (rfl) ?_
  refine m_iast F (j := 0) e_X10_takeText_100 h_marks (by decide) (by unfold vp_in; decide) upd_c (up_self h_marks).symm ?_
  refine m_aload_n F rfl e_X10_takeText_101 ?_
  refine m_get F e_X10_takeText_102 fl_X10_31 h_obj rfl ?_
  refine m_iload_n F rfl e_X10_takeText_105 ?_
  refine m_aload_n F rfl e_X10_takeText_106 ?_
  refine m_get F e_X10_takeText_107 fl_X10_31 h_obj rfl ?_
  refine m_iconst F (v := 4) (by decide) e_X10_takeText_110 ?_
  refine m_iload_n F rfl e_X10_takeText_111 ?_
  refine m_iadd F e_X10_takeText_112 ?_
  refine Wm.topE (w := 4) (by decide) ?_
  refine m_iald F (j := 4) e_X10_takeText_113 h_fair (by decide) (by unfold vp_in; decide) ?_
  refine Wm.topE (w := 0) (rfl) ?_
  refine m_iast F (j := 0) e_X10_takeText_114 h_fair (by decide) (by unfold vp_in; decide) upd_c (up_self h_fair).symm ?_
  refine m_aload_n F rfl e_X10_takeText_115 ?_
  refine m_get F e_X10_takeText_116 fl_X10_34 h_obj rfl ?_
  refine m_iload_n F rfl e_X10_takeText_119 ?_
  refine m_aload_n F rfl e_X10_takeText_120 ?_
  refine m_get F e_X10_takeText_121 fl_X10_34 h_obj rfl ?_
  refine m_iconst F (v := 4) (by decide) e_X10_takeText_124 ?_
  refine m_iload_n F rfl e_X10_takeText_125 ?_
  refine m_iadd F e_X10_takeText_126 ?_
  refine Wm.topE (w := 4) (by decide) ?_
  refine m_iald F (j := 4) e_X10_takeText_127 h_fee (by decide) (by unfold vp_in; decide) ?_
  refine Wm.topE (w := 0) (rfl) ?_
  refine m_iast F (j := 0) e_X10_takeText_128 h_fee (by decide) (by unfold vp_in; decide) upd_c (up_self h_fee).symm ?_
  refine m_aload_n F rfl e_X10_takeText_129 ?_
  refine m_get F e_X10_takeText_130 fl_X10_46 h_obj rfl ?_
  refine m_iload_n F rfl e_X10_takeText_133 ?_
  refine m_aload_n F rfl e_X10_takeText_134 ?_
  refine m_get F e_X10_takeText_135 fl_X10_46 h_obj rfl ?_
  refine m_iconst F (v := 4) (by decide) e_X10_takeText_138 ?_
  refine m_iload_n F rfl e_X10_takeText_139 ?_
  refine m_iadd F e_X10_takeText_140 ?_
  refine Wm.topE (w := 4) (by decide) ?_
  refine m_iald F (j := 4) e_X10_takeText_141 h_optionOf (by decide) (by unfold vp_in; decide) ?_
  refine Wm.topE (w := 0) (rfl) ?_
  refine m_iast F (j := 0) e_X10_takeText_142 h_optionOf (by decide) (by unfold vp_in; decide) upd_c (up_self h_optionOf).symm ?_
  refine m_aload_n F rfl e_X10_takeText_143 ?_
  refine m_get F e_X10_takeText_144 fl_X10_49 h_obj rfl ?_
  refine m_iload_n F rfl e_X10_takeText_147 ?_
  refine m_aload_n F rfl e_X10_takeText_148 ?_
  refine m_get F e_X10_takeText_149 fl_X10_49 h_obj rfl ?_
  refine m_iconst F (v := 4) (by decide) e_X10_takeText_152 ?_
  refine m_iload_n F rfl e_X10_takeText_153 ?_
  refine m_iadd F e_X10_takeText_154 ?_
  refine Wm.topE (w := 4) (by decide) ?_
  refine m_iald F (j := 4) e_X10_takeText_155 h_optionMany (by decide) (by unfold vp_in; decide) ?_
  refine Wm.topE (w := 0) (rfl) ?_
  refine m_iast F (j := 0) e_X10_takeText_156 h_optionMany (by decide) (by unfold vp_in; decide) upd_c (up_self h_optionMany).symm ?_
  refine m_aload_n F rfl e_X10_takeText_157 ?_
  refine m_get F e_X10_takeText_158 fl_X10_52 h_obj rfl ?_
  refine m_iload_n F rfl e_X10_takeText_161 ?_
  refine m_aload_n F rfl e_X10_takeText_162 ?_
  refine m_get F e_X10_takeText_163 fl_X10_52 h_obj rfl ?_
  refine m_iconst F (v := 4) (by decide) e_X10_takeText_166 ?_
  refine m_iload_n F rfl e_X10_takeText_167 ?_
  refine m_iadd F e_X10_takeText_168 ?_
  refine Wm.topE (w := 4) (by decide) ?_
  refine m_iald F (j := 4) e_X10_takeText_169 h_optionPays (by decide) (by unfold vp_in; decide) ?_
  refine Wm.topE (w := 0) (rfl) ?_
  refine m_iast F (j := 0) e_X10_takeText_170 h_optionPays (by decide) (by unfold vp_in; decide) upd_c (up_self h_optionPays).symm ?_
  refine m_iinc F (v := 1) (lv' := [(1, .int 1), (0, .ref m)]) e_X10_takeText_171 rfl (by decide) (by decide) rfl ?_
  refine m_goto F e_X10_takeText_174 ?_
  refine m_iload_n F rfl e_X10_takeText_26 ?_
  refine m_iconst F (v := 4) (by decide) e_X10_takeText_27 ?_
  refine m_icmp_ge F e_X10_takeText_28 (fun q => absurd q (by decide)) (fun _ => ?_)
  refine m_aload_n F rfl e_X10_takeText_31 ?_
  refine m_get F e_X10_takeText_32 fl_X10_16 h_obj rfl ?_
  refine m_iload_n F rfl e_X10_takeText_35 ?_
  refine m_aload_n F rfl e_X10_takeText_36 ?_
  refine m_get F e_X10_takeText_37 fl_X10_16 h_obj rfl ?_
  refine m_iconst F (v := 4) (by decide) e_X10_takeText_40 ?_
  refine m_iload_n F rfl e_X10_takeText_41 ?_
  refine m_iadd F e_X10_takeText_42 ?_
  refine Wm.topE (w := 5) (by decide) ?_
  refine m_iald F (j := 5) e_X10_takeText_43 h_name (by decide) (by unfold vp_in; decide) ?_
  refine Wm.topE (w := 0) (rfl) ?_
  refine m_iast F (j := 1) e_X10_takeText_44 h_name (by decide) (by unfold vp_in; decide) upd_c (up_self h_name).symm ?_
  refine m_aload_n F rfl e_X10_takeText_45 ?_
  refine m_get F e_X10_takeText_46 fl_X10_19 h_obj rfl ?_
  refine m_iload_n F rfl e_X10_takeText_49 ?_
  refine m_aload_n F rfl e_X10_takeText_50 ?_
  refine m_get F e_X10_takeText_51 fl_X10_19 h_obj rfl ?_
  refine m_iconst F (v := 4) (by decide) e_X10_takeText_54 ?_
  refine m_iload_n F rfl e_X10_takeText_55 ?_
  refine m_iadd F e_X10_takeText_56 ?_
  refine Wm.topE (w := 5) (by decide) ?_
  refine m_iald F (j := 5) e_X10_takeText_57 h_starts (by decide) (by unfold vp_in; decide) ?_
  refine Wm.topE (w := 0) (rfl) ?_
  refine m_iast F (j := 1) e_X10_takeText_58 h_starts (by decide) (by unfold vp_in; decide) upd_c (up_self h_starts).symm ?_
  refine m_aload_n F rfl e_X10_takeText_59 ?_
  refine m_get F e_X10_takeText_60 fl_X10_22 h_obj rfl ?_
  refine m_iload_n F rfl e_X10_takeText_63 ?_
  refine m_aload_n F rfl e_X10_takeText_64 ?_
  refine m_get F e_X10_takeText_65 fl_X10_22 h_obj rfl ?_
  refine m_iconst F (v := 4) (by decide) e_X10_takeText_68 ?_
  refine m_iload_n F rfl e_X10_takeText_69 ?_
  refine m_iadd F e_X10_takeText_70 ?_
  refine Wm.topE (w := 5) (by decide) ?_
  refine m_iald F (j := 5) e_X10_takeText_71 h_term (by decide) (by unfold vp_in; decide) ?_
  refine Wm.topE (w := 0) (rfl) ?_
  refine m_iast F (j := 1) e_X10_takeText_72 h_term (by decide) (by unfold vp_in; decide) upd_c (up_self h_term).symm ?_
  refine m_aload_n F rfl e_X10_takeText_73 ?_
  refine m_get F e_X10_takeText_74 fl_X10_25 h_obj rfl ?_
  refine m_iload_n F rfl e_X10_takeText_77 ?_
  refine m_aload_n F rfl e_X10_takeText_78 ?_
  refine m_get F e_X10_takeText_79 fl_X10_25 h_obj rfl ?_
  refine m_iconst F (v := 4) (by decide) e_X10_takeText_82 ?_
  refine m_iload_n F rfl e_X10_takeText_83 ?_
  refine m_iadd F e_X10_takeText_84 ?_
  refine Wm.topE (w := 5) (by decide) ?_
  refine m_iald F (j := 5) e_X10_takeText_85 h_toldRate (by decide) (by unfold vp_in; decide) ?_
  refine Wm.topE (w := 0) (rfl) ?_
  refine m_iast F (j := 1) e_X10_takeText_86 h_toldRate (by decide) (by unfold vp_in; decide) upd_c (up_self h_toldRate).symm ?_
  refine m_aload_n F rfl e_X10_takeText_87 ?_
  refine m_get F e_X10_takeText_88 fl_X10_28 h_obj rfl ?_
  refine m_iload_n F rfl e_X10_takeText_91 ?_
  refine m_aload_n F rfl e_X10_takeText_92 ?_
  refine m_get F e_X10_takeText_93 fl_X10_28 h_obj rfl ?_
  refine m_iconst F (v := 4) (by decide) e_X10_takeText_96 ?_
  refine m_iload_n F rfl e_X10_takeText_97 ?_
  refine m_iadd F e_X10_takeText_98 ?_
  refine Wm.topE (w := 5) (by decide) ?_
  refine m_iald F (j := 5) e_X10_takeText_99 h_marks (by decide) (by unfold vp_in; decide) ?_
  refine Wm.topE (w := 0) (rfl) ?_
  refine m_iast F (j := 1) e_X10_takeText_100 h_marks (by decide) (by unfold vp_in; decide) upd_c (up_self h_marks).symm ?_
  refine m_aload_n F rfl e_X10_takeText_101 ?_
  refine m_get F e_X10_takeText_102 fl_X10_31 h_obj rfl ?_
  refine m_iload_n F rfl e_X10_takeText_105 ?_
  refine m_aload_n F rfl e_X10_takeText_106 ?_
  refine m_get F e_X10_takeText_107 fl_X10_31 h_obj rfl ?_
  refine m_iconst F (v := 4) (by decide) e_X10_takeText_110 ?_
  refine m_iload_n F rfl e_X10_takeText_111 ?_
  refine m_iadd F e_X10_takeText_112 ?_
  refine Wm.topE (w := 5) (by decide) ?_
  refine m_iald F (j := 5) e_X10_takeText_113 h_fair (by decide) (by unfold vp_in; decide) ?_
  refine Wm.topE (w := 0) (rfl) ?_
  refine m_iast F (j := 1) e_X10_takeText_114 h_fair (by decide) (by unfold vp_in; decide) upd_c (up_self h_fair).symm ?_
  refine m_aload_n F rfl e_X10_takeText_115 ?_
  refine m_get F e_X10_takeText_116 fl_X10_34 h_obj rfl ?_
  refine m_iload_n F rfl e_X10_takeText_119 ?_
  refine m_aload_n F rfl e_X10_takeText_120 ?_
  refine m_get F e_X10_takeText_121 fl_X10_34 h_obj rfl ?_
  refine m_iconst F (v := 4) (by decide) e_X10_takeText_124 ?_
  refine m_iload_n F rfl e_X10_takeText_125 ?_
  refine m_iadd F e_X10_takeText_126 ?_
  refine Wm.topE (w := 5) (by decide) ?_
  refine m_iald F (j := 5) e_X10_takeText_127 h_fee (by decide) (by unfold vp_in; decide) ?_
  refine Wm.topE (w := 0) (rfl) ?_
  refine m_iast F (j := 1) e_X10_takeText_128 h_fee (by decide) (by unfold vp_in; decide) upd_c (up_self h_fee).symm ?_
  refine m_aload_n F rfl e_X10_takeText_129 ?_
  refine m_get F e_X10_takeText_130 fl_X10_46 h_obj rfl ?_
  refine m_iload_n F rfl e_X10_takeText_133 ?_
  refine m_aload_n F rfl e_X10_takeText_134 ?_
  refine m_get F e_X10_takeText_135 fl_X10_46 h_obj rfl ?_
  refine m_iconst F (v := 4) (by decide) e_X10_takeText_138 ?_
  refine m_iload_n F rfl e_X10_takeText_139 ?_
  refine m_iadd F e_X10_takeText_140 ?_
  refine Wm.topE (w := 5) (by decide) ?_
  refine m_iald F (j := 5) e_X10_takeText_141 h_optionOf (by decide) (by unfold vp_in; decide) ?_
  refine Wm.topE (w := 0) (rfl) ?_
  refine m_iast F (j := 1) e_X10_takeText_142 h_optionOf (by decide) (by unfold vp_in; decide) upd_c (up_self h_optionOf).symm ?_
  refine m_aload_n F rfl e_X10_takeText_143 ?_
  refine m_get F e_X10_takeText_144 fl_X10_49 h_obj rfl ?_
  refine m_iload_n F rfl e_X10_takeText_147 ?_
  refine m_aload_n F rfl e_X10_takeText_148 ?_
  refine m_get F e_X10_takeText_149 fl_X10_49 h_obj rfl ?_
  refine m_iconst F (v := 4) (by decide) e_X10_takeText_152 ?_
  refine m_iload_n F rfl e_X10_takeText_153 ?_
  refine m_iadd F e_X10_takeText_154 ?_
  refine Wm.topE (w := 5) (by decide) ?_
  refine m_iald F (j := 5) e_X10_takeText_155 h_optionMany (by decide) (by unfold vp_in; decide) ?_
  refine Wm.topE (w := 0) (rfl) ?_
  refine m_iast F (j := 1) e_X10_takeText_156 h_optionMany (by decide) (by unfold vp_in; decide) upd_c (up_self h_optionMany).symm ?_
  refine m_aload_n F rfl e_X10_takeText_157 ?_
  refine m_get F e_X10_takeText_158 fl_X10_52 h_obj rfl ?_
  refine m_iload_n F rfl e_X10_takeText_161 ?_
  refine m_aload_n F rfl e_X10_takeText_162 ?_
  refine m_get F e_X10_takeText_163 fl_X10_52 h_obj rfl ?_
  refine m_iconst F (v := 4) (by decide) e_X10_takeText_166 ?_
  refine m_iload_n F rfl e_X10_takeText_167 ?_
  refine m_iadd F e_X10_takeText_168 ?_
  refine Wm.topE (w := 5) (by decide) ?_
  refine m_iald F (j := 5) e_X10_takeText_169 h_optionPays (by decide) (by unfold vp_in; decide) ?_
  refine Wm.topE (w := 0) (rfl) ?_
  refine m_iast F (j := 1) e_X10_takeText_170 h_optionPays (by decide) (by unfold vp_in; decide) upd_c (up_self h_optionPays).symm ?_
  refine m_iinc F (v := 2) (lv' := [(1, .int 2), (0, .ref m)]) e_X10_takeText_171 rfl (by decide) (by decide) rfl ?_
  refine m_goto F e_X10_takeText_174 ?_
  refine m_iload_n F rfl e_X10_takeText_26 ?_
  refine m_iconst F (v := 4) (by decide) e_X10_takeText_27 ?_
  refine m_icmp_ge F e_X10_takeText_28 (fun q => absurd q (by decide)) (fun _ => ?_)
  refine m_aload_n F rfl e_X10_takeText_31 ?_
  refine m_get F e_X10_takeText_32 fl_X10_16 h_obj rfl ?_
  refine m_iload_n F rfl e_X10_takeText_35 ?_
  refine m_aload_n F rfl e_X10_takeText_36 ?_
  refine m_get F e_X10_takeText_37 fl_X10_16 h_obj rfl ?_
  refine m_iconst F (v := 4) (by decide) e_X10_takeText_40 ?_
  refine m_iload_n F rfl e_X10_takeText_41 ?_
  refine m_iadd F e_X10_takeText_42 ?_
  refine Wm.topE (w := 6) (by decide) ?_
  refine m_iald F (j := 6) e_X10_takeText_43 h_name (by decide) (by unfold vp_in; decide) ?_
  refine Wm.topE (w := 0) (rfl) ?_
  refine m_iast F (j := 2) e_X10_takeText_44 h_name (by decide) (by unfold vp_in; decide) upd_c (up_self h_name).symm ?_
  refine m_aload_n F rfl e_X10_takeText_45 ?_
  refine m_get F e_X10_takeText_46 fl_X10_19 h_obj rfl ?_
  refine m_iload_n F rfl e_X10_takeText_49 ?_
  refine m_aload_n F rfl e_X10_takeText_50 ?_
  refine m_get F e_X10_takeText_51 fl_X10_19 h_obj rfl ?_
  refine m_iconst F (v := 4) (by decide) e_X10_takeText_54 ?_
  refine m_iload_n F rfl e_X10_takeText_55 ?_
  refine m_iadd F e_X10_takeText_56 ?_
  refine Wm.topE (w := 6) (by decide) ?_
  refine m_iald F (j := 6) e_X10_takeText_57 h_starts (by decide) (by unfold vp_in; decide) ?_
  refine Wm.topE (w := 0) (rfl) ?_
  refine m_iast F (j := 2) e_X10_takeText_58 h_starts (by decide) (by unfold vp_in; decide) upd_c (up_self h_starts).symm ?_
  refine m_aload_n F rfl e_X10_takeText_59 ?_
  refine m_get F e_X10_takeText_60 fl_X10_22 h_obj rfl ?_
  refine m_iload_n F rfl e_X10_takeText_63 ?_
  refine m_aload_n F rfl e_X10_takeText_64 ?_
  refine m_get F e_X10_takeText_65 fl_X10_22 h_obj rfl ?_
  refine m_iconst F (v := 4) (by decide) e_X10_takeText_68 ?_
  refine m_iload_n F rfl e_X10_takeText_69 ?_
  refine m_iadd F e_X10_takeText_70 ?_
  refine Wm.topE (w := 6) (by decide) ?_
  refine m_iald F (j := 6) e_X10_takeText_71 h_term (by decide) (by unfold vp_in; decide) ?_
  refine Wm.topE (w := 0) (rfl) ?_
  refine m_iast F (j := 2) e_X10_takeText_72 h_term (by decide) (by unfold vp_in; decide) upd_c (up_self h_term).symm ?_
  refine m_aload_n F rfl e_X10_takeText_73 ?_
  refine m_get F e_X10_takeText_74 fl_X10_25 h_obj rfl ?_
  refine m_iload_n F rfl e_X10_takeText_77 ?_
  refine m_aload_n F rfl e_X10_takeText_78 ?_
  refine m_get F e_X10_takeText_79 fl_X10_25 h_obj rfl ?_
  refine m_iconst F (v := 4) (by decide) e_X10_takeText_82 ?_
  refine m_iload_n F rfl e_X10_takeText_83 ?_
  refine m_iadd F e_X10_takeText_84 ?_
  refine Wm.topE (w := 6) (by decide) ?_
  refine m_iald F (j := 6) e_X10_takeText_85 h_toldRate (by decide) (by unfold vp_in; decide) ?_
  refine Wm.topE (w := 0) (rfl) ?_
  refine m_iast F (j := 2) e_X10_takeText_86 h_toldRate (by decide) (by unfold vp_in; decide) upd_c (up_self h_toldRate).symm ?_
  refine m_aload_n F rfl e_X10_takeText_87 ?_
  refine m_get F e_X10_takeText_88 fl_X10_28 h_obj rfl ?_
  refine m_iload_n F rfl e_X10_takeText_91 ?_
  refine m_aload_n F rfl e_X10_takeText_92 ?_
  refine m_get F e_X10_takeText_93 fl_X10_28 h_obj rfl ?_
  refine m_iconst F (v := 4) (by decide) e_X10_takeText_96 ?_
  refine m_iload_n F rfl e_X10_takeText_97 ?_
  refine m_iadd F e_X10_takeText_98 ?_
  refine Wm.topE (w := 6) (by decide) ?_
  refine m_iald F (j := 6) e_X10_takeText_99 h_marks (by decide) (by unfold vp_in; decide) ?_
  refine Wm.topE (w := 0) (rfl) ?_
  refine m_iast F (j := 2) e_X10_takeText_100 h_marks (by decide) (by unfold vp_in; decide) upd_c (up_self h_marks).symm ?_
  refine m_aload_n F rfl e_X10_takeText_101 ?_
  refine m_get F e_X10_takeText_102 fl_X10_31 h_obj rfl ?_
  refine m_iload_n F rfl e_X10_takeText_105 ?_
  refine m_aload_n F rfl e_X10_takeText_106 ?_
  refine m_get F e_X10_takeText_107 fl_X10_31 h_obj rfl ?_
  refine m_iconst F (v := 4) (by decide) e_X10_takeText_110 ?_
  refine m_iload_n F rfl e_X10_takeText_111 ?_
  refine m_iadd F e_X10_takeText_112 ?_
  refine Wm.topE (w := 6) (by decide) ?_
  refine m_iald F (j := 6) e_X10_takeText_113 h_fair (by decide) (by unfold vp_in; decide) ?_
  refine Wm.topE (w := 0) (rfl) ?_
  refine m_iast F (j := 2) e_X10_takeText_114 h_fair (by decide) (by unfold vp_in; decide) upd_c (up_self h_fair).symm ?_
  refine m_aload_n F rfl e_X10_takeText_115 ?_
  refine m_get F e_X10_takeText_116 fl_X10_34 h_obj rfl ?_
  refine m_iload_n F rfl e_X10_takeText_119 ?_
  refine m_aload_n F rfl e_X10_takeText_120 ?_
  refine m_get F e_X10_takeText_121 fl_X10_34 h_obj rfl ?_
  refine m_iconst F (v := 4) (by decide) e_X10_takeText_124 ?_
  refine m_iload_n F rfl e_X10_takeText_125 ?_
  refine m_iadd F e_X10_takeText_126 ?_
  refine Wm.topE (w := 6) (by decide) ?_
  refine m_iald F (j := 6) e_X10_takeText_127 h_fee (by decide) (by unfold vp_in; decide) ?_
  refine Wm.topE (w := 0) (rfl) ?_
  refine m_iast F (j := 2) e_X10_takeText_128 h_fee (by decide) (by unfold vp_in; decide) upd_c (up_self h_fee).symm ?_
  refine m_aload_n F rfl e_X10_takeText_129 ?_
  refine m_get F e_X10_takeText_130 fl_X10_46 h_obj rfl ?_
  refine m_iload_n F rfl e_X10_takeText_133 ?_
  refine m_aload_n F rfl e_X10_takeText_134 ?_
  refine m_get F e_X10_takeText_135 fl_X10_46 h_obj rfl ?_
  refine m_iconst F (v := 4) (by decide) e_X10_takeText_138 ?_
  refine m_iload_n F rfl e_X10_takeText_139 ?_
  refine m_iadd F e_X10_takeText_140 ?_
  refine Wm.topE (w := 6) (by decide) ?_
  refine m_iald F (j := 6) e_X10_takeText_141 h_optionOf (by decide) (by unfold vp_in; decide) ?_
  refine Wm.topE (w := 0) (rfl) ?_
  refine m_iast F (j := 2) e_X10_takeText_142 h_optionOf (by decide) (by unfold vp_in; decide) upd_c (up_self h_optionOf).symm ?_
  refine m_aload_n F rfl e_X10_takeText_143 ?_
  refine m_get F e_X10_takeText_144 fl_X10_49 h_obj rfl ?_
  refine m_iload_n F rfl e_X10_takeText_147 ?_
  refine m_aload_n F rfl e_X10_takeText_148 ?_
  refine m_get F e_X10_takeText_149 fl_X10_49 h_obj rfl ?_
  refine m_iconst F (v := 4) (by decide) e_X10_takeText_152 ?_
  refine m_iload_n F rfl e_X10_takeText_153 ?_
  refine m_iadd F e_X10_takeText_154 ?_
  refine Wm.topE (w := 6) (by decide) ?_
  refine m_iald F (j := 6) e_X10_takeText_155 h_optionMany (by decide) (by unfold vp_in; decide) ?_
  refine Wm.topE (w := 0) (rfl) ?_
  refine m_iast F (j := 2) e_X10_takeText_156 h_optionMany (by decide) (by unfold vp_in; decide) upd_c (up_self h_optionMany).symm ?_
  refine m_aload_n F rfl e_X10_takeText_157 ?_
  refine m_get F e_X10_takeText_158 fl_X10_52 h_obj rfl ?_
  refine m_iload_n F rfl e_X10_takeText_161 ?_
  refine m_aload_n F rfl e_X10_takeText_162 ?_
  refine m_get F e_X10_takeText_163 fl_X10_52 h_obj rfl ?_
  refine m_iconst F (v := 4) (by decide) e_X10_takeText_166 ?_
  refine m_iload_n F rfl e_X10_takeText_167 ?_
  refine m_iadd F e_X10_takeText_168 ?_
  refine Wm.topE (w := 6) (by decide) ?_
  refine m_iald F (j := 6) e_X10_takeText_169 h_optionPays (by decide) (by unfold vp_in; decide) ?_
  refine Wm.topE (w := 0) (rfl) ?_
  refine m_iast F (j := 2) e_X10_takeText_170 h_optionPays (by decide) (by unfold vp_in; decide) upd_c (up_self h_optionPays).symm ?_
  refine m_iinc F (v := 3) (lv' := [(1, .int 3), (0, .ref m)]) e_X10_takeText_171 rfl (by decide) (by decide) rfl ?_
  refine m_goto F e_X10_takeText_174 ?_
  refine m_iload_n F rfl e_X10_takeText_26 ?_
  refine m_iconst F (v := 4) (by decide) e_X10_takeText_27 ?_
  refine m_icmp_ge F e_X10_takeText_28 (fun q => absurd q (by decide)) (fun _ => ?_)
  refine m_aload_n F rfl e_X10_takeText_31 ?_
  refine m_get F e_X10_takeText_32 fl_X10_16 h_obj rfl ?_
  refine m_iload_n F rfl e_X10_takeText_35 ?_
  refine m_aload_n F rfl e_X10_takeText_36 ?_
  refine m_get F e_X10_takeText_37 fl_X10_16 h_obj rfl ?_
  refine m_iconst F (v := 4) (by decide) e_X10_takeText_40 ?_
  refine m_iload_n F rfl e_X10_takeText_41 ?_
  refine m_iadd F e_X10_takeText_42 ?_
  refine Wm.topE (w := 7) (by decide) ?_
  refine m_iald F (j := 7) e_X10_takeText_43 h_name (by decide) (by unfold vp_in; decide) ?_
  refine Wm.topE (w := 0) (rfl) ?_
  refine m_iast F (j := 3) e_X10_takeText_44 h_name (by decide) (by unfold vp_in; decide) upd_c (up_self h_name).symm ?_
  refine m_aload_n F rfl e_X10_takeText_45 ?_
  refine m_get F e_X10_takeText_46 fl_X10_19 h_obj rfl ?_
  refine m_iload_n F rfl e_X10_takeText_49 ?_
  refine m_aload_n F rfl e_X10_takeText_50 ?_
  refine m_get F e_X10_takeText_51 fl_X10_19 h_obj rfl ?_
  refine m_iconst F (v := 4) (by decide) e_X10_takeText_54 ?_
  refine m_iload_n F rfl e_X10_takeText_55 ?_
  refine m_iadd F e_X10_takeText_56 ?_
  refine Wm.topE (w := 7) (by decide) ?_
  refine m_iald F (j := 7) e_X10_takeText_57 h_starts (by decide) (by unfold vp_in; decide) ?_
  refine Wm.topE (w := 0) (rfl) ?_
  refine m_iast F (j := 3) e_X10_takeText_58 h_starts (by decide) (by unfold vp_in; decide) upd_c (up_self h_starts).symm ?_
  refine m_aload_n F rfl e_X10_takeText_59 ?_
  refine m_get F e_X10_takeText_60 fl_X10_22 h_obj rfl ?_
  refine m_iload_n F rfl e_X10_takeText_63 ?_
  refine m_aload_n F rfl e_X10_takeText_64 ?_
  refine m_get F e_X10_takeText_65 fl_X10_22 h_obj rfl ?_
  refine m_iconst F (v := 4) (by decide) e_X10_takeText_68 ?_
  refine m_iload_n F rfl e_X10_takeText_69 ?_
  refine m_iadd F e_X10_takeText_70 ?_
  refine Wm.topE (w := 7) (by decide) ?_
  refine m_iald F (j := 7) e_X10_takeText_71 h_term (by decide) (by unfold vp_in; decide) ?_
  refine Wm.topE (w := 0) (rfl) ?_
  refine m_iast F (j := 3) e_X10_takeText_72 h_term (by decide) (by unfold vp_in; decide) upd_c (up_self h_term).symm ?_
  refine m_aload_n F rfl e_X10_takeText_73 ?_
  refine m_get F e_X10_takeText_74 fl_X10_25 h_obj rfl ?_
  refine m_iload_n F rfl e_X10_takeText_77 ?_
  refine m_aload_n F rfl e_X10_takeText_78 ?_
  refine m_get F e_X10_takeText_79 fl_X10_25 h_obj rfl ?_
  refine m_iconst F (v := 4) (by decide) e_X10_takeText_82 ?_
  refine m_iload_n F rfl e_X10_takeText_83 ?_
  refine m_iadd F e_X10_takeText_84 ?_
  refine Wm.topE (w := 7) (by decide) ?_
  refine m_iald F (j := 7) e_X10_takeText_85 h_toldRate (by decide) (by unfold vp_in; decide) ?_
  refine Wm.topE (w := 0) (rfl) ?_
  refine m_iast F (j := 3) e_X10_takeText_86 h_toldRate (by decide) (by unfold vp_in; decide) upd_c (up_self h_toldRate).symm ?_
  refine m_aload_n F rfl e_X10_takeText_87 ?_
  refine m_get F e_X10_takeText_88 fl_X10_28 h_obj rfl ?_
  refine m_iload_n F rfl e_X10_takeText_91 ?_
  refine m_aload_n F rfl e_X10_takeText_92 ?_
  refine m_get F e_X10_takeText_93 fl_X10_28 h_obj rfl ?_
  refine m_iconst F (v := 4) (by decide) e_X10_takeText_96 ?_
  refine m_iload_n F rfl e_X10_takeText_97 ?_
  refine m_iadd F e_X10_takeText_98 ?_
  refine Wm.topE (w := 7) (by decide) ?_
  refine m_iald F (j := 7) e_X10_takeText_99 h_marks (by decide) (by unfold vp_in; decide) ?_
  refine Wm.topE (w := 0) (rfl) ?_
  refine m_iast F (j := 3) e_X10_takeText_100 h_marks (by decide) (by unfold vp_in; decide) upd_c (up_self h_marks).symm ?_
  refine m_aload_n F rfl e_X10_takeText_101 ?_
  refine m_get F e_X10_takeText_102 fl_X10_31 h_obj rfl ?_
  refine m_iload_n F rfl e_X10_takeText_105 ?_
  refine m_aload_n F rfl e_X10_takeText_106 ?_
  refine m_get F e_X10_takeText_107 fl_X10_31 h_obj rfl ?_
  refine m_iconst F (v := 4) (by decide) e_X10_takeText_110 ?_
  refine m_iload_n F rfl e_X10_takeText_111 ?_
  refine m_iadd F e_X10_takeText_112 ?_
  refine Wm.topE (w := 7) (by decide) ?_
  refine m_iald F (j := 7) e_X10_takeText_113 h_fair (by decide) (by unfold vp_in; decide) ?_
  refine Wm.topE (w := 0) (rfl) ?_
  refine m_iast F (j := 3) e_X10_takeText_114 h_fair (by decide) (by unfold vp_in; decide) upd_c (up_self h_fair).symm ?_
  refine m_aload_n F rfl e_X10_takeText_115 ?_
  refine m_get F e_X10_takeText_116 fl_X10_34 h_obj rfl ?_
  refine m_iload_n F rfl e_X10_takeText_119 ?_
  refine m_aload_n F rfl e_X10_takeText_120 ?_
  refine m_get F e_X10_takeText_121 fl_X10_34 h_obj rfl ?_
  refine m_iconst F (v := 4) (by decide) e_X10_takeText_124 ?_
  refine m_iload_n F rfl e_X10_takeText_125 ?_
  refine m_iadd F e_X10_takeText_126 ?_
  refine Wm.topE (w := 7) (by decide) ?_
  refine m_iald F (j := 7) e_X10_takeText_127 h_fee (by decide) (by unfold vp_in; decide) ?_
  refine Wm.topE (w := 0) (rfl) ?_
  refine m_iast F (j := 3) e_X10_takeText_128 h_fee (by decide) (by unfold vp_in; decide) upd_c (up_self h_fee).symm ?_
  refine m_aload_n F rfl e_X10_takeText_129 ?_
  refine m_get F e_X10_takeText_130 fl_X10_46 h_obj rfl ?_
  refine m_iload_n F rfl e_X10_takeText_133 ?_
  refine m_aload_n F rfl e_X10_takeText_134 ?_
  refine m_get F e_X10_takeText_135 fl_X10_46 h_obj rfl ?_
  refine m_iconst F (v := 4) (by decide) e_X10_takeText_138 ?_
  refine m_iload_n F rfl e_X10_takeText_139 ?_
  refine m_iadd F e_X10_takeText_140 ?_
  refine Wm.topE (w := 7) (by decide) ?_
  refine m_iald F (j := 7) e_X10_takeText_141 h_optionOf (by decide) (by unfold vp_in; decide) ?_
  refine Wm.topE (w := 0) (rfl) ?_
  refine m_iast F (j := 3) e_X10_takeText_142 h_optionOf (by decide) (by unfold vp_in; decide) upd_c (up_self h_optionOf).symm ?_
  refine m_aload_n F rfl e_X10_takeText_143 ?_
  refine m_get F e_X10_takeText_144 fl_X10_49 h_obj rfl ?_
  refine m_iload_n F rfl e_X10_takeText_147 ?_
  refine m_aload_n F rfl e_X10_takeText_148 ?_
  refine m_get F e_X10_takeText_149 fl_X10_49 h_obj rfl ?_
  refine m_iconst F (v := 4) (by decide) e_X10_takeText_152 ?_
  refine m_iload_n F rfl e_X10_takeText_153 ?_
  refine m_iadd F e_X10_takeText_154 ?_
  refine Wm.topE (w := 7) (by decide) ?_
  refine m_iald F (j := 7) e_X10_takeText_155 h_optionMany (by decide) (by unfold vp_in; decide) ?_
  refine Wm.topE (w := 0) (rfl) ?_
  refine m_iast F (j := 3) e_X10_takeText_156 h_optionMany (by decide) (by unfold vp_in; decide) upd_c (up_self h_optionMany).symm ?_
  refine m_aload_n F rfl e_X10_takeText_157 ?_
  refine m_get F e_X10_takeText_158 fl_X10_52 h_obj rfl ?_
  refine m_iload_n F rfl e_X10_takeText_161 ?_
  refine m_aload_n F rfl e_X10_takeText_162 ?_
  refine m_get F e_X10_takeText_163 fl_X10_52 h_obj rfl ?_
  refine m_iconst F (v := 4) (by decide) e_X10_takeText_166 ?_
  refine m_iload_n F rfl e_X10_takeText_167 ?_
  refine m_iadd F e_X10_takeText_168 ?_
  refine Wm.topE (w := 7) (by decide) ?_
  refine m_iald F (j := 7) e_X10_takeText_169 h_optionPays (by decide) (by unfold vp_in; decide) ?_
  refine Wm.topE (w := 0) (rfl) ?_
  refine m_iast F (j := 3) e_X10_takeText_170 h_optionPays (by decide) (by unfold vp_in; decide) upd_c (up_self h_optionPays).symm ?_
  refine m_iinc F (v := 4) (lv' := [(1, .int 4), (0, .ref m)]) e_X10_takeText_171 rfl (by decide) (by decide) rfl ?_
  refine m_goto F e_X10_takeText_174 ?_
  refine m_iload_n F rfl e_X10_takeText_26 ?_
  refine m_iconst F (v := 4) (by decide) e_X10_takeText_27 ?_
  refine m_icmp_ge F e_X10_takeText_28 (fun _ => ?_) (fun q => absurd (by decide) q)
  refine m_iconst F (v := 0) (by decide) e_X10_takeText_177 ?_
  refine m_istore_n F (lv' := [(1, .int 0), (0, .ref m)]) e_X10_takeText_178 (by decide) rfl ?_
  exact lp_takeText0 F hQ h_obj h_number h_name h_starts h_term h_toldRate h_marks h_fair h_fee h_toldPay h_changeAt h_changeTo h_optionOf h_optionMany h_optionPays ⟨rfl, rfl⟩ 193 0 (by omega) (by omega)
set_option maxRecDepth 20000 in
theorem lp_begins1 {V : VX} {X : MX} {N : Nat} {σ : Mem} (F : Fx V X yX10_begins cX10_begins 4 none (rmd 1 0 0)) {m : Nat} {v_thrown v_taped v_lines v_size v_at v_place v_sort v_value v_fault v_faultPlace v_lastFault v_lastPlace v_undoable v_hasImage v_drawn : Int32} (h_obj : σ m = some (ob 8 [.int v_thrown, .ref (m + 1), .int v_taped, .ref (m + 2), .ref (m + 3), .ref (m + 4), .ref (m + 5), .ref (m + 6), .ref (m + 7), .ref (m + 8), .ref (m + 9), .ref (m + 10), .ref (m + 11), .ref (m + 12), .ref (m + 13), .ref (m + 14), .ref (m + 15), .int v_lines, .int v_size, .int v_at, .int v_place, .int v_sort, .int v_value, .int v_fault, .int v_faultPlace, .int v_lastFault, .int v_lastPlace, .ref (m + 16), .ref (m + 17), .ref (m + 18), .ref (m + 19), .ref (m + 20), .int v_undoable, .int v_hasImage, .ref (m + 21), .ref (m + 22), .int v_drawn])) (h_number : σ (m + 2) = some (aI V 10 (fun _ => 0))) {f : Nat → Int64} (hk : Wm V X 4 N (va_up σ (m + 16) (some (aJ V 1113 (fillJ f 0 0 1113)))) 0 0 22 [(1, .int (nI 1113)), (0, .ref m)] []) : ∀ n i : Nat, i ≤ 1113 → 1113 - i < n → Wm V X 4 N (va_up σ (m + 16) (some (aJ V 1113 (fillJ f 0 0 i)))) 0 0 2 [(1, .int (nI i)), (0, .ref m)] [] := by
  intro n
  induction n with
  | zero => intro i h1 h2; exact absurd h2 (by omega)
  | succ n ih =>
    intro i h1 h2
    refine m_iload_n F rfl e_X10_begins_2 ?_
    refine m_sipush F (v := 1113) (by decide) e_X10_begins_3 ?_
    refine m_icmp_ge F e_X10_begins_6 (fun q6 => ?_) (fun q6 => ?_)
    · have c6 : i ≥ 1113 := (nI_leI (a := 1113) (b := i) (by omega) (by omega)).mp q6
      have hi : i = 1113 := by omega
      subst hi
      exact hk
    · have c6 : i < 1113 := by have hh := mt (nI_leI (a := 1113) (b := i) (by omega) (by omega)).mpr q6; omega
      refine m_aload_n F rfl e_X10_begins_9 ?_
      refine m_get F e_X10_begins_10 fl_X10_59 (ru_ne (by omega) h_obj) rfl ?_
      refine m_iload_n F rfl e_X10_begins_13 ?_
      refine m_lconst F (v := 0) (by decide) e_X10_begins_14 ?_
      refine m_last F (j := i) e_X10_begins_15 ru_eq (nI_clamp (by omega)) (vp_in_nI (by omega) (by omega)) rfl (bx_uu _ _ _ _) ?_
      refine m_iinc F (v := nI (i + 1)) (lv' := [(1, .int (nI (i + 1))), (0, .ref m)]) e_X10_begins_16 rfl (nI_add i 1) (by decide) rfl ?_
      refine m_goto F e_X10_begins_19 ?_
      refine Wm.memE (congrArg (fun g => va_up σ (m + 16) (some (aJ V 1113 g))) (fillJ_upd (by omega))) ?_
      exact ih (i + 1) (by omega) (by omega)
set_option maxRecDepth 20000 in
theorem lp_begins2 {V : VX} {X : MX} {N : Nat} {σ : Mem} {Post : Option Value → Mem → Prop} (F : Fx V X yX10_begins cX10_begins 4 none (rmd 1 0 0)) (hQ : Rt V X 0 0 N Post) {m : Nat} {v_thrown v_taped v_lines v_size v_at v_place v_sort v_value v_fault v_faultPlace v_lastFault v_lastPlace v_undoable v_hasImage v_drawn : Int32} (h_obj : σ m = some (ob 8 [.int v_thrown, .ref (m + 1), .int v_taped, .ref (m + 2), .ref (m + 3), .ref (m + 4), .ref (m + 5), .ref (m + 6), .ref (m + 7), .ref (m + 8), .ref (m + 9), .ref (m + 10), .ref (m + 11), .ref (m + 12), .ref (m + 13), .ref (m + 14), .ref (m + 15), .int v_lines, .int v_size, .int v_at, .int v_place, .int v_sort, .int v_value, .int v_fault, .int v_faultPlace, .int v_lastFault, .int v_lastPlace, .ref (m + 16), .ref (m + 17), .ref (m + 18), .ref (m + 19), .ref (m + 20), .int v_undoable, .int v_hasImage, .ref (m + 21), .ref (m + 22), .int v_drawn])) (h_number : σ (m + 2) = some (aI V 10 (fun _ => 0))) {f : Nat → Int64} (hp : Post none (va_up σ (m + 16) (some (aJ V 1113 (fillJ f 1000 644 (644 + 100)))))) : ∀ n i : Nat, i ≤ 100 → 100 - i < n → Wm V X 4 N (va_up σ (m + 16) (some (aJ V 1113 (fillJ f 1000 644 (644 + i))))) 0 0 24 [(1, .int (nI i)), (0, .ref m)] [] := by
  intro n
  induction n with
  | zero => intro i h1 h2; exact absurd h2 (by omega)
  | succ n ih =>
    intro i h1 h2
    refine m_iload_n F rfl e_X10_begins_24 ?_
    refine m_bipush F (v := 99) (by decide) e_X10_begins_25 ?_
    refine m_icmp_gt F e_X10_begins_27 (fun q27 => ?_) (fun q27 => ?_)
    · have c27 : i > 99 := (nI_ltI (a := 99) (b := i) (by omega) (by omega)).mp q27
      have hi : i = 100 := by omega
      subst hi
      refine m_iconst F (v := 0) (by decide) e_X10_begins_94 ?_
      refine m_istore_n F (lv' := [(1, .int 0), (0, .ref m)]) e_X10_begins_95 (by decide) rfl ?_
      refine m_iload_n F rfl e_X10_begins_96 ?_
      refine m_aload_n F rfl e_X10_begins_97 ?_
      refine m_callV F e_X10_begins_98 (k_leases0 (x_l X) V _ _ m v_thrown v_taped v_lines v_size v_at v_place v_sort v_value v_fault v_faultPlace v_lastFault v_lastPlace v_undoable v_hasImage v_drawn  (ru_ne (by omega) h_obj) (ru_ne (by omega) h_number) ) cb_X10_leases ml_X10_221 im_X10_leases se_X10_leases (ru_ne (by omega) h_obj) rfl rfl (rest := [.int 0]) rfl (Nat.le_of_ble_eq_true rfl) ⟨Nat.le_of_ble_eq_true rfl, Nat.le_of_ble_eq_true rfl⟩ ⟨Nat.le_of_ble_eq_true rfl, Nat.le_of_ble_eq_true rfl⟩ (k' := 0) (z' := 0) (N' := N) rfl rfl rfl (fun r τ hp => ?_)
      obtain ⟨rfl, rfl⟩ := hp
      refine m_icmp_ge F e_X10_begins_101 (fun _ => ?_) (fun q => absurd (by decide) q)
      exact m_vret F hQ e_X10_begins_274 (hp)
    · have c27 : i ≤ 99 := by have hh := mt (nI_ltI (a := 99) (b := i) (by omega) (by omega)).mpr q27; omega
      refine m_aload_n F rfl e_X10_begins_30 ?_
      refine m_get F e_X10_begins_31 fl_X10_59 (ru_ne (by omega) h_obj) rfl ?_
      refine m_sipush F (v := 644) (by decide) e_X10_begins_34 ?_
      refine m_iload_n F rfl e_X10_begins_37 ?_
      refine m_iadd F e_X10_begins_38 ?_
      refine Wm.topE (w := nI (644 + i)) (nI_add 644 i) ?_
      refine m_ldc2 F kc_X10_224 e_X10_begins_39 ?_
      refine m_last F (j := 644 + i) e_X10_begins_42 ru_eq (nI_clamp (by omega)) (vp_in_nI (by omega) (by omega)) rfl (bx_uu _ _ _ _) ?_
      refine m_iconst F (v := 0) (by decide) e_X10_begins_43 ?_
      refine m_istore_n F (lv' := [(2, .int 0), (1, .int (nI i)), (0, .ref m)]) e_X10_begins_44 (by decide) rfl ?_
      refine m_iload_n F rfl e_X10_begins_45 ?_
      refine m_aload_n F rfl e_X10_begins_46 ?_
      refine m_get F e_X10_begins_47 fl_X10_13 (ru_ne (by omega) h_obj) rfl ?_
      refine m_iconst F (v := 2) (by decide) e_X10_begins_50 ?_
      refine m_iald F (j := 2) e_X10_begins_51 (ru_ne (by omega) h_number) (by decide) (by unfold vp_in; decide) ?_
      refine Wm.topE (w := 0) (rfl) ?_
      refine m_icmp_ge F e_X10_begins_52 (fun _ => ?_) (fun q => absurd (by decide) q)
      refine m_iinc F (v := nI (i + 1)) (lv' := [(1, .int (nI (i + 1))), (2, .int 0), (0, .ref m)]) e_X10_begins_88 rfl (nI_add i 1) (by decide) rfl ?_
      refine m_goto F e_X10_begins_91 ?_
      refine Wm.lvsub (lv' := [(1, .int (nI (i + 1))), (0, .ref m)]) ?_ [0, 2] rfl
      refine Wm.memE (congrArg (fun g => va_up σ (m + 16) (some (aJ V 1113 g))) (fillJ_upd (by omega))) ?_
      exact ih (i + 1) (by omega) (by omega)
set_option maxRecDepth 20000 in
theorem k_begins0 (l : Launch) (V : VX) (N : Nat) (σ : Mem) (m : Nat) (v_thrown v_taped v_lines v_size v_at v_place v_sort v_value v_fault v_faultPlace v_lastFault v_lastPlace v_undoable v_hasImage v_drawn : Int32) (f : Nat → Int64) (h_obj : σ m = some (ob 8 [.int v_thrown, .ref (m + 1), .int v_taped, .ref (m + 2), .ref (m + 3), .ref (m + 4), .ref (m + 5), .ref (m + 6), .ref (m + 7), .ref (m + 8), .ref (m + 9), .ref (m + 10), .ref (m + 11), .ref (m + 12), .ref (m + 13), .ref (m + 14), .ref (m + 15), .int v_lines, .int v_size, .int v_at, .int v_place, .int v_sort, .int v_value, .int v_fault, .int v_faultPlace, .int v_lastFault, .int v_lastPlace, .ref (m + 16), .ref (m + 17), .ref (m + 18), .ref (m + 19), .ref (m + 20), .int v_undoable, .int v_hasImage, .ref (m + 21), .ref (m + 22), .int v_drawn])) (h_number : σ (m + 2) = some (aI V 10 (fun _ => 0))) (h_s : σ (m + 16) = some (aJ V 1113 f))  : Ct l V yX10_begins cX10_begins 4 none 1 0 0 N σ [.ref m] (fun r τ => r = none ∧ τ = va_up σ (m + 16) (some (aJ V 1113 sZ))) := by
  refine Ct.of (by decide) (Nat.le_of_ble_eq_true rfl) [(0, .ref m)] rfl (fun X hX F hQ => ?_)
  refine m_iconst F (v := 0) (by decide) e_X10_begins_0 ?_
  refine m_istore_n F (lv' := [(1, .int 0), (0, .ref m)]) e_X10_begins_1 (by decide) rfl ?_
  refine Wm.memE (up_self h_s) ?_
  refine Wm.memE (congrArg (fun g => va_up σ (m + 16) (some (aJ V 1113 g))) (fillJ_0 (lo := 0) (v := 0)).symm) ?_
  refine lp_begins1 F h_obj h_number ?_ 1114 0 (by omega) (by omega)
  refine reJ (g := (fun _ => 0)) (fun j hj => by simp only [fillJ]; rw [if_pos ⟨Nat.zero_le _, hj⟩]) ?_
  refine m_iconst F (v := 0) (by decide) e_X10_begins_22 ?_
  refine m_istore_n F (lv' := [(1, .int 0), (0, .ref m)]) e_X10_begins_23 (by decide) rfl ?_
  refine Wm.memE (congrArg (fun g => va_up σ (m + 16) (some (aJ V 1113 g))) (fillJ_0 (lo := 644) (v := 1000)).symm) ?_
  exact lp_begins2 F hQ h_obj h_number ⟨rfl, rfl⟩ 101 0 (by omega) (by omega)
