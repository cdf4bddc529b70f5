theorem e_X10_chance_125 : DC cX10_chance 125 2 127 (.iload 11) := ⟨by decide +kernel, rfl⟩
theorem e_X10_chance_127 : DC cX10_chance 127 2 129 (.bipush 12) := ⟨by decide +kernel, rfl⟩
theorem e_X10_chance_129 : DJ cX10_chance 129 165 132 (.if_icmp .ge) := DJ.mk 36 (by decide +kernel) (by decide) rfl
theorem e_X10_chance_132 : DC cX10_chance 132 1 133 (.aload_n 0) := ⟨by decide +kernel, rfl⟩
theorem e_X10_chance_133 : DC cX10_chance 133 1 134 (.aload_n 0) := ⟨by decide +kernel, rfl⟩
theorem e_X10_chance_134 : DC cX10_chance 134 3 137 (.invokevirtual 260) := ⟨by decide +kernel, rfl⟩
theorem e_X10_chance_137 : DC cX10_chance 137 1 138 (.aload_n 0) := ⟨by decide +kernel, rfl⟩
theorem e_X10_chance_138 : DC cX10_chance 138 2 140 (.bipush 21) := ⟨by decide +kernel, rfl⟩
theorem e_X10_chance_140 : DC cX10_chance 140 3 143 (.invokevirtual 364) := ⟨by decide +kernel, rfl⟩
theorem cb_X10_draw : CB yX10_draw cX10_draw 2 (some .int) 1 := ⟨tb_in 1959 (by decide +kernel) (by decide +kernel), tb_in 10 (by decide +kernel) (by decide +kernel), by decide +kernel⟩
theorem ml_X10_364 : Cond.methodLink RX10 364 yX10_draw ∈ tb := tb_in 1956 (by decide +kernel) (by decide +kernel)
theorem im_X10_draw : Cond.instanceMethod yX10_draw ∈ tb := tb_in 1958 (by decide +kernel) (by decide +kernel)
theorem se_X10_draw : Cond.selects (yX10_draw).cls yX10_draw yX10_draw ∈ tb := tb_sel 61 (by decide +kernel) (by decide +kernel)
theorem e_X10_chance_143 : DC cX10_chance 143 1 144 (.i2l) := ⟨by decide +kernel, rfl⟩
theorem e_X10_chance_144 : DC cX10_chance 144 1 145 (.ladd) := ⟨by decide +kernel, rfl⟩
theorem e_X10_chance_145 : DC cX10_chance 145 3 148 (.ldc2_w 367) := ⟨by decide +kernel, rfl⟩
theorem kc_X10_367 : Cond.constantLong RX10 367 10 ∈ tb := tb_in 1962 (by decide +kernel) (by decide +kernel)
theorem e_X10_chance_148 : DC cX10_chance 148 1 149 (.lsub) := ⟨by decide +kernel, rfl⟩
theorem e_X10_chance_149 : DC cX10_chance 149 3 152 (.invokestatic 369) := ⟨by decide +kernel, rfl⟩
theorem cb_X10_held : CB yX10_held cX10_held 2 (some .long) 1 := ⟨tb_in 1965 (by decide +kernel) (by decide +kernel), tb_in 10 (by decide +kernel) (by decide +kernel), by decide +kernel⟩
theorem ml_X10_369 : Cond.methodLink RX10 369 yX10_held ∈ tb := tb_in 1963 (by decide +kernel) (by decide +kernel)
theorem sm_X10_held : Cond.static yX10_held ∈ tb := tb_in 1964 (by decide +kernel) (by decide +kernel)
theorem e_X10_chance_152 : DC cX10_chance 152 3 155 (.invokevirtual 322) := ⟨by decide +kernel, rfl⟩
theorem e_X10_chance_155 : DC cX10_chance 155 1 156 (.aload_n 0) := ⟨by decide +kernel, rfl⟩
theorem e_X10_chance_156 : DC cX10_chance 156 3 159 (.invokevirtual 289) := ⟨by decide +kernel, rfl⟩
theorem e_X10_chance_159 : DC cX10_chance 159 3 162 (.iinc 11 1) := ⟨by decide +kernel, rfl⟩
theorem e_X10_chance_162 : DJ cX10_chance 162 125 165 .goto := DJ.mk (-37) (by decide +kernel) (by decide) rfl
theorem e_X10_chance_116 : DC cX10_chance 116 2 118 (.iload 10) := ⟨by decide +kernel, rfl⟩
theorem e_X10_chance_118 : DC cX10_chance 118 1 119 (.iload_n 2) := ⟨by decide +kernel, rfl⟩
theorem e_X10_chance_119 : DJ cX10_chance 119 241 122 (.if_icmp .ge) := DJ.mk 122 (by decide +kernel) (by decide) rfl
theorem e_X10_chance_241 : DC cX10_chance 241 1 242 (.iload_n 3) := ⟨by decide +kernel, rfl⟩
theorem e_X10_chance_242 : DJ cX10_chance 242 250 245 (.ifCond .ne) := DJ.mk 8 (by decide +kernel) (by decide) rfl
theorem e_X10_chance_250 : DC cX10_chance 250 1 251 (.iload_n 3) := ⟨by decide +kernel, rfl⟩
theorem e_X10_chance_251 : DC cX10_chance 251 1 252 (.iconst 1) := ⟨by decide +kernel, rfl⟩
theorem e_X10_chance_252 : DJ cX10_chance 252 260 255 (.if_icmp .ne) := DJ.mk 8 (by decide +kernel) (by decide) rfl
theorem e_X10_chance_260 : DC cX10_chance 260 2 262 (.lload 8) := ⟨by decide +kernel, rfl⟩
theorem e_X10_chance_262 : DC cX10_chance 262 1 263 (.lreturn) := ⟨by decide +kernel, rfl⟩
theorem e_X10_chance_255 : DC cX10_chance 255 2 257 (.lload 6) := ⟨by decide +kernel, rfl⟩
theorem e_X10_chance_257 : DJ cX10_chance 257 262 260 .goto := DJ.mk 5 (by decide +kernel) (by decide) rfl
theorem e_X10_chance_245 : DC cX10_chance 245 2 247 (.lload 4) := ⟨by decide +kernel, rfl⟩
theorem e_X10_chance_247 : DJ cX10_chance 247 262 250 .goto := DJ.mk 15 (by decide +kernel) (by decide) rfl
theorem e_X10_chance_122 : DC cX10_chance 122 1 123 (.iconst 0) := ⟨by decide +kernel, rfl⟩
theorem e_X10_chance_123 : DC cX10_chance 123 2 125 (.istore 11) := ⟨by decide +kernel, rfl⟩
theorem e_X10_chance_165 : DC cX10_chance 165 1 166 (.aload_n 0) := ⟨by decide +kernel, rfl⟩
theorem e_X10_chance_166 : DC cX10_chance 166 3 169 (.invokevirtual 335) := ⟨by decide +kernel, rfl⟩
theorem e_X10_chance_169 : DC cX10_chance 169 2 171 (.lstore 11) := ⟨by decide +kernel, rfl⟩
theorem e_X10_chance_171 : DC cX10_chance 171 2 173 (.lload 4) := ⟨by decide +kernel, rfl⟩
theorem e_X10_chance_173 : DC cX10_chance 173 2 175 (.lload 11) := ⟨by decide +kernel, rfl⟩
theorem e_X10_chance_175 : DC cX10_chance 175 1 176 (.ladd) := ⟨by decide +kernel, rfl⟩
theorem e_X10_chance_176 : DC cX10_chance 176 2 178 (.lstore 4) := ⟨by decide +kernel, rfl⟩
theorem e_X10_chance_178 : DC cX10_chance 178 2 180 (.iload 10) := ⟨by decide +kernel, rfl⟩
theorem e_X10_chance_180 : DJ cX10_chance 180 191 183 (.ifCond .eq) := DJ.mk 11 (by decide +kernel) (by decide) rfl
theorem e_X10_chance_191 : DC cX10_chance 191 2 193 (.lload 11) := ⟨by decide +kernel, rfl⟩
theorem e_X10_chance_193 : DJ cX10_chance 193 198 196 .goto := DJ.mk 5 (by decide +kernel) (by decide) rfl
theorem e_X10_chance_198 : DC cX10_chance 198 2 200 (.lstore 6) := ⟨by decide +kernel, rfl⟩
theorem e_X10_chance_200 : DC cX10_chance 200 2 202 (.iload 10) := ⟨by decide +kernel, rfl⟩
theorem e_X10_chance_202 : DJ cX10_chance 202 213 205 (.ifCond .eq) := DJ.mk 11 (by decide +kernel) (by decide) rfl
theorem e_X10_chance_213 : DC cX10_chance 213 2 215 (.lload 11) := ⟨by decide +kernel, rfl⟩
theorem e_X10_chance_215 : DJ cX10_chance 215 220 218 .goto := DJ.mk 5 (by decide +kernel) (by decide) rfl
theorem e_X10_chance_220 : DC cX10_chance 220 2 222 (.lstore 8) := ⟨by decide +kernel, rfl⟩
theorem e_X10_chance_222 : DC cX10_chance 222 1 223 (.aload_n 0) := ⟨by decide +kernel, rfl⟩
theorem e_X10_chance_223 : DC cX10_chance 223 3 226 (.getfield 66) := ⟨by decide +kernel, rfl⟩
theorem fl_X10_66 : FL RX10 66 8 29 := ⟨RX10, TX10, 37, rfl, by decide, uw_8, tb_in 1489 (by decide +kernel) (by decide +kernel), rfl⟩
theorem e_X10_chance_226 : DC cX10_chance 226 1 227 (.iconst 0) := ⟨by decide +kernel, rfl⟩
theorem e_X10_chance_227 : DC cX10_chance 227 1 228 (.aload_n 0) := ⟨by decide +kernel, rfl⟩
theorem e_X10_chance_228 : DC cX10_chance 228 3 231 (.getfield 59) := ⟨by decide +kernel, rfl⟩
theorem e_X10_chance_231 : DC cX10_chance 231 1 232 (.iconst 0) := ⟨by decide +kernel, rfl⟩
theorem e_X10_chance_232 : DC cX10_chance 232 3 235 (.invokestatic 230) := ⟨by decide +kernel, rfl⟩
theorem e_X10_chance_235 : DC cX10_chance 235 3 238 (.iinc 10 1) := ⟨by decide +kernel, rfl⟩
theorem e_X10_chance_238 : DJ cX10_chance 238 116 241 .goto := DJ.mk (-122) (by decide +kernel) (by decide) rfl
theorem e_X10_chance_205 : DC cX10_chance 205 2 207 (.lload 11) := ⟨by decide +kernel, rfl⟩
theorem e_X10_chance_207 : DC cX10_chance 207 2 209 (.lload 8) := ⟨by decide +kernel, rfl⟩
theorem e_X10_chance_209 : DC cX10_chance 209 1 210 (.lcmp) := ⟨by decide +kernel, rfl⟩
theorem e_X10_chance_210 : DJ cX10_chance 210 218 213 (.ifCond .ge) := DJ.mk 8 (by decide +kernel) (by decide) rfl
theorem e_X10_chance_218 : DC cX10_chance 218 2 220 (.lload 8) := ⟨by decide +kernel, rfl⟩
theorem e_X10_chance_183 : DC cX10_chance 183 2 185 (.lload 11) := ⟨by decide +kernel, rfl⟩
theorem e_X10_chance_185 : DC cX10_chance 185 2 187 (.lload 6) := ⟨by decide +kernel, rfl⟩
theorem e_X10_chance_187 : DC cX10_chance 187 1 188 (.lcmp) := ⟨by decide +kernel, rfl⟩
theorem e_X10_chance_188 : DJ cX10_chance 188 196 191 (.ifCond .le) := DJ.mk 8 (by decide +kernel) (by decide) rfl
theorem e_X10_chance_196 : DC cX10_chance 196 2 198 (.lload 6) := ⟨by decide +kernel, rfl⟩
theorem e_X10_chance_0 : DC cX10_chance 0 1 1 (.aload_n 0) := ⟨by decide +kernel, rfl⟩
theorem e_X10_chance_1 : DC cX10_chance 1 1 2 (.iconst 0) := ⟨by decide +kernel, rfl⟩
theorem e_X10_chance_2 : DC cX10_chance 2 3 5 (.putfield 91) := ⟨by decide +kernel, rfl⟩
theorem e_X10_chance_5 : DC cX10_chance 5 1 6 (.iload_n 1) := ⟨by decide +kernel, rfl⟩
theorem e_X10_chance_6 : DC cX10_chance 6 1 7 (.iconst (-1)) := ⟨by decide +kernel, rfl⟩
theorem e_X10_chance_7 : DJ cX10_chance 7 30 10 (.if_icmp .lt) := DJ.mk 23 (by decide +kernel) (by decide) rfl
theorem e_X10_chance_30 : DC cX10_chance 30 3 33 (.ldc2_w 245) := ⟨by decide +kernel, rfl⟩
theorem e_X10_chance_33 : DC cX10_chance 33 1 34 (.lreturn) := ⟨by decide +kernel, rfl⟩
theorem e_X10_chance_10 : DC cX10_chance 10 1 11 (.iload_n 2) := ⟨by decide +kernel, rfl⟩
theorem e_X10_chance_11 : DC cX10_chance 11 1 12 (.iconst 1) := ⟨by decide +kernel, rfl⟩
theorem e_X10_chance_12 : DJ cX10_chance 12 30 15 (.if_icmp .lt) := DJ.mk 18 (by decide +kernel) (by decide) rfl
theorem e_X10_chance_15 : DC cX10_chance 15 1 16 (.iload_n 2) := ⟨by decide +kernel, rfl⟩
theorem e_X10_chance_16 : DC cX10_chance 16 2 18 (.bipush 10) := ⟨by decide +kernel, rfl⟩
theorem e_X10_chance_18 : DJ cX10_chance 18 30 21 (.if_icmp .gt) := DJ.mk 12 (by decide +kernel) (by decide) rfl
theorem e_X10_chance_21 : DC cX10_chance 21 1 22 (.iload_n 3) := ⟨by decide +kernel, rfl⟩
theorem e_X10_chance_22 : DJ cX10_chance 22 30 25 (.ifCond .lt) := DJ.mk 8 (by decide +kernel) (by decide) rfl
theorem e_X10_chance_25 : DC cX10_chance 25 1 26 (.iload_n 3) := ⟨by decide +kernel, rfl⟩
theorem e_X10_chance_26 : DC cX10_chance 26 1 27 (.iconst 2) := ⟨by decide +kernel, rfl⟩
theorem e_X10_chance_27 : DJ cX10_chance 27 34 30 (.if_icmp .le) := DJ.mk 7 (by decide +kernel) (by decide) rfl
theorem e_X10_chance_34 : DC cX10_chance 34 1 35 (.aload_n 0) := ⟨by decide +kernel, rfl⟩
theorem e_X10_chance_35 : DC cX10_chance 35 3 38 (.getfield 59) := ⟨by decide +kernel, rfl⟩
theorem e_X10_chance_38 : DC cX10_chance 38 3 41 (.sipush 744) := ⟨by decide +kernel, rfl⟩
theorem e_X10_chance_41 : DC cX10_chance 41 1 42 (.laload) := ⟨by decide +kernel, rfl⟩
theorem e_X10_chance_42 : DC cX10_chance 42 3 45 (.ldc2_w 362) := ⟨by decide +kernel, rfl⟩
theorem kc_X10_362 : Cond.constantLong RX10 362 12 ∈ tb := tb_in 1955 (by decide +kernel) (by decide +kernel)
theorem e_X10_chance_45 : DC cX10_chance 45 1 46 (.ladd) := ⟨by decide +kernel, rfl⟩
theorem e_X10_chance_46 : DC cX10_chance 46 3 49 (.ldc2_w 284) := ⟨by decide +kernel, rfl⟩
theorem e_X10_chance_49 : DC cX10_chance 49 1 50 (.lcmp) := ⟨by decide +kernel, rfl⟩
theorem e_X10_chance_50 : DJ cX10_chance 50 57 53 (.ifCond .le) := DJ.mk 7 (by decide +kernel) (by decide) rfl
theorem e_X10_chance_57 : DC cX10_chance 57 1 58 (.aload_n 0) := ⟨by decide +kernel, rfl⟩
theorem e_X10_chance_58 : DC cX10_chance 58 1 59 (.iload_n 1) := ⟨by decide +kernel, rfl⟩
theorem e_X10_chance_59 : DC cX10_chance 59 1 60 (.iconst (-1)) := ⟨by decide +kernel, rfl⟩
theorem e_X10_chance_60 : DJ cX10_chance 60 87 63 (.if_icmp .ne) := DJ.mk 27 (by decide +kernel) (by decide) rfl
theorem e_X10_chance_87 : DC cX10_chance 87 1 88 (.iload_n 1) := ⟨by decide +kernel, rfl⟩
theorem e_X10_chance_88 : DC cX10_chance 88 3 91 (.putfield 353) := ⟨by decide +kernel, rfl⟩
theorem e_X10_chance_91 : DC cX10_chance 91 1 92 (.lconst 0) := ⟨by decide +kernel, rfl⟩
theorem e_X10_chance_92 : DC cX10_chance 92 2 94 (.lstore 4) := ⟨by decide +kernel, rfl⟩
theorem e_X10_chance_94 : DC cX10_chance 94 1 95 (.lconst 0) := ⟨by decide +kernel, rfl⟩
theorem e_X10_chance_95 : DC cX10_chance 95 2 97 (.lstore 6) := ⟨by decide +kernel, rfl⟩
theorem e_X10_chance_97 : DC cX10_chance 97 1 98 (.lconst 0) := ⟨by decide +kernel, rfl⟩
theorem e_X10_chance_98 : DC cX10_chance 98 2 100 (.lstore 8) := ⟨by decide +kernel, rfl⟩
theorem e_X10_chance_100 : DC cX10_chance 100 1 101 (.aload_n 0) := ⟨by decide +kernel, rfl⟩
theorem e_X10_chance_101 : DC cX10_chance 101 3 104 (.getfield 59) := ⟨by decide +kernel, rfl⟩
theorem e_X10_chance_104 : DC cX10_chance 104 1 105 (.iconst 0) := ⟨by decide +kernel, rfl⟩
theorem e_X10_chance_105 : DC cX10_chance 105 1 106 (.aload_n 0) := ⟨by decide +kernel, rfl⟩
theorem e_X10_chance_106 : DC cX10_chance 106 3 109 (.getfield 66) := ⟨by decide +kernel, rfl⟩
theorem e_X10_chance_109 : DC cX10_chance 109 1 110 (.iconst 0) := ⟨by decide +kernel, rfl⟩
theorem e_X10_chance_110 : DC cX10_chance 110 3 113 (.invokestatic 230) := ⟨by decide +kernel, rfl⟩
theorem e_X10_chance_113 : DC cX10_chance 113 1 114 (.iconst 0) := ⟨by decide +kernel, rfl⟩
theorem e_X10_chance_114 : DC cX10_chance 114 2 116 (.istore 10) := ⟨by decide +kernel, rfl⟩
theorem e_X10_chance_63 : DC cX10_chance 63 1 64 (.aload_n 0) := ⟨by decide +kernel, rfl⟩
theorem e_X10_chance_64 : DC cX10_chance 64 3 67 (.getfield 13) := ⟨by decide +kernel, rfl⟩
theorem e_X10_chance_67 : DC cX10_chance 67 1 68 (.iconst 4) := ⟨by decide +kernel, rfl⟩
theorem e_X10_chance_68 : DC cX10_chance 68 1 69 (.iaload) := ⟨by decide +kernel, rfl⟩
theorem e_X10_chance_69 : DJ cX10_chance 69 76 72 (.ifCond .ne) := DJ.mk 7 (by decide +kernel) (by decide) rfl
theorem e_X10_chance_72 : DC cX10_chance 72 1 73 (.iconst 0) := ⟨by decide +kernel, rfl⟩
theorem e_X10_chance_73 : DJ cX10_chance 73 88 76 .goto := DJ.mk 15 (by decide +kernel) (by decide) rfl
set_option maxRecDepth 20000 in
theorem lp_chance1 {V : VX} {X : MX} {N : Nat} (F : Fx V X yX10_chance cX10_chance 13 (some .long) (rmd 2 0 0)) {m : Nat} {x z : Int32} {k i : Nat} (hk : ∀ (τ : Mem) (dr : Int32), ME V τ m 0 0 dr 12 0 0 → Wm V X 13 N τ 0 0 165 [(11, .int (nI 12)), (0, .ref m), (1, .int x), (2, .int (nI k)), (3, .int z), (4, .long 0), (6, .long 0), (8, .long 0), (10, .int (nI i))] []) : ∀ (n j : Nat) (τ : Mem) (dr : Int32), j ≤ 12 → 12 - j < n → ME V τ m 0 0 dr j 0 0 → Wm V X 13 N τ 0 0 125 [(11, .int (nI j)), (0, .ref m), (1, .int x), (2, .int (nI k)), (3, .int z), (4, .long 0), (6, .long 0), (8, .long 0), (10, .int (nI i))] [] := by
  intro n
  induction n with
  | zero => intro j τ dr h1 h2; exact absurd h2 (by omega)
  | succ n ih =>
    intro j τ dr h1 h2 hM
    obtain ⟨ho61, hn61, f61, ga61, gf61, gi61, gk61, hs61, ha61, hfu61, him61, hk61, ef61, ea61, eu61⟩ := hM
    refine m_iload F rfl e_X10_chance_125 ?_
    refine m_bipush F (v := 12) (by decide) e_X10_chance_127 ?_
    refine m_icmp_ge F e_X10_chance_129 (fun q129 => ?_) (fun q129 => ?_)
    · have c129 : j ≥ 12 := (nI_leI (a := 12) (b := j) (by omega) (by omega)).mp q129
      have hj9 : j = 12 := by omega
      subst hj9
      exact hk _ _ ⟨ho61, hn61, f61, ga61, gf61, gi61, gk61, hs61, ha61, hfu61, him61, hk61, ef61, ea61, eu61⟩
    · have c129 : j < 12 := by have hh := mt (nI_leI (a := 12) (b := j) (by omega) (by omega)).mpr q129; omega
      refine m_aload_n F rfl e_X10_chance_132 ?_
      refine m_aload_n F rfl e_X10_chance_133 ?_
      refine m_callV F e_X10_chance_134 (k_indexNow0 (x_l X) V _ _ m 0 0 dr j 0 0 ⟨ho61, hn61, f61, ga61, gf61, gi61, gk61, hs61, ha61, hfu61, him61, hk61, ef61, ea61, eu61⟩ (by omega)) cb_X10_indexNow ml_X10_260 im_X10_indexNow se_X10_indexNow ho61 rfl rfl (rest := [.ref m]) rfl (Nat.le_of_ble_eq_true rfl) ⟨Nat.le_of_ble_eq_true rfl, Nat.le_of_ble_eq_true rfl⟩ ⟨Nat.le_of_ble_eq_true rfl, Nat.le_of_ble_eq_true rfl⟩ (k' := 0) (z' := 0) (N' := N) rfl rfl rfl (fun r τ hp => ?_)
      obtain ⟨zi62, rfl, rfl⟩ := hp
      refine m_aload_n F rfl e_X10_chance_137 ?_
      refine m_bipush F (v := 21) (by decide) e_X10_chance_138 ?_
      refine m_callV F e_X10_chance_140 (k_draw0 (x_l X) V _ _ m 0 0 dr j 0 0  ⟨ho61, hn61, f61, ga61, gf61, gi61, gk61, hs61, ha61, hfu61, him61, hk61, ef61, ea61, eu61⟩ ) cb_X10_draw ml_X10_364 im_X10_draw se_X10_draw ho61 rfl rfl (rest := [.long zi62, .ref m]) rfl (Nat.le_of_ble_eq_true rfl) ⟨Nat.le_of_ble_eq_true rfl, Nat.le_of_ble_eq_true rfl⟩ ⟨Nat.le_of_ble_eq_true rfl, Nat.le_of_ble_eq_true rfl⟩ (k' := 0) (z' := 0) (N' := N) rfl rfl rfl (fun r τ63 hp => ?_)
      obtain ⟨xr, dn, rfl, hp⟩ := hp
      obtain ⟨ho64, hn64, f64, ga64, gf64, gi64, gk64, hs64, ha64, hfu64, him64, hk64, ef64, ea64, eu64⟩ := hp
      refine m_i2l F e_X10_chance_143 ?_
      refine m_ladd F e_X10_chance_144 ?_
      refine m_ldc2 F kc_X10_367 e_X10_chance_145 ?_
      refine m_lsub F e_X10_chance_148 ?_
      refine m_callS F e_X10_chance_149 (k_held (x_l X) V _ _ ((zi62 + (xr).toInt64) - 10)) cb_X10_held ml_X10_369 sm_X10_held rfl (rest := [.ref m]) rfl (Nat.le_of_ble_eq_true rfl) ⟨Nat.le_of_ble_eq_true rfl, Nat.le_of_ble_eq_true rfl⟩ ⟨Nat.le_of_ble_eq_true rfl, Nat.le_of_ble_eq_true rfl⟩ (k' := 0) (z' := 0) (N' := N) rfl rfl rfl (fun r τ hp => ?_)
      obtain ⟨zh65, rfl, rfl⟩ := hp
      refine m_callV F e_X10_chance_152 (k_becomes0 (x_l X) V _ _ m 0 0 dn j 0 0 zh65 ⟨ho64, hn64, f64, ga64, gf64, gi64, gk64, hs64, ha64, hfu64, him64, hk64, ef64, ea64, eu64⟩ (by omega)) cb_X10_becomes ml_X10_322 im_X10_becomes se_X10_becomes ho64 rfl rfl (rest := []) rfl (Nat.le_of_ble_eq_true rfl) ⟨Nat.le_of_ble_eq_true rfl, Nat.le_of_ble_eq_true rfl⟩ ⟨Nat.le_of_ble_eq_true rfl, Nat.le_of_ble_eq_true rfl⟩ (k' := 0) (z' := 0) (N' := N) rfl rfl rfl (fun r τ66 hp => ?_)
      obtain ⟨rfl, hp⟩ := hp
      obtain ⟨ho67, hn67, f67, ga67, gf67, gi67, gk67, hs67, ha67, hfu67, him67, hk67, ef67, ea67, eu67⟩ := hp
      refine m_aload_n F rfl e_X10_chance_155 ?_
      refine m_callV F e_X10_chance_156 (k_periodGoes0 (x_l X) V _ _ m 0 0 dn j 0 0  ⟨ho67, hn67, f67, ga67, gf67, gi67, gk67, hs67, ha67, hfu67, him67, hk67, ef67, ea67, eu67⟩ ) cb_X10_periodGoes ml_X10_289 im_X10_periodGoes se_X10_periodGoes ho67 rfl rfl (rest := []) rfl (Nat.le_of_ble_eq_true rfl) ⟨Nat.le_of_ble_eq_true rfl, Nat.le_of_ble_eq_true rfl⟩ ⟨Nat.le_of_ble_eq_true rfl, Nat.le_of_ble_eq_true rfl⟩ (k' := 0) (z' := 0) (N' := N) rfl rfl rfl (fun r τ68 hp => ?_)
      obtain ⟨rfl, hp⟩ := hp
      obtain ⟨ho69, hn69, f69, ga69, gf69, gi69, gk69, hs69, ha69, hfu69, him69, hk69, ef69, ea69, eu69⟩ := hp
      refine m_iinc F (v := nI (j + 1)) (lv' := [(11, .int (nI (j + 1))), (0, .ref m), (1, .int x), (2, .int (nI k)), (3, .int z), (4, .long 0), (6, .long 0), (8, .long 0), (10, .int (nI i))]) e_X10_chance_159 rfl (nI_add j 1) (by decide) rfl ?_
      refine m_goto F e_X10_chance_162 ?_
      exact ih (j + 1) _ _ (by omega) (by omega) ⟨ho69, hn69, f69, ga69, gf69, gi69, gk69, hs69, ha69, hfu69, him69, hk69, ef69, ea69, eu69⟩
set_option maxRecDepth 20000 in
theorem lp_chance2 {V : VX} {X : MX} {N : Nat} {Post : Option Value → Mem → Prop} (F : Fx V X yX10_chance cX10_chance 13 (some .long) (rmd 2 0 0)) (hQ : Rt V X 0 0 N Post) {m : Nat} {x z : Int32} {k : Nat} (hk : k ≤ 10) (hp : ∀ τ : Mem, Post (some (.long 0)) τ) : ∀ (n i : Nat) (τ : Mem) (dr : Int32), i ≤ k → k - i < n → ME V τ m 0 0 dr 0 0 0 → Wm V X 13 N τ 0 0 116 [(10, .int (nI i)), (0, .ref m), (1, .int x), (2, .int (nI k)), (3, .int z), (4, .long 0), (6, .long 0), (8, .long 0)] [] := by
  intro n
  induction n with
  | zero => intro i τ dr h1 h2; exact absurd h2 (by omega)
  | succ n ih =>
    intro i τ dr h1 h2 hM
    obtain ⟨ho70, hn70, f70, ga70, gf70, gi70, gk70, hs70, ha70, hfu70, him70, hk70, ef70, ea70, eu70⟩ := hM
    refine m_iload F rfl e_X10_chance_116 ?_
    refine m_iload_n F rfl e_X10_chance_118 ?_
    refine m_icmp_ge F e_X10_chance_119 (fun q119a => ?_) (fun q119a => ?_)
    · have c119a : i ≥ k := (nI_leI (a := k) (b := i) (by omega) (by omega)).mp q119a
      have hi9 : i = k := by omega
      subst hi9
      refine m_iload_n F rfl e_X10_chance_241 ?_
      refine m_if_ne F e_X10_chance_242 (fun q242a => ?_) (fun q242a => ?_)
      · refine m_iload_n F rfl e_X10_chance_250 ?_
        refine m_iconst F (v := 1) (by decide) e_X10_chance_251 ?_
        refine m_icmp_ne F e_X10_chance_252 (fun q252a => ?_) (fun q252a => ?_)
        · refine m_lload F rfl e_X10_chance_260 ?_
          exact m_lret F hQ e_X10_chance_262 (hp _)
        · refine m_lload F rfl e_X10_chance_255 ?_
          refine m_goto F e_X10_chance_257 ?_
          exact m_lret F hQ e_X10_chance_262 (hp _)
      · refine m_lload F rfl e_X10_chance_245 ?_
        refine m_goto F e_X10_chance_247 ?_
        exact m_lret F hQ e_X10_chance_262 (hp _)
    · have c119a : i < k := by have hh := mt (nI_leI (a := k) (b := i) (by omega) (by omega)).mpr q119a; omega
      refine m_iconst F (v := 0) (by decide) e_X10_chance_122 ?_
      refine m_istore F (lv' := [(11, .int 0), (10, .int (nI i)), (0, .ref m), (1, .int x), (2, .int (nI k)), (3, .int z), (4, .long 0), (6, .long 0), (8, .long 0)]) e_X10_chance_123 (by decide) rfl ?_
      refine Wm.lvsub (lv' := [(11, .int 0), (0, .ref m), (1, .int x), (2, .int (nI k)), (3, .int z), (4, .long 0), (6, .long 0), (8, .long 0), (10, .int (nI i))]) ?_ [0, 2, 3, 4, 5, 6, 7, 8, 1] rfl
      refine lp_chance1 F (fun τ dr hM => ?_) 13 0 _ _ (by omega) (by omega) ⟨ho70, hn70, f70, ga70, gf70, gi70, gk70, hs70, ha70, hfu70, him70, hk70, ef70, ea70, eu70⟩
      obtain ⟨ho71, hn71, f71, ga71, gf71, gi71, gk71, hs71, ha71, hfu71, him71, hk71, ef71, ea71, eu71⟩ := hM
      refine m_aload_n F rfl e_X10_chance_165 ?_
      refine m_callV F e_X10_chance_166 (k_owedAll0 (x_l X) V _ _ m 0 0 0 0 0 0 0 0 0 0 0 (-1) (nI 0) 0 dr  ho71 hn71 ) cb_X10_owedAll ml_X10_335 im_X10_owedAll se_X10_owedAll ho71 rfl rfl (rest := []) rfl (Nat.le_of_ble_eq_true rfl) ⟨Nat.le_of_ble_eq_true rfl, Nat.le_of_ble_eq_true rfl⟩ ⟨Nat.le_of_ble_eq_true rfl, Nat.le_of_ble_eq_true rfl⟩ (k' := 0) (z' := 0) (N' := N) rfl rfl rfl (fun r τ hp => ?_)
      obtain ⟨rfl, rfl⟩ := hp
      refine m_lstore F (lv' := [(11, .long 0), (0, .ref m), (1, .int x), (2, .int (nI k)), (3, .int z), (4, .long 0), (6, .long 0), (8, .long 0), (10, .int (nI i))]) e_X10_chance_169 (by decide) rfl ?_
      refine m_lload F rfl e_X10_chance_171 ?_
      refine m_lload F rfl e_X10_chance_173 ?_
      refine m_ladd F e_X10_chance_175 ?_
      refine Wm.toplE (w := 0) (by decide) ?_
      refine m_lstore F (lv' := [(4, .long 0), (11, .long 0), (0, .ref m), (1, .int x), (2, .int (nI k)), (3, .int z), (6, .long 0), (8, .long 0), (10, .int (nI i))]) e_X10_chance_176 (by decide) rfl ?_
      refine m_iload F rfl e_X10_chance_178 ?_
      refine m_if_eq F e_X10_chance_180 (fun q180a => ?_) (fun q180a => ?_)
      · have c180a : i = 0 := (nI_eq (a := i) (b := 0) (by omega) (by omega)).mp q180a
        refine m_lload F rfl e_X10_chance_191 ?_
        refine m_goto F e_X10_chance_193 ?_
        refine m_lstore F (lv' := [(6, .long 0), (4, .long 0), (11, .long 0), (0, .ref m), (1, .int x), (2, .int (nI k)), (3, .int z), (8, .long 0), (10, .int (nI i))]) e_X10_chance_198 (by decide) rfl ?_
        refine m_iload F rfl e_X10_chance_200 ?_
        refine m_if_eq F e_X10_chance_202 (fun q202a => ?_) (fun q202a => ?_)
        · have c202a : i = 0 := (nI_eq (a := i) (b := 0) (by omega) (by omega)).mp q202a
          refine m_lload F rfl e_X10_chance_213 ?_
          refine m_goto F e_X10_chance_215 ?_
          refine m_lstore F (lv' := [(8, .long 0), (6, .long 0), (4, .long 0), (11, .long 0), (0, .ref m), (1, .int x), (2, .int (nI k)), (3, .int z), (10, .int (nI i))]) e_X10_chance_220 (by decide) rfl ?_
          refine m_aload_n F rfl e_X10_chance_222 ?_
          refine m_get F e_X10_chance_223 fl_X10_66 ho71 rfl ?_
          refine m_iconst F (v := 0) (by decide) e_X10_chance_226 ?_
          refine m_aload_n F rfl e_X10_chance_227 ?_
          refine m_get F e_X10_chance_228 fl_X10_59 ho71 rfl ?_
          refine m_iconst F (v := 0) (by decide) e_X10_chance_231 ?_
          refine m_callS F e_X10_chance_232 (k_copies (x_l X) V _ _ (m + 18) (m + 16) 1113 1113 0 0 gf71 f71 (by omega) (by omega) (by omega) (by omega) (by omega) hfu71 hs71) cb_X10_copies ml_X10_230 sm_X10_copies rfl (rest := []) rfl (Nat.le_of_ble_eq_true rfl) ⟨Nat.le_of_ble_eq_true rfl, Nat.le_of_ble_eq_true rfl⟩ ⟨Nat.le_of_ble_eq_true rfl, Nat.le_of_ble_eq_true rfl⟩ (k' := 0) (z' := 0) (N' := N) rfl rfl rfl (fun r τ hp => ?_)
          obtain ⟨rfl, rfl⟩ := hp
          refine m_iinc F (v := nI (i + 1)) (lv' := [(10, .int (nI (i + 1))), (8, .long 0), (6, .long 0), (4, .long 0), (11, .long 0), (0, .ref m), (1, .int x), (2, .int (nI k)), (3, .int z)]) e_X10_chance_235 rfl (nI_add i 1) (by decide) rfl ?_
          refine m_goto F e_X10_chance_238 ?_
          refine Wm.lvsub (lv' := [(10, .int (nI (i + 1))), (0, .ref m), (1, .int x), (2, .int (nI k)), (3, .int z), (4, .long 0), (6, .long 0), (8, .long 0)]) ?_ [0, 5, 6, 7, 8, 3, 2, 1] rfl
          exact ih (i + 1) _ _ (by omega) (by omega) ⟨(ru_ne (by omega) ho71), (ru_ne (by omega) hn71), (cpJ gf71 f71 0 0 1113), ga71, gf71, gi71, gk71, ru_eq, (ru_ne (by omega) ha71), (ru_ne (by omega) hfu71), (ru_ne (by omega) him71), (ru_ne (by omega) hk71), ((cpJ_in (by omega) (by omega)).trans eu71), ea71, eu71⟩
        · have c202a : i ≠ 0 := by have hh := mt (nI_eq (a := i) (b := 0) (by omega) (by omega)).mpr q202a; omega
          refine m_lload F rfl e_X10_chance_205 ?_
          refine m_lload F rfl e_X10_chance_207 ?_
          refine m_lcmp F e_X10_chance_209 ?_
          refine Wm.topE (w := 0) (by decide) ?_
          refine m_if_ge F e_X10_chance_210 (fun _ => ?_) (fun q => absurd (by decide) q)
          refine m_lload F rfl e_X10_chance_218 ?_
          refine m_lstore F (lv' := [(8, .long 0), (6, .long 0), (4, .long 0), (11, .long 0), (0, .ref m), (1, .int x), (2, .int (nI k)), (3, .int z), (10, .int (nI i))]) e_X10_chance_220 (by decide) rfl ?_
          refine m_aload_n F rfl e_X10_chance_222 ?_
          refine m_get F e_X10_chance_223 fl_X10_66 ho71 rfl ?_
          refine m_iconst F (v := 0) (by decide) e_X10_chance_226 ?_
          refine m_aload_n F rfl e_X10_chance_227 ?_
          refine m_get F e_X10_chance_228 fl_X10_59 ho71 rfl ?_
          refine m_iconst F (v := 0) (by decide) e_X10_chance_231 ?_
          refine m_callS F e_X10_chance_232 (k_copies (x_l X) V _ _ (m + 18) (m + 16) 1113 1113 0 0 gf71 f71 (by omega) (by omega) (by omega) (by omega) (by omega) hfu71 hs71) cb_X10_copies ml_X10_230 sm_X10_copies rfl (rest := []) rfl (Nat.le_of_ble_eq_true rfl) ⟨Nat.le_of_ble_eq_true rfl, Nat.le_of_ble_eq_true rfl⟩ ⟨Nat.le_of_ble_eq_true rfl, Nat.le_of_ble_eq_true rfl⟩ (k' := 0) (z' := 0) (N' := N) rfl rfl rfl (fun r τ hp => ?_)
          obtain ⟨rfl, rfl⟩ := hp
          refine m_iinc F (v := nI (i + 1)) (lv' := [(10, .int (nI (i + 1))), (8, .long 0), (6, .long 0), (4, .long 0), (11, .long 0), (0, .ref m), (1, .int x), (2, .int (nI k)), (3, .int z)]) e_X10_chance_235 rfl (nI_add i 1) (by decide) rfl ?_
          refine m_goto F e_X10_chance_238 ?_
          refine Wm.lvsub (lv' := [(10, .int (nI (i + 1))), (0, .ref m), (1, .int x), (2, .int (nI k)), (3, .int z), (4, .long 0), (6, .long 0), (8, .long 0)]) ?_ [0, 5, 6, 7, 8, 3, 2, 1] rfl
          exact ih (i + 1) _ _ (by omega) (by omega) ⟨(ru_ne (by omega) ho71), (ru_ne (by omega) hn71), (cpJ gf71 f71 0 0 1113), ga71, gf71, gi71, gk71, ru_eq, (ru_ne (by omega) ha71), (ru_ne (by omega) hfu71), (ru_ne (by omega) him71), (ru_ne (by omega) hk71), ((cpJ_in (by omega) (by omega)).trans eu71), ea71, eu71⟩
      · have c180a : i ≠ 0 := by have hh := mt (nI_eq (a := i) (b := 0) (by omega) (by omega)).mpr q180a; omega
        refine m_lload F rfl e_X10_chance_183 ?_
        refine m_lload F rfl e_X10_chance_185 ?_
        refine m_lcmp F e_X10_chance_187 ?_
        refine Wm.topE (w := 0) (by decide) ?_
        refine m_if_le F e_X10_chance_188 (fun _ => ?_) (fun q => absurd (by decide) q)
        refine m_lload F rfl e_X10_chance_196 ?_
        refine m_lstore F (lv' := [(6, .long 0), (4, .long 0), (11, .long 0), (0, .ref m), (1, .int x), (2, .int (nI k)), (3, .int z), (8, .long 0), (10, .int (nI i))]) e_X10_chance_198 (by decide) rfl ?_
        refine m_iload F rfl e_X10_chance_200 ?_
        refine m_if_eq F e_X10_chance_202 (fun q202a => ?_) (fun q202a => ?_)
        · have c202a : i = 0 := (nI_eq (a := i) (b := 0) (by omega) (by omega)).mp q202a
          refine m_lload F rfl e_X10_chance_213 ?_
          refine m_goto F e_X10_chance_215 ?_
          refine m_lstore F (lv' := [(8, .long 0), (6, .long 0), (4, .long 0), (11, .long 0), (0, .ref m), (1, .int x), (2, .int (nI k)), (3, .int z), (10, .int (nI i))]) e_X10_chance_220 (by decide) rfl ?_
          refine m_aload_n F rfl e_X10_chance_222 ?_
          refine m_get F e_X10_chance_223 fl_X10_66 ho71 rfl ?_
          refine m_iconst F (v := 0) (by decide) e_X10_chance_226 ?_
          refine m_aload_n F rfl e_X10_chance_227 ?_
          refine m_get F e_X10_chance_228 fl_X10_59 ho71 rfl ?_
          refine m_iconst F (v := 0) (by decide) e_X10_chance_231 ?_
          refine m_callS F e_X10_chance_232 (k_copies (x_l X) V _ _ (m + 18) (m + 16) 1113 1113 0 0 gf71 f71 (by omega) (by omega) (by omega) (by omega) (by omega) hfu71 hs71) cb_X10_copies ml_X10_230 sm_X10_copies rfl (rest := []) rfl (Nat.le_of_ble_eq_true rfl) ⟨Nat.le_of_ble_eq_true rfl, Nat.le_of_ble_eq_true rfl⟩ ⟨Nat.le_of_ble_eq_true rfl, Nat.le_of_ble_eq_true rfl⟩ (k' := 0) (z' := 0) (N' := N) rfl rfl rfl (fun r τ hp => ?_)
          obtain ⟨rfl, rfl⟩ := hp
          refine m_iinc F (v := nI (i + 1)) (lv' := [(10, .int (nI (i + 1))), (8, .long 0), (6, .long 0), (4, .long 0), (11, .long 0), (0, .ref m), (1, .int x), (2, .int (nI k)), (3, .int z)]) e_X10_chance_235 rfl (nI_add i 1) (by decide) rfl ?_
          refine m_goto F e_X10_chance_238 ?_
          refine Wm.lvsub (lv' := [(10, .int (nI (i + 1))), (0, .ref m), (1, .int x), (2, .int (nI k)), (3, .int z), (4, .long 0), (6, .long 0), (8, .long 0)]) ?_ [0, 5, 6, 7, 8, 3, 2, 1] rfl
          exact ih (i + 1) _ _ (by omega) (by omega) ⟨(ru_ne (by omega) ho71), (ru_ne (by omega) hn71), (cpJ gf71 f71 0 0 1113), ga71, gf71, gi71, gk71, ru_eq, (ru_ne (by omega) ha71), (ru_ne (by omega) hfu71), (ru_ne (by omega) him71), (ru_ne (by omega) hk71), ((cpJ_in (by omega) (by omega)).trans eu71), ea71, eu71⟩
        · have c202a : i ≠ 0 := by have hh := mt (nI_eq (a := i) (b := 0) (by omega) (by omega)).mpr q202a; omega
          refine m_lload F rfl e_X10_chance_205 ?_
          refine m_lload F rfl e_X10_chance_207 ?_
          refine m_lcmp F e_X10_chance_209 ?_
          refine Wm.topE (w := 0) (by decide) ?_
          refine m_if_ge F e_X10_chance_210 (fun _ => ?_) (fun q => absurd (by decide) q)
          refine m_lload F rfl e_X10_chance_218 ?_
          refine m_lstore F (lv' := [(8, .long 0), (6, .long 0), (4, .long 0), (11, .long 0), (0, .ref m), (1, .int x), (2, .int (nI k)), (3, .int z), (10, .int (nI i))]) e_X10_chance_220 (by decide) rfl ?_
          refine m_aload_n F rfl e_X10_chance_222 ?_
          refine m_get F e_X10_chance_223 fl_X10_66 ho71 rfl ?_
          refine m_iconst F (v := 0) (by decide) e_X10_chance_226 ?_
          refine m_aload_n F rfl e_X10_chance_227 ?_
          refine m_get F e_X10_chance_228 fl_X10_59 ho71 rfl ?_
          refine m_iconst F (v := 0) (by decide) e_X10_chance_231 ?_
          refine m_callS F e_X10_chance_232 (k_copies (x_l X) V _ _ (m + 18) (m + 16) 1113 1113 0 0 gf71 f71 (by omega) (by omega) (by omega) (by omega) (by omega) hfu71 hs71) cb_X10_copies ml_X10_230 sm_X10_copies rfl (rest := []) rfl (Nat.le_of_ble_eq_true rfl) ⟨Nat.le_of_ble_eq_true rfl, Nat.le_of_ble_eq_true rfl⟩ ⟨Nat.le_of_ble_eq_true rfl, Nat.le_of_ble_eq_true rfl⟩ (k' := 0) (z' := 0) (N' := N) rfl rfl rfl (fun r τ hp => ?_)
          obtain ⟨rfl, rfl⟩ := hp
          refine m_iinc F (v := nI (i + 1)) (lv' := [(10, .int (nI (i + 1))), (8, .long 0), (6, .long 0), (4, .long 0), (11, .long 0), (0, .ref m), (1, .int x), (2, .int (nI k)), (3, .int z)]) e_X10_chance_235 rfl (nI_add i 1) (by decide) rfl ?_
          refine m_goto F e_X10_chance_238 ?_
          refine Wm.lvsub (lv' := [(10, .int (nI (i + 1))), (0, .ref m), (1, .int x), (2, .int (nI k)), (3, .int z), (4, .long 0), (6, .long 0), (8, .long 0)]) ?_ [0, 5, 6, 7, 8, 3, 2, 1] rfl
          exact ih (i + 1) _ _ (by omega) (by omega) ⟨(ru_ne (by omega) ho71), (ru_ne (by omega) hn71), (cpJ gf71 f71 0 0 1113), ga71, gf71, gi71, gk71, ru_eq, (ru_ne (by omega) ha71), (ru_ne (by omega) hfu71), (ru_ne (by omega) him71), (ru_ne (by omega) hk71), ((cpJ_in (by omega) (by omega)).trans eu71), ea71, eu71⟩
set_option maxRecDepth 20000 in
theorem n_chance (l : Launch) (V : VX) (N : Nat) (σ : Mem) (m : Nat) (x y z : Int32) (hZ : MZ V σ m) : Ct l V yX10_chance cX10_chance 13 (some .long) 2 0 0 N σ [.ref m, .int x, .int y, .int z] (fun r _ => r = some (.long (if x < -1 ∨ y < 1 ∨ 10 < y ∨ z < 0 ∨ 2 < z then -1 else 0))) := by
  refine Ct.of (by decide) (Nat.le_of_ble_eq_true rfl) [(0, .ref m), (1, .int x), (2, .int y), (3, .int z)] rfl (fun X hX F hQ => ?_)
  obtain ⟨z0, z1, z2, z3, z4, z5, z6, z7, z8, z9, z10, z11, z12, z13, z14, z15, z16, z17, z18, z19, z20, z21, z22⟩ := hZ
  refine m_aload_n F rfl e_X10_chance_0 ?_
  refine m_iconst F (v := 0) (by decide) e_X10_chance_1 ?_
  refine m_put F e_X10_chance_2 fp_X10_91 z0 rfl rfl (Nat.le_of_ble_eq_true rfl) (fs' := [.int 0, .ref (m + 1), .int 0, .ref (m + 2), .ref (m + 3), .ref (m + 4), .ref (m + 5), .ref (m + 6), .ref (m + 7), .ref (m + 8), .ref (m + 9), .ref (m + 10), .ref (m + 11), .ref (m + 12), .ref (m + 13), .ref (m + 14), .ref (m + 15), .int 0, .int 0, .int 0, .int 0, .int 0, .int 0, .int 0, .int 0, .int 0, .int (-1), .ref (m + 16), .ref (m + 17), .ref (m + 18), .ref (m + 19), .ref (m + 20), .int 0, .int 0, .ref (m + 21), .ref (m + 22), .int 0]) rfl (up_self z0).symm ?_
  refine m_iload_n F rfl e_X10_chance_5 ?_
  refine m_iconst F (v := (-1)) (by decide) e_X10_chance_6 ?_
  refine m_icmp_lt F e_X10_chance_7 (fun q7 => ?_) (fun q7 => ?_)
  · refine m_ldc2 F kc_X10_245 e_X10_chance_30 ?_
    exact m_lret F hQ e_X10_chance_33 (by rw [if_pos (Or.inl q7)])
  · refine m_iload_n F rfl e_X10_chance_10 ?_
    refine m_iconst F (v := 1) (by decide) e_X10_chance_11 ?_
    refine m_icmp_lt F e_X10_chance_12 (fun q12 => ?_) (fun q12 => ?_)
    · refine m_ldc2 F kc_X10_245 e_X10_chance_30 ?_
      exact m_lret F hQ e_X10_chance_33 (by rw [if_pos (Or.inr (Or.inl q12))])
    · refine m_iload_n F rfl e_X10_chance_15 ?_
      refine m_bipush F (v := 10) (by decide) e_X10_chance_16 ?_
      refine m_icmp_gt F e_X10_chance_18 (fun q18 => ?_) (fun q18 => ?_)
      · refine m_ldc2 F kc_X10_245 e_X10_chance_30 ?_
        exact m_lret F hQ e_X10_chance_33 (by rw [if_pos (Or.inr (Or.inr (Or.inl q18)))])
      · refine m_iload_n F rfl e_X10_chance_21 ?_
        refine m_if_lt F e_X10_chance_22 (fun q22 => ?_) (fun q22 => ?_)
        · refine m_ldc2 F kc_X10_245 e_X10_chance_30 ?_
          exact m_lret F hQ e_X10_chance_33 (by rw [if_pos (Or.inr (Or.inr (Or.inr (Or.inl q22))))])
        · refine m_iload_n F rfl e_X10_chance_25 ?_
          refine m_iconst F (v := 2) (by decide) e_X10_chance_26 ?_
          refine m_icmp_le F e_X10_chance_27 (fun q27 => ?_) (fun q27 => ?_)
          · obtain ⟨k, hk1, hk, ek⟩ := rng1 (x := y) (M := 10) (n := 10) (by decide) q12 (Int32.not_lt.mp q18)
            subst ek
            refine m_aload_n F rfl e_X10_chance_34 ?_
            refine m_get F e_X10_chance_35 fl_X10_59 z0 rfl ?_
            refine m_sipush F (v := 744) (by decide) e_X10_chance_38 ?_
            refine m_lald F (j := 744) e_X10_chance_41 z16 (by decide) (by unfold vp_in; decide) ?_
            refine Wm.toplE (w := lN 0) (sZ744) ?_
            refine m_ldc2 F kc_X10_362 e_X10_chance_42 ?_
            refine m_ladd F e_X10_chance_45 ?_
            refine Wm.toplE (w := lN (0 + 12)) (lN_add 0 12) ?_
            refine m_ldc2 F kc_X10_284 e_X10_chance_46 ?_
            refine m_lcmp F e_X10_chance_49 ?_
            refine m_if_le F e_X10_chance_50 (fun q50 => ?_) (fun q50 => ?_)
            · have c50 : (0 + 12) ≤ 99 := (lN_le (a := (0 + 12)) (b := 99) (by omega) (by omega)).mp ((lg_cmp_le _ _).mp q50)
              refine m_aload_n F rfl e_X10_chance_57 ?_
              refine m_iload_n F rfl e_X10_chance_58 ?_
              refine m_iconst F (v := (-1)) (by decide) e_X10_chance_59 ?_
              refine m_icmp_ne F e_X10_chance_60 (fun q60 => ?_) (fun q60 => ?_)
              · refine m_iload_n F rfl e_X10_chance_87 ?_
                refine m_put F e_X10_chance_88 fp_X10_353 z0 rfl rfl (Nat.le_of_ble_eq_true rfl) (fs' := [.int 0, .ref (m + 1), .int 0, .ref (m + 2), .ref (m + 3), .ref (m + 4), .ref (m + 5), .ref (m + 6), .ref (m + 7), .ref (m + 8), .ref (m + 9), .ref (m + 10), .ref (m + 11), .ref (m + 12), .ref (m + 13), .ref (m + 14), .ref (m + 15), .int 0, .int 0, .int 0, .int 0, .int 0, .int 0, .int 0, .int 0, .int 0, .int (-1), .ref (m + 16), .ref (m + 17), .ref (m + 18), .ref (m + 19), .ref (m + 20), .int 0, .int 0, .ref (m + 21), .ref (m + 22), .int x]) rfl rfl ?_
                refine m_lconst F (v := 0) (by decide) e_X10_chance_91 ?_
                refine m_lstore F (lv' := [(4, .long 0), (0, .ref m), (1, .int x), (2, .int (nI k)), (3, .int z)]) e_X10_chance_92 (by decide) rfl ?_
                refine m_lconst F (v := 0) (by decide) e_X10_chance_94 ?_
                refine m_lstore F (lv' := [(6, .long 0), (4, .long 0), (0, .ref m), (1, .int x), (2, .int (nI k)), (3, .int z)]) e_X10_chance_95 (by decide) rfl ?_
                refine m_lconst F (v := 0) (by decide) e_X10_chance_97 ?_
                refine m_lstore F (lv' := [(8, .long 0), (6, .long 0), (4, .long 0), (0, .ref m), (1, .int x), (2, .int (nI k)), (3, .int z)]) e_X10_chance_98 (by decide) rfl ?_
                refine m_aload_n F rfl e_X10_chance_100 ?_
                refine m_get F e_X10_chance_101 fl_X10_59 ru_eq rfl ?_
                refine m_iconst F (v := 0) (by decide) e_X10_chance_104 ?_
                refine m_aload_n F rfl e_X10_chance_105 ?_
                refine m_get F e_X10_chance_106 fl_X10_66 ru_eq rfl ?_
                refine m_iconst F (v := 0) (by decide) e_X10_chance_109 ?_
                refine m_callS F e_X10_chance_110 (k_copies (x_l X) V _ _ (m + 16) (m + 18) 1113 1113 0 0 sZ (fun _ => 0) (by omega) (by omega) (by omega) (by omega) (by omega) (ru_ne (by omega) z16) (ru_ne (by omega) z18)) cb_X10_copies ml_X10_230 sm_X10_copies rfl (rest := []) rfl (Nat.le_of_ble_eq_true rfl) ⟨Nat.le_of_ble_eq_true rfl, Nat.le_of_ble_eq_true rfl⟩ ⟨Nat.le_of_ble_eq_true rfl, Nat.le_of_ble_eq_true rfl⟩ (k' := 0) (z' := 0) (N' := N) rfl rfl rfl (fun r τ hp => ?_)
                obtain ⟨rfl, rfl⟩ := hp
                refine m_iconst F (v := 0) (by decide) e_X10_chance_113 ?_
                refine m_istore F (lv' := [(10, .int 0), (8, .long 0), (6, .long 0), (4, .long 0), (0, .ref m), (1, .int x), (2, .int (nI k)), (3, .int z)]) e_X10_chance_114 (by decide) rfl ?_
                refine Wm.lvsub (lv' := [(10, .int 0), (0, .ref m), (1, .int x), (2, .int (nI k)), (3, .int z), (4, .long 0), (6, .long 0), (8, .long 0)]) ?_ [0, 4, 5, 6, 7, 3, 2, 1] rfl
                exact lp_chance2 F hQ hk (fun τ => by rw [if_neg (fun h => h.elim q7 (fun h => h.elim q12 (fun h => h.elim q18 (fun h => h.elim q22 (fun h => absurd q27 (Int32.not_le.mpr h))))))]) (k + 1) 0 _ _ (by omega) (by omega) ⟨(ru_ne (by omega) ru_eq), (ru_ne (by omega) (ru_ne (by omega) z2)), sZ, (fun _ => 0), (cpJ sZ (fun _ => 0) 0 0 1113), (fun _ => 0), (fun _ => 0), (ru_ne (by omega) (ru_ne (by omega) z16)), (ru_ne (by omega) (ru_ne (by omega) z17)), ru_eq, (ru_ne (by omega) (ru_ne (by omega) z19)), (ru_ne (by omega) (ru_ne (by omega) z20)), sZ744, rfl, ((cpJ_in (by omega) (by omega)).trans sZ744)⟩
              · refine m_aload_n F rfl e_X10_chance_63 ?_
                refine m_get F e_X10_chance_64 fl_X10_13 z0 rfl ?_
                refine m_iconst F (v := 4) (by decide) e_X10_chance_67 ?_
                refine m_iald F (j := 4) e_X10_chance_68 z2 (by decide) (by unfold vp_in; decide) ?_
                refine Wm.topE (w := 0) (rfl) ?_
                refine m_if_ne F e_X10_chance_69 (fun q => absurd (by decide) q) (fun _ => ?_)
                refine m_iconst F (v := 0) (by decide) e_X10_chance_72 ?_
                refine m_goto F e_X10_chance_73 ?_
                refine m_put F e_X10_chance_88 fp_X10_353 z0 rfl rfl (Nat.le_of_ble_eq_true rfl) (fs' := [.int 0, .ref (m + 1), .int 0, .ref (m + 2), .ref (m + 3), .ref (m + 4), .ref (m + 5), .ref (m + 6), .ref (m + 7), .ref (m + 8), .ref (m + 9), .ref (m + 10), .ref (m + 11), .ref (m + 12), .ref (m + 13), .ref (m + 14), .ref (m + 15), .int 0, .int 0, .int 0, .int 0, .int 0, .int 0, .int 0, .int 0, .int 0, .int (-1), .ref (m + 16), .ref (m + 17), .ref (m + 18), .ref (m + 19), .ref (m + 20), .int 0, .int 0, .ref (m + 21), .ref (m + 22), .int 0]) rfl (up_self z0).symm ?_
                refine m_lconst F (v := 0) (by decide) e_X10_chance_91 ?_
                refine m_lstore F (lv' := [(4, .long 0), (0, .ref m), (1, .int x), (2, .int (nI k)), (3, .int z)]) e_X10_chance_92 (by decide) rfl ?_
                refine m_lconst F (v := 0) (by decide) e_X10_chance_94 ?_
                refine m_lstore F (lv' := [(6, .long 0), (4, .long 0), (0, .ref m), (1, .int x), (2, .int (nI k)), (3, .int z)]) e_X10_chance_95 (by decide) rfl ?_
                refine m_lconst F (v := 0) (by decide) e_X10_chance_97 ?_
                refine m_lstore F (lv' := [(8, .long 0), (6, .long 0), (4, .long 0), (0, .ref m), (1, .int x), (2, .int (nI k)), (3, .int z)]) e_X10_chance_98 (by decide) rfl ?_
                refine m_aload_n F rfl e_X10_chance_100 ?_
                refine m_get F e_X10_chance_101 fl_X10_59 z0 rfl ?_
                refine m_iconst F (v := 0) (by decide) e_X10_chance_104 ?_
                refine m_aload_n F rfl e_X10_chance_105 ?_
                refine m_get F e_X10_chance_106 fl_X10_66 z0 rfl ?_
                refine m_iconst F (v := 0) (by decide) e_X10_chance_109 ?_
                refine m_callS F e_X10_chance_110 (k_copies (x_l X) V _ _ (m + 16) (m + 18) 1113 1113 0 0 sZ (fun _ => 0) (by omega) (by omega) (by omega) (by omega) (by omega) z16 z18) cb_X10_copies ml_X10_230 sm_X10_copies rfl (rest := []) rfl (Nat.le_of_ble_eq_true rfl) ⟨Nat.le_of_ble_eq_true rfl, Nat.le_of_ble_eq_true rfl⟩ ⟨Nat.le_of_ble_eq_true rfl, Nat.le_of_ble_eq_true rfl⟩ (k' := 0) (z' := 0) (N' := N) rfl rfl rfl (fun r τ hp => ?_)
                obtain ⟨rfl, rfl⟩ := hp
                refine m_iconst F (v := 0) (by decide) e_X10_chance_113 ?_
                refine m_istore F (lv' := [(10, .int 0), (8, .long 0), (6, .long 0), (4, .long 0), (0, .ref m), (1, .int x), (2, .int (nI k)), (3, .int z)]) e_X10_chance_114 (by decide) rfl ?_
                refine Wm.lvsub (lv' := [(10, .int 0), (0, .ref m), (1, .int x), (2, .int (nI k)), (3, .int z), (4, .long 0), (6, .long 0), (8, .long 0)]) ?_ [0, 4, 5, 6, 7, 3, 2, 1] rfl
                exact lp_chance2 F hQ hk (fun τ => by rw [if_neg (fun h => h.elim q7 (fun h => h.elim q12 (fun h => h.elim q18 (fun h => h.elim q22 (fun h => absurd q27 (Int32.not_le.mpr h))))))]) (k + 1) 0 _ _ (by omega) (by omega) ⟨(ru_ne (by omega) z0), (ru_ne (by omega) z2), sZ, (fun _ => 0), (cpJ sZ (fun _ => 0) 0 0 1113), (fun _ => 0), (fun _ => 0), (ru_ne (by omega) z16), (ru_ne (by omega) z17), ru_eq, (ru_ne (by omega) z19), (ru_ne (by omega) z20), sZ744, rfl, ((cpJ_in (by omega) (by omega)).trans sZ744)⟩
            · have c50 : (0 + 12) > 99 := by have hh := mt (fun h9 => (lg_cmp_le (lN (0 + 12)) (lN 99)).mpr ((lN_le (a := (0 + 12)) (b := 99) (by omega) (by omega)).mpr h9)) q50; omega
              exfalso; omega
          · refine m_ldc2 F kc_X10_245 e_X10_chance_30 ?_
            exact m_lret F hQ e_X10_chance_33 (by rw [if_pos (Or.inr (Or.inr (Or.inr (Or.inr (Int32.not_le.mp q27)))))])
