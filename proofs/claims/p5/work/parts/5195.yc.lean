theorem BR.put {σ τ : Mem} {c m : Nat} {t : Nat → Nat} (h : BR σ c m t) (h1 : t m < 256) (e1 : elI τ (c + 1) m = some (nI (t m))) (e2 : ∀ i, i ≠ m → elI τ (c + 1) i = elI σ (c + 1) i) : BR τ c (m + 1) t := fun i hi => by
  by_cases e : i = m
  · subst e; exact ⟨h1, e1⟩
  · exact ⟨(h i (by omega)).1, (e2 i e).trans (h i (by omega)).2⟩
set_option maxRecDepth 20000 in
theorem lq_X10_feedE_20 {V : VX} {X : MX} {N : Nat} {σ : Mem} {c T Z u h : Nat} {P : NP} {L : Nat → LQ}  {x901 : Int32} {x902 : Int32} {x903 : Int32} {x904 : Int32} {x905 : Int32} {t : Nat → Nat} (F : Fx V X yX10_feed cX10_feed 8 (some .int) (rmd 0 0 0)) (hQ : Rt V X 0 0 N (fun r τ => (680 < T ∧ HS V c (⟨T, Z, u, h, P, L⟩ : RG) [0, 3, 4, 5, 6, 7, 8, 9, 10, 11, 12, 13, 14, 15, 16, 17, 18, 19, 20, 21, 22, 23] σ τ ∧ τ (c + 1) = σ (c + 1) ∧ r = some (.int (-1))) ∨ (T ≤ 680 ∧ HS V c (⟨T + 20, Z, u, h, P, L⟩ : RG) [0, 3, 4, 5, 6, 7, 8, 9, 10, 11, 12, 13, 14, 15, 16, 17, 18, 19, 20, 21, 22, 23] σ τ ∧ BR τ c (T + 20) t ∧ r = some (.int (nI (T + 20)))))) (hob : OKB L) (hP : OKP P) (hp0 : T ≤ 700) (hp1 : BR σ c T t) (hp2 : ∀ k, k < 20 → t (T + k) = fb x901 x902 x903 x904 x905 k)  : ∀ (fuel : Nat) (i : Nat) (τ : Mem), HS V c (⟨T, Z, u, h, P, L⟩ : RG) [0, 3, 4, 5, 6, 7, 8, 9, 10, 11, 12, 13, 14, 15, 16, 17, 18, 19, 20, 21, 22, 23] σ τ → i ≤ 20 ∧ T ≤ 680 ∧ BR τ c (T + i) t → 20 - i < fuel → Wm V X 8 N τ 0 0 20 [(0, .ref c), (1, .int x901), (2, .int x902), (3, .int x903), (4, .int x904), (5, .int x905), (6, .int (nI i))] [] := by
  intro fuel
  induction fuel with
  | zero => intros; rename_i hm; exact absurd hm (Nat.not_lt_zero _)
  | succ fuel ih =>
    intro i τ h1 hi hm
    have hPP := hP
    unfold OKP at hPP
    obtain ⟨i1, i2, hB1⟩ := hi
    refine m_iload F rfl e_X10_feed_20 ?_
    refine m_bipush F (v := 20) (by decide) e_X10_feed_22 ?_
    refine m_icmp_ge F e_X10_feed_24 (fun q24 => ?_) (fun q24 => ?_)
    · have c24 : i ≥ 20 := (nI_leI (a := 20) (b := i) (by omega) (by omega)).mp q24
      refine m_aload_n F rfl e_X10_feed_110 ?_
      refine m_dup F rfl e_X10_feed_111 ?_
      refine r_get F e_X10_feed_112 fl_X10_94 h1 rfl (fun v hv f17417 => ?_)
      obtain rfl : v = .int (nI (T)) := hv
      refine m_bipush F (v := 20) (by decide) e_X10_feed_115 ?_
      refine m_iadd F e_X10_feed_117 ?_
      refine Wm.topE (w := nI (T + 20)) (nI_add T 20) ?_
      refine r_put F (g' := (⟨T + 20, Z, u, h, P, L⟩ : RG)) e_X10_feed_118 fp_X10_94 h1 (by decide) rfl ctl_T CR.ctl rfl rfl (by decide) (fun σ17418 h17419 g17420 g17421 f17422 => ?_)
      have ga17423 := hB1.of (g17420 _ (by omega))
      refine m_aload_n F rfl e_X10_feed_121 ?_
      refine r_getC F e_X10_feed_122 fl_X10_94 h17419 (f17422) ?_
      have e20 : i = 20 := by omega
      have hb20 := ga17423
      rw [e20] at hb20
      exact m_iret F hQ e_X10_feed_125 (Or.inr ⟨by omega, h17419, hb20, rfl⟩)
    · have c24 : i < 20 := by have hh := mt (nI_leI (a := 20) (b := i) (by omega) (by omega)).mpr q24; omega
      refine m_iload F rfl e_X10_feed_27 ?_
      refine m_iconst F (v := 4) (by decide) e_X10_feed_29 ?_
      refine m_icmp_ge F e_X10_feed_30 (fun q30 => ?_) (fun q30 => ?_)
      · have c30 : i ≥ 4 := (nI_leI (a := 4) (b := i) (by omega) (by omega)).mp q30
        refine m_iload F rfl e_X10_feed_37 ?_
        refine m_bipush F (v := 8) (by decide) e_X10_feed_39 ?_
        refine m_icmp_ge F e_X10_feed_41 (fun q41 => ?_) (fun q41 => ?_)
        · have c41 : i ≥ 8 := (nI_leI (a := 8) (b := i) (by omega) (by omega)).mp q41
          refine m_iload F rfl e_X10_feed_48 ?_
          refine m_bipush F (v := 12) (by decide) e_X10_feed_50 ?_
          refine m_icmp_ge F e_X10_feed_52 (fun q52 => ?_) (fun q52 => ?_)
          · have c52 : i ≥ 12 := (nI_leI (a := 12) (b := i) (by omega) (by omega)).mp q52
            refine m_iload F rfl e_X10_feed_59 ?_
            refine m_bipush F (v := 16) (by decide) e_X10_feed_61 ?_
            refine m_icmp_ge F e_X10_feed_63 (fun q63 => ?_) (fun q63 => ?_)
            · have c63 : i ≥ 16 := (nI_leI (a := 16) (b := i) (by omega) (by omega)).mp q63
              refine m_iload F rfl e_X10_feed_71 ?_
              refine m_istore F (lv' := [(7, .int x905), (0, .ref c), (1, .int x901), (2, .int x902), (3, .int x903), (4, .int x904), (5, .int x905), (6, .int (nI i))]) e_X10_feed_73 (by decide) rfl ?_
              refine m_aload_n F rfl e_X10_feed_75 ?_
              refine r_get F e_X10_feed_76 fl_X10_7 h1 rfl (fun v hv f17424 => ?_)
              obtain rfl : v = .ref (c + 1) := hv
              refine m_aload_n F rfl e_X10_feed_79 ?_
              refine r_get F e_X10_feed_80 fl_X10_94 h1 rfl (fun v hv f17425 => ?_)
              obtain rfl : v = .int (nI (T)) := hv
              refine m_iload F rfl e_X10_feed_83 ?_
              refine m_iadd F e_X10_feed_85 ?_
              refine Wm.topE (w := nI (T + i)) (nI_add T i) ?_
              refine m_iload F rfl e_X10_feed_86 ?_
              refine m_bipush F (v := 24) (by decide) e_X10_feed_88 ?_
              refine m_bipush F (v := 8) (by decide) e_X10_feed_90 ?_
              refine m_iload F rfl e_X10_feed_92 ?_
              refine m_iconst F (v := 4) (by decide) e_X10_feed_94 ?_
              refine m_irem F (by decide) e_X10_feed_95 ?_
              refine Wm.topE (w := nI (i % 4)) (pk_rem (a := i) (d := 4) (by omega) (by decide) (by decide)) ?_
              refine m_imul F e_X10_feed_96 ?_
              refine Wm.topE (w := nI (8 * (i % 4))) (pk_mul 8 (i % 4)) ?_
              refine m_isub F e_X10_feed_97 ?_
              refine Wm.topE (w := nI (24 - (8 * (i % 4)))) (pk_sub (a := 24) (b := 8 * (i % 4)) (by omega)) ?_
              refine m_ishr F e_X10_feed_98 ?_
              refine m_sipush F (v := 255) (by decide) e_X10_feed_99 ?_
              refine m_iand F e_X10_feed_102 ?_
              have hb9 : t (T + i) < 256 := by rw [hp2 i (by omega)]; exact bt_lt
              refine Wm.topE (w := nI (t (T + i))) (by rw [hp2 i (by omega)]; unfold fb; rw [if_neg (show ¬ i < 4 by omega), if_neg (show ¬ i < 8 by omega), if_neg (show ¬ i < 12 by omega), if_neg (show ¬ i < 16 by omega)]; exact bt_nI rfl) ?_
              refine r_iast F (g' := (⟨T, Z, u, h, P, L⟩ : RG)) (len := 700) (j := T + i) e_X10_feed_103 h1 (fun _ h => h) (fun f h => ⟨f, rfl, h⟩) (by decide) (by decide) (nI_clamp (by omega)) (vp_in_nI (by omega) (by decide)) trivial (fun _ _ _ h => h) (fun _ _ _ h => h) (fun σ17426 h17427 g17428 f17429 g17430 => ?_)
              have ga17431 := BR.put hB1 hb9 f17429 g17430
              refine m_iinc F (v := nI (i + 1)) (lv' := [(6, .int (nI (i + 1))), (7, .int x905), (0, .ref c), (1, .int x901), (2, .int x902), (3, .int x903), (4, .int x904), (5, .int x905)]) e_X10_feed_104 rfl (nI_add i 1) (by decide) rfl ?_
              refine m_goto F e_X10_feed_107 ?_
              refine Wm.lvsub (lv' := [(0, .ref c), (1, .int x901), (2, .int x902), (3, .int x903), (4, .int x904), (5, .int x905), (6, .int (nI (i + 1)))]) ?_ [2, 3, 4, 5, 6, 7, 0] rfl
              exact ih (i + 1) _ h17427 ⟨by omega, by omega, ga17431⟩ (by omega)
            · have c63 : i < 16 := by have hh := mt (nI_leI (a := 16) (b := i) (by omega) (by omega)).mpr q63; omega
              refine m_iload F rfl e_X10_feed_66 ?_
              refine m_goto F e_X10_feed_68 ?_
              refine m_istore F (lv' := [(7, .int x904), (0, .ref c), (1, .int x901), (2, .int x902), (3, .int x903), (4, .int x904), (5, .int x905), (6, .int (nI i))]) e_X10_feed_73 (by decide) rfl ?_
              refine m_aload_n F rfl e_X10_feed_75 ?_
              refine r_get F e_X10_feed_76 fl_X10_7 h1 rfl (fun v hv f17432 => ?_)
              obtain rfl : v = .ref (c + 1) := hv
              refine m_aload_n F rfl e_X10_feed_79 ?_
              refine r_get F e_X10_feed_80 fl_X10_94 h1 rfl (fun v hv f17433 => ?_)
              obtain rfl : v = .int (nI (T)) := hv
              refine m_iload F rfl e_X10_feed_83 ?_
              refine m_iadd F e_X10_feed_85 ?_
              refine Wm.topE (w := nI (T + i)) (nI_add T i) ?_
              refine m_iload F rfl e_X10_feed_86 ?_
              refine m_bipush F (v := 24) (by decide) e_X10_feed_88 ?_
              refine m_bipush F (v := 8) (by decide) e_X10_feed_90 ?_
              refine m_iload F rfl e_X10_feed_92 ?_
              refine m_iconst F (v := 4) (by decide) e_X10_feed_94 ?_
              refine m_irem F (by decide) e_X10_feed_95 ?_
              refine Wm.topE (w := nI (i % 4)) (pk_rem (a := i) (d := 4) (by omega) (by decide) (by decide)) ?_
              refine m_imul F e_X10_feed_96 ?_
              refine Wm.topE (w := nI (8 * (i % 4))) (pk_mul 8 (i % 4)) ?_
              refine m_isub F e_X10_feed_97 ?_
              refine Wm.topE (w := nI (24 - (8 * (i % 4)))) (pk_sub (a := 24) (b := 8 * (i % 4)) (by omega)) ?_
              refine m_ishr F e_X10_feed_98 ?_
              refine m_sipush F (v := 255) (by decide) e_X10_feed_99 ?_
              refine m_iand F e_X10_feed_102 ?_
              have hb9 : t (T + i) < 256 := by rw [hp2 i (by omega)]; exact bt_lt
              refine Wm.topE (w := nI (t (T + i))) (by rw [hp2 i (by omega)]; unfold fb; rw [if_neg (show ¬ i < 4 by omega), if_neg (show ¬ i < 8 by omega), if_neg (show ¬ i < 12 by omega), if_pos (show i < 16 by omega)]; exact bt_nI rfl) ?_
              refine r_iast F (g' := (⟨T, Z, u, h, P, L⟩ : RG)) (len := 700) (j := T + i) e_X10_feed_103 h1 (fun _ h => h) (fun f h => ⟨f, rfl, h⟩) (by decide) (by decide) (nI_clamp (by omega)) (vp_in_nI (by omega) (by decide)) trivial (fun _ _ _ h => h) (fun _ _ _ h => h) (fun σ17434 h17435 g17436 f17437 g17438 => ?_)
              have ga17439 := BR.put hB1 hb9 f17437 g17438
              refine m_iinc F (v := nI (i + 1)) (lv' := [(6, .int (nI (i + 1))), (7, .int x904), (0, .ref c), (1, .int x901), (2, .int x902), (3, .int x903), (4, .int x904), (5, .int x905)]) e_X10_feed_104 rfl (nI_add i 1) (by decide) rfl ?_
              refine m_goto F e_X10_feed_107 ?_
              refine Wm.lvsub (lv' := [(0, .ref c), (1, .int x901), (2, .int x902), (3, .int x903), (4, .int x904), (5, .int x905), (6, .int (nI (i + 1)))]) ?_ [2, 3, 4, 5, 6, 7, 0] rfl
              exact ih (i + 1) _ h17435 ⟨by omega, by omega, ga17439⟩ (by omega)
          · have c52 : i < 12 := by have hh := mt (nI_leI (a := 12) (b := i) (by omega) (by omega)).mpr q52; omega
            refine m_iload_n F rfl e_X10_feed_55 ?_
            refine m_goto F e_X10_feed_56 ?_
            refine m_istore F (lv' := [(7, .int x903), (0, .ref c), (1, .int x901), (2, .int x902), (3, .int x903), (4, .int x904), (5, .int x905), (6, .int (nI i))]) e_X10_feed_73 (by decide) rfl ?_
            refine m_aload_n F rfl e_X10_feed_75 ?_
            refine r_get F e_X10_feed_76 fl_X10_7 h1 rfl (fun v hv f17440 => ?_)
            obtain rfl : v = .ref (c + 1) := hv
            refine m_aload_n F rfl e_X10_feed_79 ?_
            refine r_get F e_X10_feed_80 fl_X10_94 h1 rfl (fun v hv f17441 => ?_)
            obtain rfl : v = .int (nI (T)) := hv
            refine m_iload F rfl e_X10_feed_83 ?_
            refine m_iadd F e_X10_feed_85 ?_
            refine Wm.topE (w := nI (T + i)) (nI_add T i) ?_
            refine m_iload F rfl e_X10_feed_86 ?_
            refine m_bipush F (v := 24) (by decide) e_X10_feed_88 ?_
            refine m_bipush F (v := 8) (by decide) e_X10_feed_90 ?_
            refine m_iload F rfl e_X10_feed_92 ?_
            refine m_iconst F (v := 4) (by decide) e_X10_feed_94 ?_
            refine m_irem F (by decide) e_X10_feed_95 ?_
            refine Wm.topE (w := nI (i % 4)) (pk_rem (a := i) (d := 4) (by omega) (by decide) (by decide)) ?_
            refine m_imul F e_X10_feed_96 ?_
            refine Wm.topE (w := nI (8 * (i % 4))) (pk_mul 8 (i % 4)) ?_
            refine m_isub F e_X10_feed_97 ?_
            refine Wm.topE (w := nI (24 - (8 * (i % 4)))) (pk_sub (a := 24) (b := 8 * (i % 4)) (by omega)) ?_
            refine m_ishr F e_X10_feed_98 ?_
            refine m_sipush F (v := 255) (by decide) e_X10_feed_99 ?_
            refine m_iand F e_X10_feed_102 ?_
            have hb9 : t (T + i) < 256 := by rw [hp2 i (by omega)]; exact bt_lt
            refine Wm.topE (w := nI (t (T + i))) (by rw [hp2 i (by omega)]; unfold fb; rw [if_neg (show ¬ i < 4 by omega), if_neg (show ¬ i < 8 by omega), if_pos (show i < 12 by omega)]; exact bt_nI rfl) ?_
            refine r_iast F (g' := (⟨T, Z, u, h, P, L⟩ : RG)) (len := 700) (j := T + i) e_X10_feed_103 h1 (fun _ h => h) (fun f h => ⟨f, rfl, h⟩) (by decide) (by decide) (nI_clamp (by omega)) (vp_in_nI (by omega) (by decide)) trivial (fun _ _ _ h => h) (fun _ _ _ h => h) (fun σ17442 h17443 g17444 f17445 g17446 => ?_)
            have ga17447 := BR.put hB1 hb9 f17445 g17446
            refine m_iinc F (v := nI (i + 1)) (lv' := [(6, .int (nI (i + 1))), (7, .int x903), (0, .ref c), (1, .int x901), (2, .int x902), (3, .int x903), (4, .int x904), (5, .int x905)]) e_X10_feed_104 rfl (nI_add i 1) (by decide) rfl ?_
            refine m_goto F e_X10_feed_107 ?_
            refine Wm.lvsub (lv' := [(0, .ref c), (1, .int x901), (2, .int x902), (3, .int x903), (4, .int x904), (5, .int x905), (6, .int (nI (i + 1)))]) ?_ [2, 3, 4, 5, 6, 7, 0] rfl
            exact ih (i + 1) _ h17443 ⟨by omega, by omega, ga17447⟩ (by omega)
        · have c41 : i < 8 := by have hh := mt (nI_leI (a := 8) (b := i) (by omega) (by omega)).mpr q41; omega
          refine m_iload_n F rfl e_X10_feed_44 ?_
          refine m_goto F e_X10_feed_45 ?_
          refine m_istore F (lv' := [(7, .int x902), (0, .ref c), (1, .int x901), (2, .int x902), (3, .int x903), (4, .int x904), (5, .int x905), (6, .int (nI i))]) e_X10_feed_73 (by decide) rfl ?_
          refine m_aload_n F rfl e_X10_feed_75 ?_
          refine r_get F e_X10_feed_76 fl_X10_7 h1 rfl (fun v hv f17448 => ?_)
          obtain rfl : v = .ref (c + 1) := hv
          refine m_aload_n F rfl e_X10_feed_79 ?_
          refine r_get F e_X10_feed_80 fl_X10_94 h1 rfl (fun v hv f17449 => ?_)
          obtain rfl : v = .int (nI (T)) := hv
          refine m_iload F rfl e_X10_feed_83 ?_
          refine m_iadd F e_X10_feed_85 ?_
          refine Wm.topE (w := nI (T + i)) (nI_add T i) ?_
          refine m_iload F rfl e_X10_feed_86 ?_
          refine m_bipush F (v := 24) (by decide) e_X10_feed_88 ?_
          refine m_bipush F (v := 8) (by decide) e_X10_feed_90 ?_
          refine m_iload F rfl e_X10_feed_92 ?_
          refine m_iconst F (v := 4) (by decide) e_X10_feed_94 ?_
          refine m_irem F (by decide) e_X10_feed_95 ?_
          refine Wm.topE (w := nI (i % 4)) (pk_rem (a := i) (d := 4) (by omega) (by decide) (by decide)) ?_
          refine m_imul F e_X10_feed_96 ?_
          refine Wm.topE (w := nI (8 * (i % 4))) (pk_mul 8 (i % 4)) ?_
          refine m_isub F e_X10_feed_97 ?_
          refine Wm.topE (w := nI (24 - (8 * (i % 4)))) (pk_sub (a := 24) (b := 8 * (i % 4)) (by omega)) ?_
          refine m_ishr F e_X10_feed_98 ?_
          refine m_sipush F (v := 255) (by decide) e_X10_feed_99 ?_
          refine m_iand F e_X10_feed_102 ?_
          have hb9 : t (T + i) < 256 := by rw [hp2 i (by omega)]; exact bt_lt
          refine Wm.topE (w := nI (t (T + i))) (by rw [hp2 i (by omega)]; unfold fb; rw [if_neg (show ¬ i < 4 by omega), if_pos (show i < 8 by omega)]; exact bt_nI rfl) ?_
          refine r_iast F (g' := (⟨T, Z, u, h, P, L⟩ : RG)) (len := 700) (j := T + i) e_X10_feed_103 h1 (fun _ h => h) (fun f h => ⟨f, rfl, h⟩) (by decide) (by decide) (nI_clamp (by omega)) (vp_in_nI (by omega) (by decide)) trivial (fun _ _ _ h => h) (fun _ _ _ h => h) (fun σ17450 h17451 g17452 f17453 g17454 => ?_)
          have ga17455 := BR.put hB1 hb9 f17453 g17454
          refine m_iinc F (v := nI (i + 1)) (lv' := [(6, .int (nI (i + 1))), (7, .int x902), (0, .ref c), (1, .int x901), (2, .int x902), (3, .int x903), (4, .int x904), (5, .int x905)]) e_X10_feed_104 rfl (nI_add i 1) (by decide) rfl ?_
          refine m_goto F e_X10_feed_107 ?_
          refine Wm.lvsub (lv' := [(0, .ref c), (1, .int x901), (2, .int x902), (3, .int x903), (4, .int x904), (5, .int x905), (6, .int (nI (i + 1)))]) ?_ [2, 3, 4, 5, 6, 7, 0] rfl
          exact ih (i + 1) _ h17451 ⟨by omega, by omega, ga17455⟩ (by omega)
      · have c30 : i < 4 := by have hh := mt (nI_leI (a := 4) (b := i) (by omega) (by omega)).mpr q30; omega
        refine m_iload_n F rfl e_X10_feed_33 ?_
        refine m_goto F e_X10_feed_34 ?_
        refine m_istore F (lv' := [(7, .int x901), (0, .ref c), (1, .int x901), (2, .int x902), (3, .int x903), (4, .int x904), (5, .int x905), (6, .int (nI i))]) e_X10_feed_73 (by decide) rfl ?_
        refine m_aload_n F rfl e_X10_feed_75 ?_
        refine r_get F e_X10_feed_76 fl_X10_7 h1 rfl (fun v hv f17456 => ?_)
        obtain rfl : v = .ref (c + 1) := hv
        refine m_aload_n F rfl e_X10_feed_79 ?_
        refine r_get F e_X10_feed_80 fl_X10_94 h1 rfl (fun v hv f17457 => ?_)
        obtain rfl : v = .int (nI (T)) := hv
        refine m_iload F rfl e_X10_feed_83 ?_
        refine m_iadd F e_X10_feed_85 ?_
        refine Wm.topE (w := nI (T + i)) (nI_add T i) ?_
        refine m_iload F rfl e_X10_feed_86 ?_
        refine m_bipush F (v := 24) (by decide) e_X10_feed_88 ?_
        refine m_bipush F (v := 8) (by decide) e_X10_feed_90 ?_
        refine m_iload F rfl e_X10_feed_92 ?_
        refine m_iconst F (v := 4) (by decide) e_X10_feed_94 ?_
        refine m_irem F (by decide) e_X10_feed_95 ?_
        refine Wm.topE (w := nI (i % 4)) (pk_rem (a := i) (d := 4) (by omega) (by decide) (by decide)) ?_
        refine m_imul F e_X10_feed_96 ?_
        refine Wm.topE (w := nI (8 * (i % 4))) (pk_mul 8 (i % 4)) ?_
        refine m_isub F e_X10_feed_97 ?_
        refine Wm.topE (w := nI (24 - (8 * (i % 4)))) (pk_sub (a := 24) (b := 8 * (i % 4)) (by omega)) ?_
        refine m_ishr F e_X10_feed_98 ?_
        refine m_sipush F (v := 255) (by decide) e_X10_feed_99 ?_
        refine m_iand F e_X10_feed_102 ?_
        have hb9 : t (T + i) < 256 := by rw [hp2 i (by omega)]; exact bt_lt
        refine Wm.topE (w := nI (t (T + i))) (by rw [hp2 i (by omega)]; unfold fb; rw [if_pos (show i < 4 by omega)]; exact bt_nI rfl) ?_
        refine r_iast F (g' := (⟨T, Z, u, h, P, L⟩ : RG)) (len := 700) (j := T + i) e_X10_feed_103 h1 (fun _ h => h) (fun f h => ⟨f, rfl, h⟩) (by decide) (by decide) (nI_clamp (by omega)) (vp_in_nI (by omega) (by decide)) trivial (fun _ _ _ h => h) (fun _ _ _ h => h) (fun σ17458 h17459 g17460 f17461 g17462 => ?_)
        have ga17463 := BR.put hB1 hb9 f17461 g17462
        refine m_iinc F (v := nI (i + 1)) (lv' := [(6, .int (nI (i + 1))), (7, .int x901), (0, .ref c), (1, .int x901), (2, .int x902), (3, .int x903), (4, .int x904), (5, .int x905)]) e_X10_feed_104 rfl (nI_add i 1) (by decide) rfl ?_
        refine m_goto F e_X10_feed_107 ?_
        refine Wm.lvsub (lv' := [(0, .ref c), (1, .int x901), (2, .int x902), (3, .int x903), (4, .int x904), (5, .int x905), (6, .int (nI (i + 1)))]) ?_ [2, 3, 4, 5, 6, 7, 0] rfl
        exact ih (i + 1) _ h17459 ⟨by omega, by omega, ga17463⟩ (by omega)
set_option maxRecDepth 20000 in
theorem q_X10_feedE (l : Launch) (V : VX) (c T Z u h : Nat) (P : NP) (L : Nat → LQ) (N : Nat) (σ : Mem) (x901 : Int32) (x902 : Int32) (x903 : Int32) (x904 : Int32) (x905 : Int32) (t : Nat → Nat) (h0 : HR V c ⟨T, Z, u, h, P, L⟩ σ) (hob : OKB L) (hP : OKP P) (hp0 : T ≤ 700) (hp1 : BR σ c T t) (hp2 : ∀ k, k < 20 → t (T + k) = fb x901 x902 x903 x904 x905 k) : Ct l V yX10_feed cX10_feed 8 (some .int) 0 0 0 N σ [.ref c, .int x901, .int x902, .int x903, .int x904, .int x905] (fun r τ => (680 < T ∧ HS V c (⟨T, Z, u, h, P, L⟩ : RG) [0, 3, 4, 5, 6, 7, 8, 9, 10, 11, 12, 13, 14, 15, 16, 17, 18, 19, 20, 21, 22, 23] σ τ ∧ τ (c + 1) = σ (c + 1) ∧ r = some (.int (-1))) ∨ (T ≤ 680 ∧ HS V c (⟨T + 20, Z, u, h, P, L⟩ : RG) [0, 3, 4, 5, 6, 7, 8, 9, 10, 11, 12, 13, 14, 15, 16, 17, 18, 19, 20, 21, 22, 23] σ τ ∧ BR τ c (T + 20) t ∧ r = some (.int (nI (T + 20))))) := by
  refine Ct.of (by decide) (Nat.le_of_ble_eq_true rfl) [(0, .ref c), (1, .int x901), (2, .int x902), (3, .int x903), (4, .int x904), (5, .int x905)] rfl (fun X hX F hQ => ?_)
  have hPP := hP
  unfold OKP at hPP
  have h1 : HS V c ⟨T, Z, u, h, P, L⟩ [0, 3, 4, 5, 6, 7, 8, 9, 10, 11, 12, 13, 14, 15, 16, 17, 18, 19, 20, 21, 22, 23] σ σ := HS.start h0
  refine m_aload_n F rfl e_X10_feed_0 ?_
  refine m_iconst F (v := 0) (by decide) e_X10_feed_1 ?_
  refine r_put F (g' := (⟨T, Z, u, h, P, L⟩ : RG)) e_X10_feed_2 fp_X10_91 h1 (by decide) ⟨_, rfl⟩ (fun _ _ _ _ q => q) (fun _ _ _ q => q) rfl rfl (by decide) (fun σ17464 h17465 g17466 g17467 f17468 => ?_)
  have ga17469 := hp1.of (g17466 _ (by omega))
  refine m_aload_n F rfl e_X10_feed_5 ?_
  refine r_get F e_X10_feed_6 fl_X10_94 h17465 rfl (fun v hv f17470 => ?_)
  obtain rfl : v = .int (nI (T)) := hv
  refine m_sipush F (v := 680) (by decide) e_X10_feed_9 ?_
  refine m_icmp_le F e_X10_feed_12 (fun q12 => ?_) (fun q12 => ?_)
  · have c12 : T ≤ 680 := (nI_leI (a := T) (b := 680) (by omega) (by omega)).mp q12
    refine m_iconst F (v := 0) (by decide) e_X10_feed_17 ?_
    refine m_istore F (lv' := [(6, .int 0), (0, .ref c), (1, .int x901), (2, .int x902), (3, .int x903), (4, .int x904), (5, .int x905)]) e_X10_feed_18 (by decide) rfl ?_
    refine Wm.lvsub (lv' := [(0, .ref c), (1, .int x901), (2, .int x902), (3, .int x903), (4, .int x904), (5, .int x905), (6, .int 0)]) ?_ [1, 2, 3, 4, 5, 6, 0] rfl
    exact lq_X10_feedE_20 F hQ hob hP hp0 hp1 hp2 (20 - 0 + 1) 0 _ h17465 ⟨by omega, by omega, ga17469⟩ (Nat.lt_succ_self _)
  · have c12 : T > 680 := by have hh := mt (nI_leI (a := T) (b := 680) (by omega) (by omega)).mpr q12; omega
    refine m_iconst F (v := (-1)) (by decide) e_X10_feed_15 ?_
    exact m_iret F hQ e_X10_feed_16 (Or.inl ⟨by omega, h17465, g17466 (c + 1) (by omega), rfl⟩)
