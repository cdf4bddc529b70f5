set_option maxRecDepth 20000 in
theorem lq_X10_rateFor_25 {V : VX} {X : MX} {N : Nat} {σ : Mem} {c T Z u h : Nat} {P : NP} {L : Nat → LQ}  {n901 : Nat} {n902 : Nat} {x903 : Int64} (F : Fx V X yX10_rateFor cX10_rateFor 8 (some .int) (rmd 2 0 0)) (hQ : Rt V X 0 0 N (fun r τ => HS V c (⟨T, Z, u, h, P, L⟩ : RG) [0, 1, 2, 3, 4, 5, 6, 7, 8, 9, 10, 11, 12, 13, 14, 15, 16, 17, 18, 19, 20, 21, 22, 23] σ τ ∧ (r = some (.int (-2)) ∨ ∃ n : Nat, n ≤ 200000 ∧ r = some (.int (nI n))))) (hob : OKB L) (hP : OKP P) (hn901 : n901 ≤ 3) (hn902 : n902 ≤ 72) (hp0 : 1 ≤ n902)  : ∀ (fuel : Nat) (a : Nat) (b : Nat) (τ : Mem), HS V c (⟨T, Z, u, h, P, L⟩ : RG) [0, 1, 2, 3, 4, 5, 6, 7, 8, 9, 10, 11, 12, 13, 14, 15, 16, 17, 18, 19, 20, 21, 22, 23] σ τ → a ≤ b ∧ b ≤ 200000 → b - a < fuel → Wm V X 8 N τ 0 0 25 [(0, .ref c), (1, .int (nI n901)), (2, .int (nI n902)), (3, .long x903), (5, .int (nI a)), (6, .int (nI b))] [] := by
  intro fuel
  induction fuel with
  | zero => intros; rename_i hm; exact absurd hm (Nat.not_lt_zero _)
  | succ fuel ih =>
    intro a b τ h1 hi hm
    have hPP := hP
    unfold OKP at hPP
    refine m_iload F rfl e_X10_rateFor_25 ?_
    refine m_iload F rfl e_X10_rateFor_27 ?_
    refine m_icmp_ge F e_X10_rateFor_29 (fun q29 => ?_) (fun q29 => ?_)
    · have c29 : a ≥ b := (nI_leI (a := b) (b := a) (by omega) (by omega)).mp q29
      refine m_iload F rfl e_X10_rateFor_76 ?_
      exact m_iret F hQ e_X10_rateFor_78 (⟨h1, Or.inr ⟨a, by omega, rfl⟩⟩)
    · have c29 : a < b := by have hh := mt (nI_leI (a := b) (b := a) (by omega) (by omega)).mpr q29; omega
      refine m_iload F rfl e_X10_rateFor_32 ?_
      refine m_iload F rfl e_X10_rateFor_34 ?_
      refine m_iadd F e_X10_rateFor_36 ?_
      refine Wm.topE (w := nI (a + b)) (nI_add a b) ?_
      refine m_iconst F (v := 1) (by decide) e_X10_rateFor_37 ?_
      refine m_iadd F e_X10_rateFor_38 ?_
      refine Wm.topE (w := nI (a + b + 1)) (nI_add (a + b) 1) ?_
      refine m_iconst F (v := 2) (by decide) e_X10_rateFor_39 ?_
      refine m_idiv F (by decide) e_X10_rateFor_40 ?_
      refine Wm.topE (w := nI ((a + b + 1) / 2)) (pk_div (a := a + b + 1) (d := 2) (by omega) (by decide) (by decide)) ?_
      refine m_istore F (lv' := [(7, .int (nI ((a + b + 1) / 2))), (0, .ref c), (1, .int (nI n901)), (2, .int (nI n902)), (3, .long x903), (5, .int (nI a)), (6, .int (nI b))]) e_X10_rateFor_41 (by decide) rfl ?_
      refine m_aload_n F rfl e_X10_rateFor_43 ?_
      refine m_iload_n F rfl e_X10_rateFor_44 ?_
      refine m_iload_n F rfl e_X10_rateFor_45 ?_
      refine m_iload F rfl e_X10_rateFor_46 ?_
      refine m_i2l F e_X10_rateFor_48 ?_
      refine Wm.toplE (w := lN ((a + b + 1) / 2)) (nI_l (by omega)) ?_
      refine m_ldc2 F kc_X10_245 e_X10_rateFor_49 ?_
      refine r_callV F e_X10_rateFor_52 (q_X10_worthBy (x_l X) V c T Z u h P L _ _ n901 n902 ((a + b + 1) / 2) (-1) h1.1 (hob) hP (by omega) (by omega) (by omega) (by first | omega | assumption | decide)) cb_X10_worthBy ml_X10_247 im_X10_worthBy se_X10_worthBy h1 rfl rfl (rest := []) rfl (Nat.le_of_ble_eq_true rfl) ⟨Nat.le_of_ble_eq_true rfl, Nat.le_of_ble_eq_true rfl⟩ ⟨Nat.le_of_ble_eq_true rfl, Nat.le_of_ble_eq_true rfl⟩ (fun r σ5446 hp => ?_)
      obtain ⟨h5447, x5449, rfl⟩ := hp
      have h5448 := HS.trans h1 h5447 (by decide)
      refine m_lload_n F rfl e_X10_rateFor_55 ?_
      refine m_lcmp F e_X10_rateFor_56 ?_
      refine Wm.top (fun x5450 _ => ?_)
      refine m_if_lt F e_X10_rateFor_57 (fun q57 => ?_) (fun q57 => ?_)
      · refine m_iload F rfl e_X10_rateFor_67 ?_
        refine m_iconst F (v := 1) (by decide) e_X10_rateFor_69 ?_
        refine m_isub F e_X10_rateFor_70 ?_
        refine Wm.topE (w := nI (((a + b + 1) / 2) - 1)) (pk_sub (a := (a + b + 1) / 2) (b := 1) (by omega)) ?_
        refine m_istore F (lv' := [(6, .int (nI (((a + b + 1) / 2) - 1))), (7, .int (nI ((a + b + 1) / 2))), (0, .ref c), (1, .int (nI n901)), (2, .int (nI n902)), (3, .long x903), (5, .int (nI a))]) e_X10_rateFor_71 (by decide) rfl ?_
        refine m_goto F e_X10_rateFor_73 ?_
        refine Wm.lvsub (lv' := [(0, .ref c), (1, .int (nI n901)), (2, .int (nI n902)), (3, .long x903), (5, .int (nI a)), (6, .int (nI (((a + b + 1) / 2) - 1)))]) ?_ [2, 3, 4, 5, 6, 0] rfl
        exact ih a (((a + b + 1) / 2) - 1) _ h5448 (by omega) (by omega)
      · obtain ⟨n5451, hn5451, rfl⟩ := nI_nn (x := x5450) (fun e => q57 (Int32.lt_of_lt_of_le e (by decide)))
        have c57 : n5451 ≥ 0 := by have hh := mt (nI_ltI (a := n5451) (b := 0) (by omega) (by omega)).mpr q57; omega
        refine m_iload F rfl e_X10_rateFor_60 ?_
        refine m_istore F (lv' := [(5, .int (nI ((a + b + 1) / 2))), (7, .int (nI ((a + b + 1) / 2))), (0, .ref c), (1, .int (nI n901)), (2, .int (nI n902)), (3, .long x903), (6, .int (nI b))]) e_X10_rateFor_62 (by decide) rfl ?_
        refine m_goto F e_X10_rateFor_64 ?_
        refine m_goto F e_X10_rateFor_73 ?_
        refine Wm.lvsub (lv' := [(0, .ref c), (1, .int (nI n901)), (2, .int (nI n902)), (3, .long x903), (5, .int (nI ((a + b + 1) / 2))), (6, .int (nI b))]) ?_ [2, 3, 4, 5, 0, 6] rfl
        exact ih ((a + b + 1) / 2) b _ h5448 (by omega) (by omega)
set_option maxRecDepth 20000 in
theorem q_X10_rateFor (l : Launch) (V : VX) (c T Z u h : Nat) (P : NP) (L : Nat → LQ) (N : Nat) (σ : Mem) (n901 : Nat) (n902 : Nat) (x903 : Int64) (h0 : HR V c ⟨T, Z, u, h, P, L⟩ σ) (hob : OKB L) (hP : OKP P) (hn901 : n901 ≤ 3) (hn902 : n902 ≤ 72) (hp0 : 1 ≤ n902) : Ct l V yX10_rateFor cX10_rateFor 8 (some .int) 2 0 0 N σ [.ref c, .int (nI n901), .int (nI n902), .long x903] (fun r τ => HS V c (⟨T, Z, u, h, P, L⟩ : RG) [0, 1, 2, 3, 4, 5, 6, 7, 8, 9, 10, 11, 12, 13, 14, 15, 16, 17, 18, 19, 20, 21, 22, 23] σ τ ∧ (r = some (.int (-2)) ∨ ∃ n : Nat, n ≤ 200000 ∧ r = some (.int (nI n)))) := by
  refine Ct.of (by decide) (Nat.le_of_ble_eq_true rfl) [(0, .ref c), (1, .int (nI n901)), (2, .int (nI n902)), (3, .long x903)] rfl (fun X hX F hQ => ?_)
  have hPP := hP
  unfold OKP at hPP
  have h1 : HS V c ⟨T, Z, u, h, P, L⟩ [0, 1, 2, 3, 4, 5, 6, 7, 8, 9, 10, 11, 12, 13, 14, 15, 16, 17, 18, 19, 20, 21, 22, 23] σ σ := HS.start h0
  refine m_aload_n F rfl e_X10_rateFor_0 ?_
  refine m_iload_n F rfl e_X10_rateFor_1 ?_
  refine m_iload_n F rfl e_X10_rateFor_2 ?_
  refine m_lconst F (v := 0) (by decide) e_X10_rateFor_3 ?_
  refine m_ldc2 F kc_X10_245 e_X10_rateFor_4 ?_
  refine r_callV F e_X10_rateFor_7 (q_X10_worthBy (x_l X) V c T Z u h P L _ _ n901 n902 0 (-1) h1.1 (hob) hP (by omega) (by omega) (by omega) (by first | omega | assumption | decide)) cb_X10_worthBy ml_X10_247 im_X10_worthBy se_X10_worthBy h1 rfl rfl (rest := []) rfl (Nat.le_of_ble_eq_true rfl) ⟨Nat.le_of_ble_eq_true rfl, Nat.le_of_ble_eq_true rfl⟩ ⟨Nat.le_of_ble_eq_true rfl, Nat.le_of_ble_eq_true rfl⟩ (fun r σ5452 hp => ?_)
  obtain ⟨h5453, x5455, rfl⟩ := hp
  have h5454 := HS.trans h1 h5453 (by decide)
  refine m_lload_n F rfl e_X10_rateFor_10 ?_
  refine m_lcmp F e_X10_rateFor_11 ?_
  refine Wm.top (fun x5456 _ => ?_)
  refine m_if_ge F e_X10_rateFor_12 (fun q12 => ?_) (fun q12 => ?_)
  · obtain ⟨n5457, hn5457, rfl⟩ := nI_nn (x := x5456) (fun e => Int32.lt_irrefl (Int32.lt_of_lt_of_le e (Int32.le_trans (by decide) q12)))
    have c12 : n5457 ≥ 0 := (nI_leI (a := 0) (b := n5457) (by omega) (by omega)).mp q12
    refine m_iconst F (v := 0) (by decide) e_X10_rateFor_18 ?_
    refine m_istore F (lv' := [(5, .int 0), (0, .ref c), (1, .int (nI n901)), (2, .int (nI n902)), (3, .long x903)]) e_X10_rateFor_19 (by decide) rfl ?_
    refine m_ldc F kc_X10_169 e_X10_rateFor_21 ?_
    refine m_istore F (lv' := [(6, .int 200000), (5, .int 0), (0, .ref c), (1, .int (nI n901)), (2, .int (nI n902)), (3, .long x903)]) e_X10_rateFor_23 (by decide) rfl ?_
    refine Wm.lvsub (lv' := [(0, .ref c), (1, .int (nI n901)), (2, .int (nI n902)), (3, .long x903), (5, .int 0), (6, .int 200000)]) ?_ [2, 3, 4, 5, 1, 0] rfl
    exact lq_X10_rateFor_25 F hQ hob hP hn901 hn902 hp0 (200000 - 0 + 1) 0 200000 _ h5454 (by omega) (Nat.lt_succ_self _)
  · refine m_bipush F (v := (-2)) (by decide) e_X10_rateFor_15 ?_
    exact m_iret F hQ e_X10_rateFor_17 (⟨h5454, Or.inl rfl⟩)
set_option maxRecDepth 20000 in
theorem q_X10_due (l : Launch) (V : VX) (c T Z u h : Nat) (P : NP) (L : Nat → LQ) (N : Nat) (σ : Mem) (x901 : Int32) (x902 : Int32) (h0 : HR V c ⟨T, Z, u, h, P, L⟩ σ) (hob : OKB L) (hP : OKP P)  : Ct l V yX10_due cX10_due 3 (some .long) 3 0 0 N σ [.ref c, .int x901, .int x902] (fun r τ => HS V c (⟨T, Z, u, h, P, L⟩ : RG) [0, 2, 3, 4, 5, 6, 7, 8, 9, 10, 11, 12, 13, 14, 15, 16, 17, 18, 19, 20, 21, 22, 23] σ τ ∧ ∃ x : Int64, r = some (.long x)) := by
  refine Ct.of (by decide) (Nat.le_of_ble_eq_true rfl) [(0, .ref c), (1, .int x901), (2, .int x902)] rfl (fun X hX F hQ => ?_)
  have hPP := hP
  unfold OKP at hPP
  have h1 : HS V c ⟨T, Z, u, h, P, L⟩ [0, 2, 3, 4, 5, 6, 7, 8, 9, 10, 11, 12, 13, 14, 15, 16, 17, 18, 19, 20, 21, 22, 23] σ σ := HS.start h0
  refine m_aload_n F rfl e_X10_due_0 ?_
  refine m_iconst F (v := 0) (by decide) e_X10_due_1 ?_
  refine r_put F (g' := (⟨T, Z, u, h, P, L⟩ : RG)) e_X10_due_2 fp_X10_91 h1 (by decide) ⟨_, rfl⟩ (fun _ _ _ _ q => q) (fun _ _ _ q => q) rfl rfl (by decide) (fun σ5458 h5459 g5460 g5461 f5462 => ?_)
  refine m_aload_n F rfl e_X10_due_5 ?_
  refine m_iload_n F rfl e_X10_due_6 ?_
  refine m_iload_n F rfl e_X10_due_7 ?_
  refine r_callV F e_X10_due_8 (q_X10_isOwn (x_l X) V c T Z u h P L _ _ x901 x902 h5459.1 (hob) hP ) cb_X10_isOwn ml_X10_295 im_X10_isOwn se_X10_isOwn h5459 rfl rfl (rest := []) rfl (Nat.le_of_ble_eq_true rfl) ⟨Nat.le_of_ble_eq_true rfl, Nat.le_of_ble_eq_true rfl⟩ ⟨Nat.le_of_ble_eq_true rfl, Nat.le_of_ble_eq_true rfl⟩ (fun r σ5463 hp => ?_)
  obtain ⟨h5464, c5466⟩ := hp
  have h5465 := HS.trans h5459 h5464 (by decide)
  rcases c5466 with rfl | ⟨n5467, n5468, h5469, h5470, h5471, e5472, e5473, rfl⟩
  · refine m_if_eq F e_X10_due_11 (fun _ => ?_) (fun q => absurd (by decide) q)
    refine m_ldc2 F kc_X10_245 e_X10_due_34 ?_
    exact m_lret F hQ e_X10_due_37 (⟨h5465, _, rfl⟩)
  · subst e5472
    subst e5473
    refine m_if_eq F e_X10_due_11 (fun q => absurd q (by decide)) (fun _ => ?_)
    have hl5474 := (hob).2 n5467 (by omega)
    have hl5475 := (hob).2 n5467 (by omega)
    have hl5476 := (hob).2 n5467 (by omega)
    refine m_aload_n F rfl e_X10_due_14 ?_
    refine r_get F e_X10_due_15 fl_X10_59 h5465 rfl (fun v hv f5477 => ?_)
    obtain rfl : v = .ref (c + 16) := hv
    refine m_sipush F (v := 160) (by decide) e_X10_due_18 ?_
    refine m_iload_n F rfl e_X10_due_21 ?_
    refine m_imul F e_X10_due_22 ?_
    refine Wm.topE (w := nI (160 * n5467)) (pk_mul 160 n5467) ?_
    refine m_bipush F (v := 13) (by decide) e_X10_due_23 ?_
    refine m_iadd F e_X10_due_25 ?_
    refine Wm.topE (w := nI (160 * n5467 + 13)) (nI_add (160 * n5467) 13) ?_
    refine m_iload_n F rfl e_X10_due_26 ?_
    refine m_iadd F e_X10_due_27 ?_
    refine Wm.topE (w := nI ((160 * n5467 + 13) + n5468)) (nI_add (160 * n5467 + 13) n5468) ?_
    refine m_iconst F (v := 1) (by decide) e_X10_due_28 ?_
    refine m_isub F e_X10_due_29 ?_
    refine Wm.topE (w := nI (((160 * n5467 + 13) + n5468) - 1)) (pk_sub (a := (160 * n5467 + 13) + n5468) (b := 1) (by omega)) ?_
    refine r_sld F (j := ((160 * n5467 + 13) + n5468) - 1) e_X10_due_30 h5465 (nI_clamp (by omega)) (vp_in_nI (by omega) (by decide)) (fun x5478 h5479 f5480 => ?_)
    refine m_goto F e_X10_due_31 ?_
    exact m_lret F hQ e_X10_due_37 (⟨h5465, _, rfl⟩)
set_option maxRecDepth 20000 in
theorem q_X10_worth (l : Launch) (V : VX) (c T Z u h : Nat) (P : NP) (L : Nat → LQ) (N : Nat) (σ : Mem) (x901 : Int32) (x902 : Int32) (x903 : Int32) (h0 : HR V c ⟨T, Z, u, h, P, L⟩ σ) (hob : OKB L) (hP : OKP P)  : Ct l V yX10_worth cX10_worth 4 (some .long) 3 0 0 N σ [.ref c, .int x901, .int x902, .int x903] (fun r τ => HS V c (⟨T, Z, u, h, P, L⟩ : RG) [0, 2, 3, 4, 5, 6, 7, 8, 9, 10, 11, 12, 13, 14, 15, 16, 17, 18, 19, 20, 21, 22, 23] σ τ ∧ ∃ x : Int64, r = some (.long x)) := by
  refine Ct.of (by decide) (Nat.le_of_ble_eq_true rfl) [(0, .ref c), (1, .int x901), (2, .int x902), (3, .int x903)] rfl (fun X hX F hQ => ?_)
  have hPP := hP
  unfold OKP at hPP
  have h1 : HS V c ⟨T, Z, u, h, P, L⟩ [0, 2, 3, 4, 5, 6, 7, 8, 9, 10, 11, 12, 13, 14, 15, 16, 17, 18, 19, 20, 21, 22, 23] σ σ := HS.start h0
  refine m_aload_n F rfl e_X10_worth_0 ?_
  refine m_iconst F (v := 0) (by decide) e_X10_worth_1 ?_
  refine r_put F (g' := (⟨T, Z, u, h, P, L⟩ : RG)) e_X10_worth_2 fp_X10_91 h1 (by decide) ⟨_, rfl⟩ (fun _ _ _ _ q => q) (fun _ _ _ q => q) rfl rfl (by decide) (fun σ5481 h5482 g5483 g5484 f5485 => ?_)
  refine m_aload_n F rfl e_X10_worth_5 ?_
  refine m_iload_n F rfl e_X10_worth_6 ?_
  refine m_iload_n F rfl e_X10_worth_7 ?_
  refine r_callV F e_X10_worth_8 (q_X10_isOwn (x_l X) V c T Z u h P L _ _ x901 x902 h5482.1 (hob) hP ) cb_X10_isOwn ml_X10_295 im_X10_isOwn se_X10_isOwn h5482 rfl rfl (rest := []) rfl (Nat.le_of_ble_eq_true rfl) ⟨Nat.le_of_ble_eq_true rfl, Nat.le_of_ble_eq_true rfl⟩ ⟨Nat.le_of_ble_eq_true rfl, Nat.le_of_ble_eq_true rfl⟩ (fun r σ5486 hp => ?_)
  obtain ⟨h5487, c5489⟩ := hp
  have h5488 := HS.trans h5482 h5487 (by decide)
  rcases c5489 with rfl | ⟨n5490, n5491, h5492, h5493, h5494, e5495, e5496, rfl⟩
  · refine m_if_eq F e_X10_worth_11 (fun _ => ?_) (fun q => absurd (by decide) q)
    refine m_ldc2 F kc_X10_245 e_X10_worth_41 ?_
    exact m_lret F hQ e_X10_worth_44 (⟨h5488, _, rfl⟩)
  · subst e5495
    subst e5496
    refine m_if_eq F e_X10_worth_11 (fun q => absurd q (by decide)) (fun _ => ?_)
    have hl5497 := (hob).2 n5490 (by omega)
    have hl5498 := (hob).2 n5490 (by omega)
    have hl5499 := (hob).2 n5490 (by omega)
    refine m_iload_n F rfl e_X10_worth_14 ?_
    refine m_if_lt F e_X10_worth_15 (fun q15 => ?_) (fun q15 => ?_)
    · refine m_ldc2 F kc_X10_245 e_X10_worth_41 ?_
      exact m_lret F hQ e_X10_worth_44 (⟨h5488, _, rfl⟩)
    · obtain ⟨n5500, hn5500, rfl⟩ := nI_nn (x := x903) (fun e => q15 (Int32.lt_of_lt_of_le e (by decide)))
      have c15 : n5500 ≥ 0 := by have hh := mt (nI_ltI (a := n5500) (b := 0) (by omega) (by omega)).mpr q15; omega
      refine m_iload_n F rfl e_X10_worth_18 ?_
      refine m_i2l F e_X10_worth_19 ?_
      refine Wm.toplE (w := lN n5500) (nI_l (by omega)) ?_
      refine m_ldc2 F kc_X10_239 e_X10_worth_20 ?_
      refine m_lcmp F e_X10_worth_23 ?_
      refine m_if_gt F e_X10_worth_24 (fun q24 => ?_) (fun q24 => ?_)
      · have c24 : n5500 > 1000000 := (lN_lt (a := 1000000) (b := n5500) (by omega) (by omega)).mp ((lg_cmp_gt _ _).mp q24)
        refine m_ldc2 F kc_X10_245 e_X10_worth_41 ?_
        exact m_lret F hQ e_X10_worth_44 (⟨h5488, _, rfl⟩)
      · have c24 : n5500 ≤ 1000000 := by have hh := mt (fun h9 => (lg_cmp_gt (lN n5500) (lN 1000000)).mpr ((lN_lt (a := 1000000) (b := n5500) (by omega) (by omega)).mpr h9)) q24; omega
        refine m_aload_n F rfl e_X10_worth_27 ?_
        refine m_iload_n F rfl e_X10_worth_28 ?_
        refine m_iload_n F rfl e_X10_worth_29 ?_
        refine m_iload_n F rfl e_X10_worth_30 ?_
        refine m_i2l F e_X10_worth_31 ?_
        refine Wm.toplE (w := lN n5500) (nI_l (by omega)) ?_
        refine m_ldc2 F kc_X10_245 e_X10_worth_32 ?_
        refine r_callV F e_X10_worth_35 (q_X10_worthBy (x_l X) V c T Z u h P L _ _ n5490 n5491 n5500 (-1) h5488.1 (hob) hP (by omega) (by omega) (by omega) (by first | omega | assumption | decide)) cb_X10_worthBy ml_X10_247 im_X10_worthBy se_X10_worthBy h5488 rfl rfl (rest := []) rfl (Nat.le_of_ble_eq_true rfl) ⟨Nat.le_of_ble_eq_true rfl, Nat.le_of_ble_eq_true rfl⟩ ⟨Nat.le_of_ble_eq_true rfl, Nat.le_of_ble_eq_true rfl⟩ (fun r σ5501 hp => ?_)
        obtain ⟨h5502, x5504, rfl⟩ := hp
        have h5503 := HS.trans h5488 h5502 (by decide)
        refine m_goto F e_X10_worth_38 ?_
        exact m_lret F hQ e_X10_worth_44 (⟨h5503, _, rfl⟩)
set_option maxRecDepth 20000 in
theorem q_X10_entry_ (l : Launch) (V : VX) (c T Z u h : Nat) (P : NP) (L : Nat → LQ) (N : Nat) (σ : Mem) (x901 : Int32) (x902 : Int32) (h0 : HR V c ⟨T, Z, u, h, P, L⟩ σ) (hob : OKB L) (hP : OKP P)  : Ct l V yX10_entry_ cX10_entry_ 3 (some .long) 0 0 0 N σ [.ref c, .int x901, .int x902] (fun r τ => HS V c (⟨T, Z, u, h, P, L⟩ : RG) [0, 2, 3, 4, 5, 6, 7, 8, 9, 10, 11, 12, 13, 14, 15, 16, 17, 18, 19, 20, 21, 22, 23] σ τ ∧ ∃ x : Int64, r = some (.long x)) := by
  refine Ct.of (by decide) (Nat.le_of_ble_eq_true rfl) [(0, .ref c), (1, .int x901), (2, .int x902)] rfl (fun X hX F hQ => ?_)
  have hPP := hP
  unfold OKP at hPP
  have h1 : HS V c ⟨T, Z, u, h, P, L⟩ [0, 2, 3, 4, 5, 6, 7, 8, 9, 10, 11, 12, 13, 14, 15, 16, 17, 18, 19, 20, 21, 22, 23] σ σ := HS.start h0
  refine m_aload_n F rfl e_X10_entry__0 ?_
  refine m_iconst F (v := 0) (by decide) e_X10_entry__1 ?_
  refine r_put F (g' := (⟨T, Z, u, h, P, L⟩ : RG)) e_X10_entry__2 fp_X10_91 h1 (by decide) ⟨_, rfl⟩ (fun _ _ _ _ q => q) (fun _ _ _ q => q) rfl rfl (by decide) (fun σ5505 h5506 g5507 g5508 f5509 => ?_)
  refine m_iload_n F rfl e_X10_entry__5 ?_
  refine m_if_lt F e_X10_entry__6 (fun q6 => ?_) (fun q6 => ?_)
  · refine m_ldc2 F kc_X10_299 e_X10_entry__23 ?_
    exact m_lret F hQ e_X10_entry__26 (⟨h5506, _, rfl⟩)
  · obtain ⟨n5510, hn5510, rfl⟩ := nI_nn (x := x901) (fun e => q6 (Int32.lt_of_lt_of_le e (by decide)))
    have c6 : n5510 ≥ 0 := by have hh := mt (nI_ltI (a := n5510) (b := 0) (by omega) (by omega)).mpr q6; omega
    refine m_iload_n F rfl e_X10_entry__9 ?_
    refine m_i2l F e_X10_entry__10 ?_
    refine Wm.toplE (w := lN n5510) (nI_l (by omega)) ?_
    refine m_aload_n F rfl e_X10_entry__11 ?_
    refine r_get F e_X10_entry__12 fl_X10_59 h5506 rfl (fun v hv f5511 => ?_)
    obtain rfl : v = .ref (c + 16) := hv
    refine m_sipush F (v := 751) (by decide) e_X10_entry__15 ?_
    refine r_sld F (j := 751) e_X10_entry__18 h5506 (by decide) (by unfold vp_in; decide) (fun x5512 h5513 f5514 => ?_)
    obtain ⟨n5515, hn5515, rfl⟩ := EJ_m.mp h5513
    refine m_lcmp F e_X10_entry__19 ?_
    refine m_if_lt F e_X10_entry__20 (fun q20 => ?_) (fun q20 => ?_)
    · have c20 : n5510 < n5515 := (lN_lt (a := n5510) (b := n5515) (by omega) (by omega)).mp ((lg_cmp_lt _ _).mp q20)
      refine m_iload_n F rfl e_X10_entry__27 ?_
      refine m_if_lt F e_X10_entry__28 (fun q28 => ?_) (fun q28 => ?_)
      · refine m_iload_n F rfl e_X10_entry__52 ?_
        refine m_bipush F (v := 10) (by decide) e_X10_entry__53 ?_
        refine m_icmp_lt F e_X10_entry__55 (fun q55 => ?_) (fun q55 => ?_)
        · refine m_ldc2 F kc_X10_299 e_X10_entry__85 ?_
          exact m_lret F hQ e_X10_entry__88 (⟨h5506, _, rfl⟩)
        · obtain ⟨n5516, hn5516, rfl⟩ := nI_nn (x := x902) (fun e => q55 (Int32.lt_of_lt_of_le e (by decide)))
          have c55 : n5516 ≥ 10 := by have hh := mt (nI_ltI (a := n5516) (b := 10) (by omega) (by omega)).mpr q55; omega
          refine m_iload_n F rfl e_X10_entry__58 ?_
          refine m_bipush F (v := 16) (by decide) e_X10_entry__59 ?_
          refine m_icmp_ge F e_X10_entry__61 (fun q61 => ?_) (fun q61 => ?_)
          · have c61 : n5516 ≥ 16 := (nI_leI (a := 16) (b := n5516) (by omega) (by omega)).mp q61
            refine m_ldc2 F kc_X10_299 e_X10_entry__85 ?_
            exact m_lret F hQ e_X10_entry__88 (⟨h5506, _, rfl⟩)
          · have c61 : n5516 < 16 := by have hh := mt (nI_leI (a := 16) (b := n5516) (by omega) (by omega)).mpr q61; omega
            refine m_aload_n F rfl e_X10_entry__64 ?_
            refine r_getC F e_X10_entry__65 fl_X10_59 h5506 (f5511) ?_
            refine m_sipush F (v := 753) (by decide) e_X10_entry__68 ?_
            refine m_bipush F (v := 9) (by decide) e_X10_entry__71 ?_
            refine m_iload_n F rfl e_X10_entry__73 ?_
            refine m_imul F e_X10_entry__74 ?_
            refine Wm.topE (w := nI (9 * n5510)) (pk_mul 9 n5510) ?_
            refine m_iadd F e_X10_entry__75 ?_
            refine Wm.topE (w := nI (753 + 9 * n5510)) (nI_add 753 (9 * n5510)) ?_
            refine m_iload_n F rfl e_X10_entry__76 ?_
            refine m_iadd F e_X10_entry__77 ?_
            refine Wm.topE (w := nI ((753 + 9 * n5510) + n5516)) (nI_add (753 + 9 * n5510) n5516) ?_
            refine m_bipush F (v := 7) (by decide) e_X10_entry__78 ?_
            refine m_isub F e_X10_entry__80 ?_
            refine Wm.topE (w := nI (((753 + 9 * n5510) + n5516) - 7)) (pk_sub (a := (753 + 9 * n5510) + n5516) (b := 7) (by omega)) ?_
            refine r_sld F (j := ((753 + 9 * n5510) + n5516) - 7) e_X10_entry__81 h5506 (nI_clamp (by omega)) (vp_in_nI (by omega) (by decide)) (fun x5517 h5518 f5519 => ?_)
            refine m_goto F e_X10_entry__82 ?_
            exact m_lret F hQ e_X10_entry__88 (⟨h5506, _, rfl⟩)
      · obtain ⟨n5520, hn5520, rfl⟩ := nI_nn (x := x902) (fun e => q28 (Int32.lt_of_lt_of_le e (by decide)))
        have c28 : n5520 ≥ 0 := by have hh := mt (nI_ltI (a := n5520) (b := 0) (by omega) (by omega)).mpr q28; omega
        refine m_iload_n F rfl e_X10_entry__31 ?_
        refine m_iconst F (v := 3) (by decide) e_X10_entry__32 ?_
        refine m_icmp_ge F e_X10_entry__33 (fun q33 => ?_) (fun q33 => ?_)
        · have c33 : n5520 ≥ 3 := (nI_leI (a := 3) (b := n5520) (by omega) (by omega)).mp q33
          refine m_iload_n F rfl e_X10_entry__52 ?_
          refine m_bipush F (v := 10) (by decide) e_X10_entry__53 ?_
          refine m_icmp_lt F e_X10_entry__55 (fun q55 => ?_) (fun q55 => ?_)
          · have c55 : n5520 < 10 := (nI_ltI (a := n5520) (b := 10) (by omega) (by omega)).mp q55
            refine m_ldc2 F kc_X10_299 e_X10_entry__85 ?_
            exact m_lret F hQ e_X10_entry__88 (⟨h5506, _, rfl⟩)
          · have c55 : n5520 ≥ 10 := by have hh := mt (nI_ltI (a := n5520) (b := 10) (by omega) (by omega)).mpr q55; omega
            refine m_iload_n F rfl e_X10_entry__58 ?_
            refine m_bipush F (v := 16) (by decide) e_X10_entry__59 ?_
            refine m_icmp_ge F e_X10_entry__61 (fun q61 => ?_) (fun q61 => ?_)
            · have c61 : n5520 ≥ 16 := (nI_leI (a := 16) (b := n5520) (by omega) (by omega)).mp q61
              refine m_ldc2 F kc_X10_299 e_X10_entry__85 ?_
              exact m_lret F hQ e_X10_entry__88 (⟨h5506, _, rfl⟩)
            · have c61 : n5520 < 16 := by have hh := mt (nI_leI (a := 16) (b := n5520) (by omega) (by omega)).mpr q61; omega
              refine m_aload_n F rfl e_X10_entry__64 ?_
              refine r_getC F e_X10_entry__65 fl_X10_59 h5506 (f5511) ?_
              refine m_sipush F (v := 753) (by decide) e_X10_entry__68 ?_
              refine m_bipush F (v := 9) (by decide) e_X10_entry__71 ?_
              refine m_iload_n F rfl e_X10_entry__73 ?_
              refine m_imul F e_X10_entry__74 ?_
              refine Wm.topE (w := nI (9 * n5510)) (pk_mul 9 n5510) ?_
              refine m_iadd F e_X10_entry__75 ?_
              refine Wm.topE (w := nI (753 + 9 * n5510)) (nI_add 753 (9 * n5510)) ?_
              refine m_iload_n F rfl e_X10_entry__76 ?_
              refine m_iadd F e_X10_entry__77 ?_
              refine Wm.topE (w := nI ((753 + 9 * n5510) + n5520)) (nI_add (753 + 9 * n5510) n5520) ?_
              refine m_bipush F (v := 7) (by decide) e_X10_entry__78 ?_
              refine m_isub F e_X10_entry__80 ?_
              refine Wm.topE (w := nI (((753 + 9 * n5510) + n5520) - 7)) (pk_sub (a := (753 + 9 * n5510) + n5520) (b := 7) (by omega)) ?_
              refine r_sld F (j := ((753 + 9 * n5510) + n5520) - 7) e_X10_entry__81 h5506 (nI_clamp (by omega)) (vp_in_nI (by omega) (by decide)) (fun x5521 h5522 f5523 => ?_)
              refine m_goto F e_X10_entry__82 ?_
              exact m_lret F hQ e_X10_entry__88 (⟨h5506, _, rfl⟩)
        · have c33 : n5520 < 3 := by have hh := mt (nI_leI (a := 3) (b := n5520) (by omega) (by omega)).mpr q33; omega
          refine m_aload_n F rfl e_X10_entry__36 ?_
          refine r_getC F e_X10_entry__37 fl_X10_59 h5506 (f5511) ?_
          refine m_sipush F (v := 753) (by decide) e_X10_entry__40 ?_
          refine m_bipush F (v := 9) (by decide) e_X10_entry__43 ?_
          refine m_iload_n F rfl e_X10_entry__45 ?_
          refine m_imul F e_X10_entry__46 ?_
          refine Wm.topE (w := nI (9 * n5510)) (pk_mul 9 n5510) ?_
          refine m_iadd F e_X10_entry__47 ?_
          refine Wm.topE (w := nI (753 + 9 * n5510)) (nI_add 753 (9 * n5510)) ?_
          refine m_iload_n F rfl e_X10_entry__48 ?_
          refine m_iadd F e_X10_entry__49 ?_
          refine Wm.topE (w := nI ((753 + 9 * n5510) + n5520)) (nI_add (753 + 9 * n5510) n5520) ?_
          refine r_sld F (j := (753 + 9 * n5510) + n5520) e_X10_entry__50 h5506 (nI_clamp (by omega)) (vp_in_nI (by omega) (by decide)) (fun x5524 h5525 f5526 => ?_)
          exact m_lret F hQ e_X10_entry__51 (⟨h5506, _, rfl⟩)
    · have c20 : n5510 ≥ n5515 := by have hh := mt (fun h9 => (lg_cmp_lt (lN n5510) (lN n5515)).mpr ((lN_lt (a := n5510) (b := n5515) (by omega) (by omega)).mpr h9)) q20; omega
      refine m_ldc2 F kc_X10_299 e_X10_entry__23 ?_
      exact m_lret F hQ e_X10_entry__26 (⟨h5506, _, rfl⟩)
set_option maxRecDepth 20000 in
theorem lq_X10_sum_32 {V : VX} {X : MX} {N : Nat} {σ : Mem} {c T Z u h : Nat} {P : NP} {L : Nat → LQ}   (F : Fx V X yX10_sum cX10_sum 6 (some .long) (rmd 0 0 0)) (hQ : Rt V X 0 0 N (fun r τ => HS V c (⟨T, Z, u, h, P, L⟩ : RG) [0, 2, 3, 4, 5, 6, 7, 8, 9, 10, 11, 12, 13, 14, 15, 16, 17, 18, 19, 20, 21, 22, 23] σ τ ∧ ∃ x : Int64, r = some (.long x))) (hob : OKB L) (hP : OKP P)   : ∀ (fuel : Nat) (a : Nat) (b : Nat) (w1 : Int64) (i : Nat) (τ : Mem), HS V c (⟨T, Z, u, h, P, L⟩ : RG) [0, 2, 3, 4, 5, 6, 7, 8, 9, 10, 11, 12, 13, 14, 15, 16, 17, 18, 19, 20, 21, 22, 23] σ τ → a ≤ 5 ∧ b ≤ 5 ∧ i ≤ 40 → 40 - i < fuel → Wm V X 6 N τ 0 0 32 [(0, .ref c), (1, .int (nI a)), (2, .int (nI b)), (3, .long w1), (5, .int (nI i))] [] := by
  intro fuel
  induction fuel with
  | zero => intros; rename_i hm; exact absurd hm (Nat.not_lt_zero _)
  | succ fuel ih =>
    intro a b w1 i τ h1 hi hm
    have hPP := hP
    unfold OKP at hPP
    refine m_iload F rfl e_X10_sum_32 ?_
    refine m_i2l F e_X10_sum_34 ?_
    refine Wm.toplE (w := lN i) (nI_l (by omega)) ?_
    refine m_aload_n F rfl e_X10_sum_35 ?_
    refine r_get F e_X10_sum_36 fl_X10_59 h1 rfl (fun v hv f5527 => ?_)
    obtain rfl : v = .ref (c + 16) := hv
    refine m_sipush F (v := 751) (by decide) e_X10_sum_39 ?_
    refine r_sld F (j := 751) e_X10_sum_42 h1 (by decide) (by unfold vp_in; decide) (fun x5528 h5529 f5530 => ?_)
    obtain ⟨n5531, hn5531, rfl⟩ := EJ_m.mp h5529
    refine m_lcmp F e_X10_sum_43 ?_
    refine m_if_ge F e_X10_sum_44 (fun q44 => ?_) (fun q44 => ?_)
    · have c44 : i ≥ n5531 := (lN_le (a := n5531) (b := i) (by omega) (by omega)).mp ((lg_cmp_ge _ _).mp q44)
      refine m_lload_n F rfl e_X10_sum_94 ?_
      exact m_lret F hQ e_X10_sum_95 (⟨h1, _, rfl⟩)
    · have c44 : i < n5531 := by have hh := mt (fun h9 => (lg_cmp_ge (lN i) (lN n5531)).mpr ((lN_le (a := n5531) (b := i) (by omega) (by omega)).mpr h9)) q44; omega
      refine m_aload_n F rfl e_X10_sum_47 ?_
      refine r_getC F e_X10_sum_48 fl_X10_59 h1 (f5527) ?_
      refine m_sipush F (v := 753) (by decide) e_X10_sum_51 ?_
      refine m_bipush F (v := 9) (by decide) e_X10_sum_54 ?_
      refine m_iload F rfl e_X10_sum_56 ?_
      refine m_imul F e_X10_sum_58 ?_
      refine Wm.topE (w := nI (9 * i)) (pk_mul 9 i) ?_
      refine m_iadd F e_X10_sum_59 ?_
      refine Wm.topE (w := nI (753 + 9 * i)) (nI_add 753 (9 * i)) ?_
      refine r_sld F (j := 753 + 9 * i) e_X10_sum_60 h1 (nI_clamp (by omega)) (vp_in_nI (by omega) (by decide)) (fun x5532 h5533 f5534 => ?_)
      refine m_iload_n F rfl e_X10_sum_61 ?_
      refine m_i2l F e_X10_sum_62 ?_
      refine Wm.toplE (w := lN b) (nI_l (by omega)) ?_
      refine m_lcmp F e_X10_sum_63 ?_
      refine Wm.top (fun x5535 _ => ?_)
      refine m_if_ne F e_X10_sum_64 (fun q64 => ?_) (fun q64 => ?_)
      · refine m_iinc F (v := nI (i + 1)) (lv' := [(5, .int (nI (i + 1))), (0, .ref c), (1, .int (nI a)), (2, .int (nI b)), (3, .long w1)]) e_X10_sum_88 rfl (nI_add i 1) (by decide) rfl ?_
        refine m_goto F e_X10_sum_91 ?_
        refine Wm.lvsub (lv' := [(0, .ref c), (1, .int (nI a)), (2, .int (nI b)), (3, .long w1), (5, .int (nI (i + 1)))]) ?_ [1, 2, 3, 4, 0] rfl
        exact ih a b w1 (i + 1) _ h1 (by omega) (by omega)
      · subst q64
        refine m_lload_n F rfl e_X10_sum_67 ?_
        refine m_aload_n F rfl e_X10_sum_68 ?_
        refine r_getC F e_X10_sum_69 fl_X10_59 h1 (f5527) ?_
        refine m_sipush F (v := 753) (by decide) e_X10_sum_72 ?_
        refine m_bipush F (v := 9) (by decide) e_X10_sum_75 ?_
        refine m_iload F rfl e_X10_sum_77 ?_
        refine m_imul F e_X10_sum_79 ?_
        refine Wm.topE (w := nI (9 * i)) (pk_mul 9 i) ?_
        refine m_iadd F e_X10_sum_80 ?_
        refine Wm.topE (w := nI (753 + 9 * i)) (nI_add 753 (9 * i)) ?_
        refine m_iconst F (v := 3) (by decide) e_X10_sum_81 ?_
        refine m_iadd F e_X10_sum_82 ?_
        refine Wm.topE (w := nI (753 + 9 * i + 3)) (nI_add (753 + 9 * i) 3) ?_
        refine m_iload_n F rfl e_X10_sum_83 ?_
        refine m_iadd F e_X10_sum_84 ?_
        refine Wm.topE (w := nI ((753 + 9 * i + 3) + a)) (nI_add (753 + 9 * i + 3) a) ?_
        refine r_sld F (j := (753 + 9 * i + 3) + a) e_X10_sum_85 h1 (nI_clamp (by omega)) (vp_in_nI (by omega) (by decide)) (fun x5536 h5537 f5538 => ?_)
        refine m_ladd F e_X10_sum_86 ?_
        refine Wm.topl (fun x5539 _ => ?_)
        refine m_lstore_n F (lv' := [(3, .long x5539), (0, .ref c), (1, .int (nI a)), (2, .int (nI b)), (5, .int (nI i))]) e_X10_sum_87 (by decide) rfl ?_
        refine m_iinc F (v := nI (i + 1)) (lv' := [(5, .int (nI (i + 1))), (3, .long x5539), (0, .ref c), (1, .int (nI a)), (2, .int (nI b))]) e_X10_sum_88 rfl (nI_add i 1) (by decide) rfl ?_
        refine m_goto F e_X10_sum_91 ?_
        refine Wm.lvsub (lv' := [(0, .ref c), (1, .int (nI a)), (2, .int (nI b)), (3, .long x5539), (5, .int (nI (i + 1)))]) ?_ [2, 3, 4, 1, 0] rfl
        exact ih a b x5539 (i + 1) _ h1 (by omega) (by omega)
set_option maxRecDepth 20000 in
theorem q_X10_sum (l : Launch) (V : VX) (c T Z u h : Nat) (P : NP) (L : Nat → LQ) (N : Nat) (σ : Mem) (x901 : Int32) (x902 : Int32) (h0 : HR V c ⟨T, Z, u, h, P, L⟩ σ) (hob : OKB L) (hP : OKP P)  : Ct l V yX10_sum cX10_sum 6 (some .long) 0 0 0 N σ [.ref c, .int x901, .int x902] (fun r τ => HS V c (⟨T, Z, u, h, P, L⟩ : RG) [0, 2, 3, 4, 5, 6, 7, 8, 9, 10, 11, 12, 13, 14, 15, 16, 17, 18, 19, 20, 21, 22, 23] σ τ ∧ ∃ x : Int64, r = some (.long x)) := by
  refine Ct.of (by decide) (Nat.le_of_ble_eq_true rfl) [(0, .ref c), (1, .int x901), (2, .int x902)] rfl (fun X hX F hQ => ?_)
  have hPP := hP
  unfold OKP at hPP
  have h1 : HS V c ⟨T, Z, u, h, P, L⟩ [0, 2, 3, 4, 5, 6, 7, 8, 9, 10, 11, 12, 13, 14, 15, 16, 17, 18, 19, 20, 21, 22, 23] σ σ := HS.start h0
  refine m_aload_n F rfl e_X10_sum_0 ?_
  refine m_iconst F (v := 0) (by decide) e_X10_sum_1 ?_
  refine r_put F (g' := (⟨T, Z, u, h, P, L⟩ : RG)) e_X10_sum_2 fp_X10_91 h1 (by decide) ⟨_, rfl⟩ (fun _ _ _ _ q => q) (fun _ _ _ q => q) rfl rfl (by decide) (fun σ5540 h5541 g5542 g5543 f5544 => ?_)
  refine m_iload_n F rfl e_X10_sum_5 ?_
  refine m_if_lt F e_X10_sum_6 (fun q6 => ?_) (fun q6 => ?_)
  · refine m_ldc2 F kc_X10_299 e_X10_sum_23 ?_
    exact m_lret F hQ e_X10_sum_26 (⟨h5541, _, rfl⟩)
  · obtain ⟨n5545, hn5545, rfl⟩ := nI_nn (x := x901) (fun e => q6 (Int32.lt_of_lt_of_le e (by decide)))
    have c6 : n5545 ≥ 0 := by have hh := mt (nI_ltI (a := n5545) (b := 0) (by omega) (by omega)).mpr q6; omega
    refine m_iload_n F rfl e_X10_sum_9 ?_
    refine m_iconst F (v := 5) (by decide) e_X10_sum_10 ?_
    refine m_icmp_gt F e_X10_sum_11 (fun q11 => ?_) (fun q11 => ?_)
    · have c11 : n5545 > 5 := (nI_ltI (a := 5) (b := n5545) (by omega) (by omega)).mp q11
      refine m_ldc2 F kc_X10_299 e_X10_sum_23 ?_
      exact m_lret F hQ e_X10_sum_26 (⟨h5541, _, rfl⟩)
    · have c11 : n5545 ≤ 5 := by have hh := mt (nI_ltI (a := 5) (b := n5545) (by omega) (by omega)).mpr q11; omega
      refine m_iload_n F rfl e_X10_sum_14 ?_
      refine m_if_lt F e_X10_sum_15 (fun q15 => ?_) (fun q15 => ?_)
      · refine m_ldc2 F kc_X10_299 e_X10_sum_23 ?_
        exact m_lret F hQ e_X10_sum_26 (⟨h5541, _, rfl⟩)
      · obtain ⟨n5546, hn5546, rfl⟩ := nI_nn (x := x902) (fun e => q15 (Int32.lt_of_lt_of_le e (by decide)))
        have c15 : n5546 ≥ 0 := by have hh := mt (nI_ltI (a := n5546) (b := 0) (by omega) (by omega)).mpr q15; omega
        refine m_iload_n F rfl e_X10_sum_18 ?_
        refine m_iconst F (v := 5) (by decide) e_X10_sum_19 ?_
        refine m_icmp_le F e_X10_sum_20 (fun q20 => ?_) (fun q20 => ?_)
        · have c20 : n5546 ≤ 5 := (nI_leI (a := n5546) (b := 5) (by omega) (by omega)).mp q20
          refine m_lconst F (v := 0) (by decide) e_X10_sum_27 ?_
          refine m_lstore_n F (lv' := [(3, .long 0), (0, .ref c), (1, .int (nI n5545)), (2, .int (nI n5546))]) e_X10_sum_28 (by decide) rfl ?_
          refine m_iconst F (v := 0) (by decide) e_X10_sum_29 ?_
          refine m_istore F (lv' := [(5, .int 0), (3, .long 0), (0, .ref c), (1, .int (nI n5545)), (2, .int (nI n5546))]) e_X10_sum_30 (by decide) rfl ?_
          refine Wm.lvsub (lv' := [(0, .ref c), (1, .int (nI n5545)), (2, .int (nI n5546)), (3, .long 0), (5, .int 0)]) ?_ [2, 3, 4, 1, 0] rfl
          exact lq_X10_sum_32 F hQ hob hP  (40 - 0 + 1) n5545 n5546 0 0 _ h5541 (by omega) (Nat.lt_succ_self _)
        · have c20 : n5546 > 5 := by have hh := mt (nI_leI (a := n5546) (b := 5) (by omega) (by omega)).mpr q20; omega
          refine m_ldc2 F kc_X10_299 e_X10_sum_23 ?_
          exact m_lret F hQ e_X10_sum_26 (⟨h5541, _, rfl⟩)
set_option maxRecDepth 20000 in
theorem lq_X10_latest_26 {V : VX} {X : MX} {N : Nat} {σ : Mem} {c T Z u h : Nat} {P : NP} {L : Nat → LQ}   (F : Fx V X yX10_latest cX10_latest 4 (some .int) (rmd 2 0 0)) (hQ : Rt V X 0 0 N (fun r τ => HS V c (⟨T, Z, u, h, P, L⟩ : RG) [0, 2, 3, 4, 5, 6, 7, 8, 9, 10, 11, 12, 13, 14, 15, 16, 17, 18, 19, 20, 21, 22, 23] σ τ ∧ ∃ x : Int32, r = some (.int x))) (hob : OKB L) (hP : OKP P)   : ∀ (fuel : Nat) (a : Nat) (b : Nat) (i : Nat) (τ : Mem), HS V c (⟨T, Z, u, h, P, L⟩ : RG) [0, 2, 3, 4, 5, 6, 7, 8, 9, 10, 11, 12, 13, 14, 15, 16, 17, 18, 19, 20, 21, 22, 23] σ τ → a ≤ 3 ∧ b ≤ 5 ∧ i ≤ 40 → 40 - i < fuel → Wm V X 4 N τ 0 0 26 [(0, .ref c), (1, .int (nI a)), (2, .int (nI b)), (3, .int (nI i))] [] := by
  intro fuel
  induction fuel with
  | zero => intros; rename_i hm; exact absurd hm (Nat.not_lt_zero _)
  | succ fuel ih =>
    intro a b i τ h1 hi hm
    have hPP := hP
    unfold OKP at hPP
    refine m_iload_n F rfl e_X10_latest_26 ?_
    refine m_i2l F e_X10_latest_27 ?_
    refine Wm.toplE (w := lN i) (nI_l (by omega)) ?_
    refine m_aload_n F rfl e_X10_latest_28 ?_
    refine r_get F e_X10_latest_29 fl_X10_59 h1 rfl (fun v hv f5547 => ?_)
    obtain rfl : v = .ref (c + 16) := hv
    refine m_sipush F (v := 751) (by decide) e_X10_latest_32 ?_
    refine r_sld F (j := 751) e_X10_latest_35 h1 (by decide) (by unfold vp_in; decide) (fun x5548 h5549 f5550 => ?_)
    obtain ⟨n5551, hn5551, rfl⟩ := EJ_m.mp h5549
    refine m_lcmp F e_X10_latest_36 ?_
    refine m_if_ge F e_X10_latest_37 (fun q37 => ?_) (fun q37 => ?_)
    · have c37 : i ≥ n5551 := (lN_le (a := n5551) (b := i) (by omega) (by omega)).mp ((lg_cmp_ge _ _).mp q37)
      refine m_bipush F (v := (-2)) (by decide) e_X10_latest_103 ?_
      exact m_iret F hQ e_X10_latest_105 (⟨h1, _, rfl⟩)
    · have c37 : i < n5551 := by have hh := mt (fun h9 => (lg_cmp_ge (lN i) (lN n5551)).mpr ((lN_le (a := n5551) (b := i) (by omega) (by omega)).mpr h9)) q37; omega
      refine m_aload_n F rfl e_X10_latest_40 ?_
      refine r_getC F e_X10_latest_41 fl_X10_59 h1 (f5547) ?_
      refine m_sipush F (v := 753) (by decide) e_X10_latest_44 ?_
      refine m_bipush F (v := 9) (by decide) e_X10_latest_47 ?_
      refine m_iload_n F rfl e_X10_latest_49 ?_
      refine m_imul F e_X10_latest_50 ?_
      refine Wm.topE (w := nI (9 * i)) (pk_mul 9 i) ?_
      refine m_iadd F e_X10_latest_51 ?_
      refine Wm.topE (w := nI (753 + 9 * i)) (nI_add 753 (9 * i)) ?_
      refine r_sld F (j := 753 + 9 * i) e_X10_latest_52 h1 (nI_clamp (by omega)) (vp_in_nI (by omega) (by decide)) (fun x5552 h5553 f5554 => ?_)
      refine m_iload_n F rfl e_X10_latest_53 ?_
      refine m_i2l F e_X10_latest_54 ?_
      refine Wm.toplE (w := lN b) (nI_l (by omega)) ?_
      refine m_lcmp F e_X10_latest_55 ?_
      refine Wm.top (fun x5555 _ => ?_)
      refine m_if_ne F e_X10_latest_56 (fun q56 => ?_) (fun q56 => ?_)
      · refine m_iinc F (v := nI (i + 1)) (lv' := [(3, .int (nI (i + 1))), (0, .ref c), (1, .int (nI a)), (2, .int (nI b))]) e_X10_latest_97 rfl (nI_add i 1) (by decide) rfl ?_
        refine m_goto F e_X10_latest_100 ?_
        refine Wm.lvsub (lv' := [(0, .ref c), (1, .int (nI a)), (2, .int (nI b)), (3, .int (nI (i + 1)))]) ?_ [1, 2, 3, 0] rfl
        exact ih a b (i + 1) _ h1 (by omega) (by omega)
      · subst q56
        refine m_aload_n F rfl e_X10_latest_59 ?_
        refine r_getC F e_X10_latest_60 fl_X10_59 h1 (f5547) ?_
        refine m_sipush F (v := 753) (by decide) e_X10_latest_63 ?_
        refine m_bipush F (v := 9) (by decide) e_X10_latest_66 ?_
        refine m_iload_n F rfl e_X10_latest_68 ?_
        refine m_imul F e_X10_latest_69 ?_
        refine Wm.topE (w := nI (9 * i)) (pk_mul 9 i) ?_
        refine m_iadd F e_X10_latest_70 ?_
        refine Wm.topE (w := nI (753 + 9 * i)) (nI_add 753 (9 * i)) ?_
        refine m_iconst F (v := 2) (by decide) e_X10_latest_71 ?_
        refine m_iadd F e_X10_latest_72 ?_
        refine Wm.topE (w := nI (753 + 9 * i + 2)) (nI_add (753 + 9 * i) 2) ?_
        refine r_sld F (j := 753 + 9 * i + 2) e_X10_latest_73 h1 (nI_clamp (by omega)) (vp_in_nI (by omega) (by decide)) (fun x5556 h5557 f5558 => ?_)
        refine m_iload_n F rfl e_X10_latest_74 ?_
        refine m_i2l F e_X10_latest_75 ?_
        refine Wm.toplE (w := lN a) (nI_l (by omega)) ?_
        refine m_lcmp F e_X10_latest_76 ?_
        refine Wm.top (fun x5559 _ => ?_)
        refine m_if_ne F e_X10_latest_77 (fun q77 => ?_) (fun q77 => ?_)
        · refine m_iinc F (v := nI (i + 1)) (lv' := [(3, .int (nI (i + 1))), (0, .ref c), (1, .int (nI a)), (2, .int (nI b))]) e_X10_latest_97 rfl (nI_add i 1) (by decide) rfl ?_
          refine m_goto F e_X10_latest_100 ?_
          refine Wm.lvsub (lv' := [(0, .ref c), (1, .int (nI a)), (2, .int (nI b)), (3, .int (nI (i + 1)))]) ?_ [1, 2, 3, 0] rfl
          exact ih a b (i + 1) _ h1 (by omega) (by omega)
        · subst q77
          refine m_aload_n F rfl e_X10_latest_80 ?_
          refine r_getC F e_X10_latest_81 fl_X10_59 h1 (f5547) ?_
          refine m_sipush F (v := 753) (by decide) e_X10_latest_84 ?_
          refine m_bipush F (v := 9) (by decide) e_X10_latest_87 ?_
          refine m_iload_n F rfl e_X10_latest_89 ?_
          refine m_imul F e_X10_latest_90 ?_
          refine Wm.topE (w := nI (9 * i)) (pk_mul 9 i) ?_
          refine m_iadd F e_X10_latest_91 ?_
          refine Wm.topE (w := nI (753 + 9 * i)) (nI_add 753 (9 * i)) ?_
          refine m_iconst F (v := 1) (by decide) e_X10_latest_92 ?_
          refine m_iadd F e_X10_latest_93 ?_
          refine Wm.topE (w := nI (753 + 9 * i + 1)) (nI_add (753 + 9 * i) 1) ?_
          refine r_sld F (j := 753 + 9 * i + 1) e_X10_latest_94 h1 (nI_clamp (by omega)) (vp_in_nI (by omega) (by decide)) (fun x5560 h5561 f5562 => ?_)
          refine m_l2i F e_X10_latest_95 ?_
          refine Wm.top (fun x5563 _ => ?_)
          exact m_iret F hQ e_X10_latest_96 (⟨h1, _, rfl⟩)
set_option maxRecDepth 20000 in
theorem q_X10_latest (l : Launch) (V : VX) (c T Z u h : Nat) (P : NP) (L : Nat → LQ) (N : Nat) (σ : Mem) (x901 : Int32) (x902 : Int32) (h0 : HR V c ⟨T, Z, u, h, P, L⟩ σ) (hob : OKB L) (hP : OKP P)  : Ct l V yX10_latest cX10_latest 4 (some .int) 2 0 0 N σ [.ref c, .int x901, .int x902] (fun r τ => HS V c (⟨T, Z, u, h, P, L⟩ : RG) [0, 2, 3, 4, 5, 6, 7, 8, 9, 10, 11, 12, 13, 14, 15, 16, 17, 18, 19, 20, 21, 22, 23] σ τ ∧ ∃ x : Int32, r = some (.int x)) := by
  refine Ct.of (by decide) (Nat.le_of_ble_eq_true rfl) [(0, .ref c), (1, .int x901), (2, .int x902)] rfl (fun X hX F hQ => ?_)
  have hPP := hP
  unfold OKP at hPP
  have h1 : HS V c ⟨T, Z, u, h, P, L⟩ [0, 2, 3, 4, 5, 6, 7, 8, 9, 10, 11, 12, 13, 14, 15, 16, 17, 18, 19, 20, 21, 22, 23] σ σ := HS.start h0
  refine m_aload_n F rfl e_X10_latest_0 ?_
  refine m_iconst F (v := 0) (by decide) e_X10_latest_1 ?_
  refine r_put F (g' := (⟨T, Z, u, h, P, L⟩ : RG)) e_X10_latest_2 fp_X10_91 h1 (by decide) ⟨_, rfl⟩ (fun _ _ _ _ q => q) (fun _ _ _ q => q) rfl rfl (by decide) (fun σ5564 h5565 g5566 g5567 f5568 => ?_)
  refine m_aload_n F rfl e_X10_latest_5 ?_
  refine m_iload_n F rfl e_X10_latest_6 ?_
  refine r_callV F e_X10_latest_7 (q_X10_isLease (x_l X) V c T Z u h P L _ _ x901 h5565.1 (hob) hP ) cb_X10_isLease ml_X10_292 im_X10_isLease se_X10_isLease h5565 rfl rfl (rest := []) rfl (Nat.le_of_ble_eq_true rfl) ⟨Nat.le_of_ble_eq_true rfl, Nat.le_of_ble_eq_true rfl⟩ ⟨Nat.le_of_ble_eq_true rfl, Nat.le_of_ble_eq_true rfl⟩ (fun r σ5569 hp => ?_)
  obtain ⟨h5570, c5572⟩ := hp
  have h5571 := HS.trans h5565 h5570 (by decide)
  rcases c5572 with rfl | ⟨n5573, h5574, e5575, rfl⟩
  · refine m_if_eq F e_X10_latest_10 (fun _ => ?_) (fun q => absurd (by decide) q)
    refine m_iconst F (v := (-1)) (by decide) e_X10_latest_22 ?_
    exact m_iret F hQ e_X10_latest_23 (⟨h5571, _, rfl⟩)
  · subst e5575
    refine m_if_eq F e_X10_latest_10 (fun q => absurd q (by decide)) (fun _ => ?_)
    refine m_iload_n F rfl e_X10_latest_13 ?_
    refine m_if_lt F e_X10_latest_14 (fun q14 => ?_) (fun q14 => ?_)
    · refine m_iconst F (v := (-1)) (by decide) e_X10_latest_22 ?_
      exact m_iret F hQ e_X10_latest_23 (⟨h5571, _, rfl⟩)
    · obtain ⟨n5576, hn5576, rfl⟩ := nI_nn (x := x902) (fun e => q14 (Int32.lt_of_lt_of_le e (by decide)))
      have c14 : n5576 ≥ 0 := by have hh := mt (nI_ltI (a := n5576) (b := 0) (by omega) (by omega)).mpr q14; omega
      refine m_iload_n F rfl e_X10_latest_17 ?_
      refine m_iconst F (v := 5) (by decide) e_X10_latest_18 ?_
      refine m_icmp_le F e_X10_latest_19 (fun q19 => ?_) (fun q19 => ?_)
      · have c19 : n5576 ≤ 5 := (nI_leI (a := n5576) (b := 5) (by omega) (by omega)).mp q19
        refine m_iconst F (v := 0) (by decide) e_X10_latest_24 ?_
        refine m_istore_n F (lv' := [(3, .int 0), (0, .ref c), (1, .int (nI n5573)), (2, .int (nI n5576))]) e_X10_latest_25 (by decide) rfl ?_
        refine Wm.lvsub (lv' := [(0, .ref c), (1, .int (nI n5573)), (2, .int (nI n5576)), (3, .int 0)]) ?_ [1, 2, 3, 0] rfl
        exact lq_X10_latest_26 F hQ hob hP  (40 - 0 + 1) n5573 n5576 0 _ h5571 (by omega) (Nat.lt_succ_self _)
      · have c19 : n5576 > 5 := by have hh := mt (nI_leI (a := n5576) (b := 5) (by omega) (by omega)).mpr q19; omega
        refine m_iconst F (v := (-1)) (by decide) e_X10_latest_22 ?_
        exact m_iret F hQ e_X10_latest_23 (⟨h5571, _, rfl⟩)
set_option maxRecDepth 20000 in
theorem lq_X10_partFor_36 {V : VX} {X : MX} {N : Nat} {σ : Mem} {c T Z u h : Nat} {P : NP} {L : Nat → LQ}  {x902 : Int64} (F : Fx V X yX10_partFor cX10_partFor 6 (some .int) (rmd 2 0 0)) (hQ : Rt V X 0 0 N (fun r τ => HS V c (⟨T, Z, u, h, P, L⟩ : RG) [0, 2, 3, 4, 5, 6, 7, 8, 9, 10, 11, 12, 13, 14, 15, 16, 17, 18, 19, 20, 21, 22, 23] σ τ ∧ ∃ x : Int32, r = some (.int x))) (hob : OKB L) (hP : OKP P)   : ∀ (fuel : Nat) (a : Nat) (d : Nat) (i : Nat) (τ : Mem), HS V c (⟨T, Z, u, h, P, L⟩ : RG) [0, 2, 3, 4, 5, 6, 7, 8, 9, 10, 11, 12, 13, 14, 15, 16, 17, 18, 19, 20, 21, 22, 23] σ τ → a ≤ 3 ∧ d = 160 * a ∧ i ≤ 1000 → 1000 - i < fuel → Wm V X 6 N τ 0 0 36 [(0, .ref c), (1, .int (nI a)), (2, .long x902), (4, .int (nI d)), (5, .int (nI i))] [] := by
  intro fuel
  induction fuel with
  | zero => intros; rename_i hm; exact absurd hm (Nat.not_lt_zero _)
  | succ fuel ih =>
    intro a d i τ h1 hi hm
    have hPP := hP
    unfold OKP at hPP
    refine m_iload F rfl e_X10_partFor_36 ?_
    refine m_sipush F (v := 1000) (by decide) e_X10_partFor_38 ?_
    refine m_icmp_ge F e_X10_partFor_41 (fun q41 => ?_) (fun q41 => ?_)
    · have c41 : i ≥ 1000 := (nI_leI (a := 1000) (b := i) (by omega) (by omega)).mp q41
      refine m_bipush F (v := (-2)) (by decide) e_X10_partFor_95 ?_
      exact m_iret F hQ e_X10_partFor_97 (⟨h1, _, rfl⟩)
    · have c41 : i < 1000 := by have hh := mt (nI_leI (a := 1000) (b := i) (by omega) (by omega)).mpr q41; omega
      have hd := hi.2.1
      have hd := hi.2.1
      have hd := hi.2.1
      refine m_aload_n F rfl e_X10_partFor_44 ?_
      refine r_get F e_X10_partFor_45 fl_X10_59 h1 rfl (fun v hv f5577 => ?_)
      obtain rfl : v = .ref (c + 16) := hv
      refine m_iload F rfl e_X10_partFor_48 ?_
      refine m_bipush F (v := 6) (by decide) e_X10_partFor_50 ?_
      refine m_iadd F e_X10_partFor_52 ?_
      refine Wm.topE (w := nI (d + 6)) (nI_add d 6) ?_
      refine r_sld F (j := d + 6) e_X10_partFor_53 h1 (nI_clamp (by omega)) (vp_in_nI (by omega) (by decide)) (fun x5578 h5579 f5580 => ?_)
      refine m_iload F rfl e_X10_partFor_54 ?_
      refine m_i2l F e_X10_partFor_56 ?_
      refine Wm.toplE (w := lN i) (nI_l (by omega)) ?_
      refine m_lmul F e_X10_partFor_57 ?_
      refine Wm.topl (fun x5581 _ => ?_)
      refine m_ldc2 F kc_X10_224 e_X10_partFor_58 ?_
      refine m_ldiv F (by decide) e_X10_partFor_61 ?_
      refine Wm.topl (fun x5582 _ => ?_)
      refine m_aload_n F rfl e_X10_partFor_62 ?_
      refine r_getC F e_X10_partFor_63 fl_X10_59 h1 (f5577) ?_
      refine m_iload F rfl e_X10_partFor_66 ?_
      refine m_bipush F (v := 7) (by decide) e_X10_partFor_68 ?_
      refine m_iadd F e_X10_partFor_70 ?_
      refine Wm.topE (w := nI (d + 7)) (nI_add d 7) ?_
      refine r_sld F (j := d + 7) e_X10_partFor_71 h1 (nI_clamp (by omega)) (vp_in_nI (by omega) (by decide)) (fun x5583 h5584 f5585 => ?_)
      refine m_iload F rfl e_X10_partFor_72 ?_
      refine m_i2l F e_X10_partFor_74 ?_
      refine Wm.toplE (w := lN i) (nI_l (by omega)) ?_
      refine m_lmul F e_X10_partFor_75 ?_
      refine Wm.topl (fun x5586 _ => ?_)
      refine m_ldc2 F kc_X10_224 e_X10_partFor_76 ?_
      refine m_ldiv F (by decide) e_X10_partFor_79 ?_
      refine Wm.topl (fun x5587 _ => ?_)
      refine m_lsub F e_X10_partFor_80 ?_
      refine Wm.topl (fun x5588 _ => ?_)
      refine m_lload_n F rfl e_X10_partFor_81 ?_
      refine m_lcmp F e_X10_partFor_82 ?_
      refine Wm.top (fun x5589 _ => ?_)
      refine m_if_lt F e_X10_partFor_83 (fun q83 => ?_) (fun q83 => ?_)
      · refine m_iinc F (v := nI (i + 1)) (lv' := [(5, .int (nI (i + 1))), (0, .ref c), (1, .int (nI a)), (2, .long x902), (4, .int (nI d))]) e_X10_partFor_89 rfl (nI_add i 1) (by decide) rfl ?_
        refine m_goto F e_X10_partFor_92 ?_
        refine Wm.lvsub (lv' := [(0, .ref c), (1, .int (nI a)), (2, .long x902), (4, .int (nI d)), (5, .int (nI (i + 1)))]) ?_ [1, 2, 3, 4, 0] rfl
        exact ih a d (i + 1) _ h1 (by omega) (by omega)
      · obtain ⟨n5590, hn5590, rfl⟩ := nI_nn (x := x5589) (fun e => q83 (Int32.lt_of_lt_of_le e (by decide)))
        have c83 : n5590 ≥ 0 := by have hh := mt (nI_ltI (a := n5590) (b := 0) (by omega) (by omega)).mpr q83; omega
        refine m_iload F rfl e_X10_partFor_86 ?_
        exact m_iret F hQ e_X10_partFor_88 (⟨h1, _, rfl⟩)
set_option maxRecDepth 20000 in
theorem q_X10_partFor (l : Launch) (V : VX) (c T Z u h : Nat) (P : NP) (L : Nat → LQ) (N : Nat) (σ : Mem) (x901 : Int32) (x902 : Int64) (h0 : HR V c ⟨T, Z, u, h, P, L⟩ σ) (hob : OKB L) (hP : OKP P)  : Ct l V yX10_partFor cX10_partFor 6 (some .int) 2 0 0 N σ [.ref c, .int x901, .long x902] (fun r τ => HS V c (⟨T, Z, u, h, P, L⟩ : RG) [0, 2, 3, 4, 5, 6, 7, 8, 9, 10, 11, 12, 13, 14, 15, 16, 17, 18, 19, 20, 21, 22, 23] σ τ ∧ ∃ x : Int32, r = some (.int x)) := by
  refine Ct.of (by decide) (Nat.le_of_ble_eq_true rfl) [(0, .ref c), (1, .int x901), (2, .long x902)] rfl (fun X hX F hQ => ?_)
  have hPP := hP
  unfold OKP at hPP
  have h1 : HS V c ⟨T, Z, u, h, P, L⟩ [0, 2, 3, 4, 5, 6, 7, 8, 9, 10, 11, 12, 13, 14, 15, 16, 17, 18, 19, 20, 21, 22, 23] σ σ := HS.start h0
  refine m_aload_n F rfl e_X10_partFor_0 ?_
  refine m_iconst F (v := 0) (by decide) e_X10_partFor_1 ?_
  refine r_put F (g' := (⟨T, Z, u, h, P, L⟩ : RG)) e_X10_partFor_2 fp_X10_91 h1 (by decide) ⟨_, rfl⟩ (fun _ _ _ _ q => q) (fun _ _ _ q => q) rfl rfl (by decide) (fun σ5591 h5592 g5593 g5594 f5595 => ?_)
  refine m_aload_n F rfl e_X10_partFor_5 ?_
  refine m_iload_n F rfl e_X10_partFor_6 ?_
  refine r_callV F e_X10_partFor_7 (q_X10_isLease (x_l X) V c T Z u h P L _ _ x901 h5592.1 (hob) hP ) cb_X10_isLease ml_X10_292 im_X10_isLease se_X10_isLease h5592 rfl rfl (rest := []) rfl (Nat.le_of_ble_eq_true rfl) ⟨Nat.le_of_ble_eq_true rfl, Nat.le_of_ble_eq_true rfl⟩ ⟨Nat.le_of_ble_eq_true rfl, Nat.le_of_ble_eq_true rfl⟩ (fun r σ5596 hp => ?_)
  obtain ⟨h5597, c5599⟩ := hp
  have h5598 := HS.trans h5592 h5597 (by decide)
  rcases c5599 with rfl | ⟨n5600, h5601, e5602, rfl⟩
  · refine m_if_ne F e_X10_partFor_10 (fun q => absurd (by decide) q) (fun _ => ?_)
    refine m_iconst F (v := (-1)) (by decide) e_X10_partFor_13 ?_
    exact m_iret F hQ e_X10_partFor_14 (⟨h5598, _, rfl⟩)
  · subst e5602
    refine m_if_ne F e_X10_partFor_10 (fun _ => ?_) (fun q => absurd q (by decide))
    refine m_aload_n F rfl e_X10_partFor_15 ?_
    refine m_iload_n F rfl e_X10_partFor_16 ?_
    refine r_callV F e_X10_partFor_17 (q_X10_isOn (x_l X) V c T Z u h P L _ _ n5600 h5598.1 (hob) hP (by omega)) cb_X10_isOn ml_X10_267 im_X10_isOn se_X10_isOn h5598 rfl rfl (rest := []) rfl (Nat.le_of_ble_eq_true rfl) ⟨Nat.le_of_ble_eq_true rfl, Nat.le_of_ble_eq_true rfl⟩ ⟨Nat.le_of_ble_eq_true rfl, Nat.le_of_ble_eq_true rfl⟩ (fun r σ5603 hp => ?_)
    obtain ⟨h5604, c5606⟩ := hp
    have h5605 := HS.trans h5598 h5604 (by decide)
    rcases c5606 with ⟨g5607, rfl⟩ | ⟨g5607, rfl⟩
    · refine m_if_ne F e_X10_partFor_20 (fun q => absurd (by decide) q) (fun _ => ?_)
      refine m_bipush F (v := (-2)) (by decide) e_X10_partFor_23 ?_
      exact m_iret F hQ e_X10_partFor_25 (⟨h5605, _, rfl⟩)
    · refine m_if_ne F e_X10_partFor_20 (fun _ => ?_) (fun q => absurd q (by decide))
      refine m_sipush F (v := 160) (by decide) e_X10_partFor_26 ?_
      refine m_iload_n F rfl e_X10_partFor_29 ?_
      refine m_imul F e_X10_partFor_30 ?_
      refine Wm.topE (w := nI (160 * n5600)) (pk_mul 160 n5600) ?_
      refine m_istore F (lv' := [(4, .int (nI (160 * n5600))), (0, .ref c), (1, .int (nI n5600)), (2, .long x902)]) e_X10_partFor_31 (by decide) rfl ?_
      refine m_iconst F (v := 1) (by decide) e_X10_partFor_33 ?_
      refine m_istore F (lv' := [(5, .int 1), (4, .int (nI (160 * n5600))), (0, .ref c), (1, .int (nI n5600)), (2, .long x902)]) e_X10_partFor_34 (by decide) rfl ?_
      refine Wm.lvsub (lv' := [(0, .ref c), (1, .int (nI n5600)), (2, .long x902), (4, .int (nI (160 * n5600))), (5, .int 1)]) ?_ [2, 3, 4, 1, 0] rfl
      exact lq_X10_partFor_36 F hQ hob hP  (1000 - 1 + 1) n5600 (160 * n5600) 1 _ h5605 (by omega) (Nat.lt_succ_self _)
set_option maxRecDepth 20000 in
theorem q_X10_yields (l : Launch) (V : VX) (c T Z u h : Nat) (P : NP) (L : Nat → LQ) (N : Nat) (σ : Mem) (x901 : Int32) (x902 : Int32) (x903 : Int64) (h0 : HR V c ⟨T, Z, u, h, P, L⟩ σ) (hob : OKB L) (hP : OKP P)  : Ct l V yX10_yields cX10_yields 5 (some .int) 3 0 0 N σ [.ref c, .int x901, .int x902, .long x903] (fun r τ => HS V c (⟨T, Z, u, h, P, L⟩ : RG) [0, 2, 3, 4, 5, 6, 7, 8, 9, 10, 11, 12, 13, 14, 15, 16, 17, 18, 19, 20, 21, 22, 23] σ τ ∧ ∃ x : Int32, r = some (.int x)) := by
  refine Ct.of (by decide) (Nat.le_of_ble_eq_true rfl) [(0, .ref c), (1, .int x901), (2, .int x902), (3, .long x903)] rfl (fun X hX F hQ => ?_)
  have hPP := hP
  unfold OKP at hPP
  have h1 : HS V c ⟨T, Z, u, h, P, L⟩ [0, 2, 3, 4, 5, 6, 7, 8, 9, 10, 11, 12, 13, 14, 15, 16, 17, 18, 19, 20, 21, 22, 23] σ σ := HS.start h0
  refine m_aload_n F rfl e_X10_yields_0 ?_
  refine m_iconst F (v := 0) (by decide) e_X10_yields_1 ?_
  refine r_put F (g' := (⟨T, Z, u, h, P, L⟩ : RG)) e_X10_yields_2 fp_X10_91 h1 (by decide) ⟨_, rfl⟩ (fun _ _ _ _ q => q) (fun _ _ _ q => q) rfl rfl (by decide) (fun σ5608 h5609 g5610 g5611 f5612 => ?_)
  refine m_aload_n F rfl e_X10_yields_5 ?_
  refine m_iload_n F rfl e_X10_yields_6 ?_
  refine m_iload_n F rfl e_X10_yields_7 ?_
  refine r_callV F e_X10_yields_8 (q_X10_isOwn (x_l X) V c T Z u h P L _ _ x901 x902 h5609.1 (hob) hP ) cb_X10_isOwn ml_X10_295 im_X10_isOwn se_X10_isOwn h5609 rfl rfl (rest := []) rfl (Nat.le_of_ble_eq_true rfl) ⟨Nat.le_of_ble_eq_true rfl, Nat.le_of_ble_eq_true rfl⟩ ⟨Nat.le_of_ble_eq_true rfl, Nat.le_of_ble_eq_true rfl⟩ (fun r σ5613 hp => ?_)
  obtain ⟨h5614, c5616⟩ := hp
  have h5615 := HS.trans h5609 h5614 (by decide)
  rcases c5616 with rfl | ⟨n5617, n5618, h5619, h5620, h5621, e5622, e5623, rfl⟩
  · refine m_if_eq F e_X10_yields_11 (fun _ => ?_) (fun q => absurd (by decide) q)
    refine m_iconst F (v := (-1)) (by decide) e_X10_yields_38 ?_
    exact m_iret F hQ e_X10_yields_39 (⟨h5615, _, rfl⟩)
  · subst e5622
    subst e5623
    refine m_if_eq F e_X10_yields_11 (fun q => absurd q (by decide)) (fun _ => ?_)
    have hl5624 := (hob).2 n5617 (by omega)
    have hl5625 := (hob).2 n5617 (by omega)
    have hl5626 := (hob).2 n5617 (by omega)
    refine m_lload_n F rfl e_X10_yields_14 ?_
    refine m_lconst F (v := 1) (by decide) e_X10_yields_15 ?_
    refine m_lcmp F e_X10_yields_16 ?_
    refine Wm.top (fun x5627 _ => ?_)
    refine m_if_lt F e_X10_yields_17 (fun q17 => ?_) (fun q17 => ?_)
    · refine m_iconst F (v := (-1)) (by decide) e_X10_yields_38 ?_
      exact m_iret F hQ e_X10_yields_39 (⟨h5615, _, rfl⟩)
    · obtain ⟨n5628, hn5628, rfl⟩ := nI_nn (x := x5627) (fun e => q17 (Int32.lt_of_lt_of_le e (by decide)))
      have c17 : n5628 ≥ 0 := by have hh := mt (nI_ltI (a := n5628) (b := 0) (by omega) (by omega)).mpr q17; omega
      refine m_lload_n F rfl e_X10_yields_20 ?_
      refine m_ldc2 F kc_X10_349 e_X10_yields_21 ?_
      refine m_lcmp F e_X10_yields_24 ?_
      refine Wm.top (fun x5629 _ => ?_)
      refine m_if_gt F e_X10_yields_25 (fun q25 => ?_) (fun q25 => ?_)
      · obtain ⟨n5630, hn5630, rfl⟩ := nI_nn (x := x5629) (fun e => Int32.lt_irrefl (Int32.lt_trans e (Int32.lt_of_le_of_lt (by decide) q25)))
        have c25 : n5630 > 0 := (nI_ltI (a := 0) (b := n5630) (by omega) (by omega)).mp q25
        refine m_iconst F (v := (-1)) (by decide) e_X10_yields_38 ?_
        exact m_iret F hQ e_X10_yields_39 (⟨h5615, _, rfl⟩)
      · refine m_aload_n F rfl e_X10_yields_28 ?_
        refine m_iload_n F rfl e_X10_yields_29 ?_
        refine m_iload_n F rfl e_X10_yields_30 ?_
        refine m_lload_n F rfl e_X10_yields_31 ?_
        refine r_callV F e_X10_yields_32 (q_X10_rateFor (x_l X) V c T Z u h P L _ _ n5617 n5618 x903 h5615.1 (hob) hP (by omega) (by omega) (by first | omega | assumption | decide)) cb_X10_rateFor ml_X10_226 im_X10_rateFor se_X10_rateFor h5615 rfl rfl (rest := []) rfl (Nat.le_of_ble_eq_true rfl) ⟨Nat.le_of_ble_eq_true rfl, Nat.le_of_ble_eq_true rfl⟩ ⟨Nat.le_of_ble_eq_true rfl, Nat.le_of_ble_eq_true rfl⟩ (fun r σ5631 hp => ?_)
        obtain ⟨h5632, c5634⟩ := hp
        have h5633 := HS.trans h5615 h5632 (by decide)
        rcases c5634 with rfl | ⟨n5635, hn5635, rfl⟩
        · refine m_goto F e_X10_yields_35 ?_
          exact m_iret F hQ e_X10_yields_39 (⟨h5633, _, rfl⟩)
        · refine m_goto F e_X10_yields_35 ?_
          exact m_iret F hQ e_X10_yields_39 (⟨h5633, _, rfl⟩)
set_option maxRecDepth 20000 in
theorem lq_X10_level_69 {V : VX} {X : MX} {N : Nat} {σ : Mem} {c T Z u h : Nat} {P : NP} {L : Nat → LQ}  {x902 : Int64} (F : Fx V X yX10_level cX10_level 9 (some .int) (rmd 2 0 0)) (hQ : Rt V X 0 0 N (fun r τ => HS V c (⟨T, Z, u, h, P, L⟩ : RG) [0, 2, 3, 4, 5, 6, 7, 8, 9, 10, 11, 12, 13, 14, 15, 16, 17, 18, 19, 20, 21, 22, 23] σ τ ∧ ∃ x : Int32, r = some (.int x))) (hob : OKB L) (hP : OKP P)   : ∀ (fuel : Nat) (d : Nat) (e : Nat) (a : Nat) (b : Nat) (τ : Mem), HS V c (⟨T, Z, u, h, P, L⟩ : RG) [0, 2, 3, 4, 5, 6, 7, 8, 9, 10, 11, 12, 13, 14, 15, 16, 17, 18, 19, 20, 21, 22, 23] σ τ → d ≤ 3 ∧ e ≤ 1000000 ∧ a ≤ b ∧ b ≤ 9999999 → b - a < fuel → Wm V X 9 N τ 0 0 69 [(0, .ref c), (1, .int (nI d)), (2, .long x902), (4, .long (lN e)), (6, .int (nI a)), (7, .int (nI b))] [] := by
  intro fuel
  induction fuel with
  | zero => intros; rename_i hm; exact absurd hm (Nat.not_lt_zero _)
  | succ fuel ih =>
    intro d e a b τ h1 hi hm
    have hPP := hP
    unfold OKP at hPP
    refine m_iload F rfl e_X10_level_69 ?_
    refine m_iload F rfl e_X10_level_71 ?_
    refine m_icmp_ge F e_X10_level_73 (fun q73 => ?_) (fun q73 => ?_)
    · have c73 : a ≥ b := (nI_leI (a := b) (b := a) (by omega) (by omega)).mp q73
      refine m_iload F rfl e_X10_level_117 ?_
      exact m_iret F hQ e_X10_level_119 (⟨h1, _, rfl⟩)
    · have c73 : a < b := by have hh := mt (nI_leI (a := b) (b := a) (by omega) (by omega)).mpr q73; omega
      refine m_iload F rfl e_X10_level_76 ?_
      refine m_iload F rfl e_X10_level_78 ?_
      refine m_iadd F e_X10_level_80 ?_
      refine Wm.topE (w := nI (a + b)) (nI_add a b) ?_
      refine m_iconst F (v := 2) (by decide) e_X10_level_81 ?_
      refine m_idiv F (by decide) e_X10_level_82 ?_
      refine Wm.topE (w := nI ((a + b) / 2)) (pk_div (a := a + b) (d := 2) (by omega) (by decide) (by decide)) ?_
      refine m_istore F (lv' := [(8, .int (nI ((a + b) / 2))), (0, .ref c), (1, .int (nI d)), (2, .long x902), (4, .long (lN e)), (6, .int (nI a)), (7, .int (nI b))]) e_X10_level_83 (by decide) rfl ?_
      refine m_aload_n F rfl e_X10_level_85 ?_
      refine m_iload_n F rfl e_X10_level_86 ?_
      refine m_iconst F (v := 1) (by decide) e_X10_level_87 ?_
      refine m_lload F rfl e_X10_level_88 ?_
      refine m_iload F rfl e_X10_level_90 ?_
      refine m_i2l F e_X10_level_92 ?_
      refine Wm.toplE (w := lN ((a + b) / 2)) (nI_l (by omega)) ?_
      refine r_callV F e_X10_level_93 (q_X10_worthBy (x_l X) V c T Z u h P L _ _ d 1 e (lN ((a + b) / 2)) h1.1 (hob) hP (by omega) (by omega) (by omega) (by first | omega | assumption | decide)) cb_X10_worthBy ml_X10_247 im_X10_worthBy se_X10_worthBy h1 rfl rfl (rest := []) rfl (Nat.le_of_ble_eq_true rfl) ⟨Nat.le_of_ble_eq_true rfl, Nat.le_of_ble_eq_true rfl⟩ ⟨Nat.le_of_ble_eq_true rfl, Nat.le_of_ble_eq_true rfl⟩ (fun r σ5636 hp => ?_)
      obtain ⟨h5637, x5639, rfl⟩ := hp
      have h5638 := HS.trans h1 h5637 (by decide)
      refine m_lload_n F rfl e_X10_level_96 ?_
      refine m_lcmp F e_X10_level_97 ?_
      refine Wm.top (fun x5640 _ => ?_)
      refine m_if_lt F e_X10_level_98 (fun q98 => ?_) (fun q98 => ?_)
      · refine m_iload F rfl e_X10_level_108 ?_
        refine m_iconst F (v := 1) (by decide) e_X10_level_110 ?_
        refine m_iadd F e_X10_level_111 ?_
        refine Wm.topE (w := nI ((a + b) / 2 + 1)) (nI_add ((a + b) / 2) 1) ?_
        refine m_istore F (lv' := [(6, .int (nI ((a + b) / 2 + 1))), (8, .int (nI ((a + b) / 2))), (0, .ref c), (1, .int (nI d)), (2, .long x902), (4, .long (lN e)), (7, .int (nI b))]) e_X10_level_112 (by decide) rfl ?_
        refine m_goto F e_X10_level_114 ?_
        refine Wm.lvsub (lv' := [(0, .ref c), (1, .int (nI d)), (2, .long x902), (4, .long (lN e)), (6, .int (nI ((a + b) / 2 + 1))), (7, .int (nI b))]) ?_ [2, 3, 4, 5, 0, 6] rfl
        exact ih d e ((a + b) / 2 + 1) b _ h5638 (by omega) (by omega)
      · obtain ⟨n5641, hn5641, rfl⟩ := nI_nn (x := x5640) (fun e => q98 (Int32.lt_of_lt_of_le e (by decide)))
        have c98 : n5641 ≥ 0 := by have hh := mt (nI_ltI (a := n5641) (b := 0) (by omega) (by omega)).mpr q98; omega
        refine m_iload F rfl e_X10_level_101 ?_
        refine m_istore F (lv' := [(7, .int (nI ((a + b) / 2))), (8, .int (nI ((a + b) / 2))), (0, .ref c), (1, .int (nI d)), (2, .long x902), (4, .long (lN e)), (6, .int (nI a))]) e_X10_level_103 (by decide) rfl ?_
        refine m_goto F e_X10_level_105 ?_
        refine m_goto F e_X10_level_114 ?_
        refine Wm.lvsub (lv' := [(0, .ref c), (1, .int (nI d)), (2, .long x902), (4, .long (lN e)), (6, .int (nI a)), (7, .int (nI ((a + b) / 2)))]) ?_ [2, 3, 4, 5, 6, 0] rfl
        exact ih d e a ((a + b) / 2) _ h5638 (by omega) (by omega)
set_option maxRecDepth 20000 in
theorem q_X10_level (l : Launch) (V : VX) (c T Z u h : Nat) (P : NP) (L : Nat → LQ) (N : Nat) (σ : Mem) (x901 : Int32) (x902 : Int64) (h0 : HR V c ⟨T, Z, u, h, P, L⟩ σ) (hob : OKB L) (hP : OKP P)  : Ct l V yX10_level cX10_level 9 (some .int) 2 0 0 N σ [.ref c, .int x901, .long x902] (fun r τ => HS V c (⟨T, Z, u, h, P, L⟩ : RG) [0, 2, 3, 4, 5, 6, 7, 8, 9, 10, 11, 12, 13, 14, 15, 16, 17, 18, 19, 20, 21, 22, 23] σ τ ∧ ∃ x : Int32, r = some (.int x)) := by
  refine Ct.of (by decide) (Nat.le_of_ble_eq_true rfl) [(0, .ref c), (1, .int x901), (2, .long x902)] rfl (fun X hX F hQ => ?_)
  have hPP := hP
  unfold OKP at hPP
  have h1 : HS V c ⟨T, Z, u, h, P, L⟩ [0, 2, 3, 4, 5, 6, 7, 8, 9, 10, 11, 12, 13, 14, 15, 16, 17, 18, 19, 20, 21, 22, 23] σ σ := HS.start h0
  refine m_aload_n F rfl e_X10_level_0 ?_
  refine m_iconst F (v := 0) (by decide) e_X10_level_1 ?_
  refine r_put F (g' := (⟨T, Z, u, h, P, L⟩ : RG)) e_X10_level_2 fp_X10_91 h1 (by decide) ⟨_, rfl⟩ (fun _ _ _ _ q => q) (fun _ _ _ q => q) rfl rfl (by decide) (fun σ5642 h5643 g5644 g5645 f5646 => ?_)
  refine m_aload_n F rfl e_X10_level_5 ?_
  refine m_iload_n F rfl e_X10_level_6 ?_
  refine r_callV F e_X10_level_7 (q_X10_isLease (x_l X) V c T Z u h P L _ _ x901 h5643.1 (hob) hP ) cb_X10_isLease ml_X10_292 im_X10_isLease se_X10_isLease h5643 rfl rfl (rest := []) rfl (Nat.le_of_ble_eq_true rfl) ⟨Nat.le_of_ble_eq_true rfl, Nat.le_of_ble_eq_true rfl⟩ ⟨Nat.le_of_ble_eq_true rfl, Nat.le_of_ble_eq_true rfl⟩ (fun r σ5647 hp => ?_)
  obtain ⟨h5648, c5650⟩ := hp
  have h5649 := HS.trans h5643 h5648 (by decide)
  rcases c5650 with rfl | ⟨n5651, h5652, e5653, rfl⟩
  · refine m_if_eq F e_X10_level_10 (fun _ => ?_) (fun q => absurd (by decide) q)
    refine m_iconst F (v := (-1)) (by decide) e_X10_level_27 ?_
    exact m_iret F hQ e_X10_level_28 (⟨h5649, _, rfl⟩)
  · subst e5653
    refine m_if_eq F e_X10_level_10 (fun q => absurd q (by decide)) (fun _ => ?_)
    refine m_lload_n F rfl e_X10_level_13 ?_
    refine m_lconst F (v := 1) (by decide) e_X10_level_14 ?_
    refine m_lcmp F e_X10_level_15 ?_
    refine Wm.top (fun x5654 _ => ?_)
    refine m_if_lt F e_X10_level_16 (fun q16 => ?_) (fun q16 => ?_)
    · refine m_iconst F (v := (-1)) (by decide) e_X10_level_27 ?_
      exact m_iret F hQ e_X10_level_28 (⟨h5649, _, rfl⟩)
    · obtain ⟨n5655, hn5655, rfl⟩ := nI_nn (x := x5654) (fun e => q16 (Int32.lt_of_lt_of_le e (by decide)))
      have c16 : n5655 ≥ 0 := by have hh := mt (nI_ltI (a := n5655) (b := 0) (by omega) (by omega)).mpr q16; omega
      refine m_lload_n F rfl e_X10_level_19 ?_
      refine m_ldc2 F kc_X10_349 e_X10_level_20 ?_
      refine m_lcmp F e_X10_level_23 ?_
      refine Wm.top (fun x5656 _ => ?_)
      refine m_if_le F e_X10_level_24 (fun q24 => ?_) (fun q24 => ?_)
      · refine m_aload_n F rfl e_X10_level_29 ?_
        refine r_get F e_X10_level_30 fl_X10_59 h5649 rfl (fun v hv f5657 => ?_)
        obtain rfl : v = .ref (c + 16) := hv
        refine m_sipush F (v := 160) (by decide) e_X10_level_33 ?_
        refine m_iload_n F rfl e_X10_level_36 ?_
        refine m_imul F e_X10_level_37 ?_
        refine Wm.topE (w := nI (160 * n5651)) (pk_mul 160 n5651) ?_
        refine m_iconst F (v := 2) (by decide) e_X10_level_38 ?_
        refine m_iadd F e_X10_level_39 ?_
        refine Wm.topE (w := nI (160 * n5651 + 2)) (nI_add (160 * n5651) 2) ?_
        refine r_sld F (j := 160 * n5651 + 2) e_X10_level_40 h5649 (nI_clamp (by omega)) (vp_in_nI (by omega) (by decide)) (fun x5658 h5659 f5660 => ?_)
        obtain ⟨n5661, hn5661, rfl⟩ : ∃ n : Nat, n ≤ 1000000 ∧ x5658 = lN n := (EJ_l (l := n5651) (r := 2) (by omega) (by decide)).mp h5659
        refine m_lstore F (lv' := [(4, .long (lN n5661)), (0, .ref c), (1, .int (nI n5651)), (2, .long x902)]) e_X10_level_41 (by decide) rfl ?_
        refine m_aload_n F rfl e_X10_level_43 ?_
        refine m_iload_n F rfl e_X10_level_44 ?_
        refine m_iconst F (v := 1) (by decide) e_X10_level_45 ?_
        refine m_lload F rfl e_X10_level_46 ?_
        refine m_ldc2 F kc_X10_351 e_X10_level_48 ?_
        refine r_callV F e_X10_level_51 (q_X10_worthBy (x_l X) V c T Z u h P L _ _ n5651 1 n5661 9999999 h5649.1 (hob) hP (by omega) (by omega) (by omega) (by first | omega | assumption | decide)) cb_X10_worthBy ml_X10_247 im_X10_worthBy se_X10_worthBy h5649 rfl rfl (rest := []) rfl (Nat.le_of_ble_eq_true rfl) ⟨Nat.le_of_ble_eq_true rfl, Nat.le_of_ble_eq_true rfl⟩ ⟨Nat.le_of_ble_eq_true rfl, Nat.le_of_ble_eq_true rfl⟩ (fun r σ5662 hp => ?_)
        obtain ⟨h5663, x5665, rfl⟩ := hp
        have h5664 := HS.trans h5649 h5663 (by decide)
        refine m_lload_n F rfl e_X10_level_54 ?_
        refine m_lcmp F e_X10_level_55 ?_
        refine Wm.top (fun x5666 _ => ?_)
        refine m_if_ge F e_X10_level_56 (fun q56 => ?_) (fun q56 => ?_)
        · obtain ⟨n5667, hn5667, rfl⟩ := nI_nn (x := x5666) (fun e => Int32.lt_irrefl (Int32.lt_of_lt_of_le e (Int32.le_trans (by decide) q56)))
          have c56 : n5667 ≥ 0 := (nI_leI (a := 0) (b := n5667) (by omega) (by omega)).mp q56
          refine m_iconst F (v := 0) (by decide) e_X10_level_62 ?_
          refine m_istore F (lv' := [(6, .int 0), (4, .long (lN n5661)), (0, .ref c), (1, .int (nI n5651)), (2, .long x902)]) e_X10_level_63 (by decide) rfl ?_
          refine m_ldc F kc_X10_129 e_X10_level_65 ?_
          refine m_istore F (lv' := [(7, .int 9999999), (6, .int 0), (4, .long (lN n5661)), (0, .ref c), (1, .int (nI n5651)), (2, .long x902)]) e_X10_level_67 (by decide) rfl ?_
          refine Wm.lvsub (lv' := [(0, .ref c), (1, .int (nI n5651)), (2, .long x902), (4, .long (lN n5661)), (6, .int 0), (7, .int 9999999)]) ?_ [3, 4, 5, 2, 1, 0] rfl
          exact lq_X10_level_69 F hQ hob hP  (9999999 - 0 + 1) n5651 n5661 0 9999999 _ h5664 (by omega) (Nat.lt_succ_self _)
        · refine m_bipush F (v := (-2)) (by decide) e_X10_level_59 ?_
          exact m_iret F hQ e_X10_level_61 (⟨h5664, _, rfl⟩)
      · obtain ⟨n5668, hn5668, rfl⟩ := nI_nn (x := x5656) (fun e => q24 (Int32.le_trans (Int32.le_of_lt e) (by decide)))
        have c24 : n5668 > 0 := by have hh := mt (nI_leI (a := n5668) (b := 0) (by omega) (by omega)).mpr q24; omega
        refine m_iconst F (v := (-1)) (by decide) e_X10_level_27 ?_
        exact m_iret F hQ e_X10_level_28 (⟨h5649, _, rfl⟩)
set_option maxRecDepth 20000 in
theorem lq_X10_owedAll_4 {V : VX} {X : MX} {N : Nat} {σ : Mem} {c T Z u h : Nat} {P : NP} {L : Nat → LQ}   (F : Fx V X yX10_owedAll cX10_owedAll 4 (some .long) (rmd 1 0 0)) (hQ : Rt V X 0 0 N (fun r τ => HS V c (⟨T, Z, u, h, P, L⟩ : RG) [0, 1, 2, 3, 4, 5, 6, 7, 8, 9, 10, 11, 12, 13, 14, 15, 16, 17, 18, 19, 20, 21, 22, 23] σ τ ∧ ∃ x : Int64, r = some (.long x))) (hob : OKB L) (hP : OKP P)   : ∀ (fuel : Nat) (w1 : Int64) (i : Nat) (τ : Mem), HS V c (⟨T, Z, u, h, P, L⟩ : RG) [0, 1, 2, 3, 4, 5, 6, 7, 8, 9, 10, 11, 12, 13, 14, 15, 16, 17, 18, 19, 20, 21, 22, 23] σ τ → i ≤ 4 → 4 - i < fuel → Wm V X 4 N τ 0 0 4 [(0, .ref c), (1, .long w1), (3, .int (nI i))] [] := by
  intro fuel
  induction fuel with
  | zero => intros; rename_i hm; exact absurd hm (Nat.not_lt_zero _)
  | succ fuel ih =>
    intro w1 i τ h1 hi hm
    have hPP := hP
    unfold OKP at hPP
    refine m_iload_n F rfl e_X10_owedAll_4 ?_
    refine m_aload_n F rfl e_X10_owedAll_5 ?_
    refine r_callV F e_X10_owedAll_6 (q_X10_leases (x_l X) V c T Z u h P L _ _  h1.1 (hob) hP ) cb_X10_leases ml_X10_221 im_X10_leases se_X10_leases h1 rfl rfl (rest := [.int (nI i)]) rfl (Nat.le_of_ble_eq_true rfl) ⟨Nat.le_of_ble_eq_true rfl, Nat.le_of_ble_eq_true rfl⟩ ⟨Nat.le_of_ble_eq_true rfl, Nat.le_of_ble_eq_true rfl⟩ (fun r σ5669 hp => ?_)
    obtain ⟨h5670, rfl⟩ := hp
    have h5671 := HS.trans h1 h5670 (by decide)
    refine m_icmp_ge F e_X10_owedAll_9 (fun q9 => ?_) (fun q9 => ?_)
    · have c9 : i ≥ P.n0 := (nI_leI (a := P.n0) (b := i) (by omega) (by omega)).mp q9
      refine m_lload_n F rfl e_X10_owedAll_34 ?_
      exact m_lret F hQ e_X10_owedAll_35 (⟨h5671, _, rfl⟩)
    · have c9 : i < P.n0 := by have hh := mt (nI_leI (a := P.n0) (b := i) (by omega) (by omega)).mpr q9; omega
      refine m_lload_n F rfl e_X10_owedAll_12 ?_
      refine m_aload_n F rfl e_X10_owedAll_13 ?_
      refine r_get F e_X10_owedAll_14 fl_X10_59 h5671 rfl (fun v hv f5672 => ?_)
      obtain rfl : v = .ref (c + 16) := hv
      refine m_sipush F (v := 160) (by decide) e_X10_owedAll_17 ?_
      refine m_iload_n F rfl e_X10_owedAll_20 ?_
      refine m_imul F e_X10_owedAll_21 ?_
      refine Wm.topE (w := nI (160 * i)) (pk_mul 160 i) ?_
      refine m_bipush F (v := 6) (by decide) e_X10_owedAll_22 ?_
      refine m_iadd F e_X10_owedAll_24 ?_
      refine Wm.topE (w := nI (160 * i + 6)) (nI_add (160 * i) 6) ?_
      refine r_sld F (j := 160 * i + 6) e_X10_owedAll_25 h5671 (nI_clamp (by omega)) (vp_in_nI (by omega) (by decide)) (fun x5673 h5674 f5675 => ?_)
      refine m_ladd F e_X10_owedAll_26 ?_
      refine Wm.topl (fun x5676 _ => ?_)
      refine m_lstore_n F (lv' := [(1, .long x5676), (0, .ref c), (3, .int (nI i))]) e_X10_owedAll_27 (by decide) rfl ?_
      refine m_iinc F (v := nI (i + 1)) (lv' := [(3, .int (nI (i + 1))), (1, .long x5676), (0, .ref c)]) e_X10_owedAll_28 rfl (nI_add i 1) (by decide) rfl ?_
      refine m_goto F e_X10_owedAll_31 ?_
      refine Wm.lvsub (lv' := [(0, .ref c), (1, .long x5676), (3, .int (nI (i + 1)))]) ?_ [2, 1, 0] rfl
      exact ih x5676 (i + 1) _ h5671 (by omega) (by omega)
set_option maxRecDepth 20000 in
theorem q_X10_owedAll (l : Launch) (V : VX) (c T Z u h : Nat) (P : NP) (L : Nat → LQ) (N : Nat) (σ : Mem)  (h0 : HR V c ⟨T, Z, u, h, P, L⟩ σ) (hob : OKB L) (hP : OKP P)  : Ct l V yX10_owedAll cX10_owedAll 4 (some .long) 1 0 0 N σ [.ref c] (fun r τ => HS V c (⟨T, Z, u, h, P, L⟩ : RG) [0, 1, 2, 3, 4, 5, 6, 7, 8, 9, 10, 11, 12, 13, 14, 15, 16, 17, 18, 19, 20, 21, 22, 23] σ τ ∧ ∃ x : Int64, r = some (.long x)) := by
  refine Ct.of (by decide) (Nat.le_of_ble_eq_true rfl) [(0, .ref c)] rfl (fun X hX F hQ => ?_)
  have hPP := hP
  unfold OKP at hPP
  have h1 : HS V c ⟨T, Z, u, h, P, L⟩ [0, 1, 2, 3, 4, 5, 6, 7, 8, 9, 10, 11, 12, 13, 14, 15, 16, 17, 18, 19, 20, 21, 22, 23] σ σ := HS.start h0
  refine m_lconst F (v := 0) (by decide) e_X10_owedAll_0 ?_
  refine m_lstore_n F (lv' := [(1, .long 0), (0, .ref c)]) e_X10_owedAll_1 (by decide) rfl ?_
  refine m_iconst F (v := 0) (by decide) e_X10_owedAll_2 ?_
  refine m_istore_n F (lv' := [(3, .int 0), (1, .long 0), (0, .ref c)]) e_X10_owedAll_3 (by decide) rfl ?_
  refine Wm.lvsub (lv' := [(0, .ref c), (1, .long 0), (3, .int 0)]) ?_ [2, 1, 0] rfl
  exact lq_X10_owedAll_4 F hQ hob hP  (4 - 0 + 1) 0 0 _ h1 (by omega) (Nat.lt_succ_self _)
set_option maxRecDepth 20000 in
theorem lq_X10_paidAll_4 {V : VX} {X : MX} {N : Nat} {σ : Mem} {c T Z u h : Nat} {P : NP} {L : Nat → LQ}   (F : Fx V X yX10_paidAll cX10_paidAll 4 (some .long) (rmd 1 0 0)) (hQ : Rt V X 0 0 N (fun r τ => HS V c (⟨T, Z, u, h, P, L⟩ : RG) [0, 1, 2, 3, 4, 5, 6, 7, 8, 9, 10, 11, 12, 13, 14, 15, 16, 17, 18, 19, 20, 21, 22, 23] σ τ ∧ ∃ x : Int64, r = some (.long x))) (hob : OKB L) (hP : OKP P)   : ∀ (fuel : Nat) (w1 : Int64) (i : Nat) (τ : Mem), HS V c (⟨T, Z, u, h, P, L⟩ : RG) [0, 1, 2, 3, 4, 5, 6, 7, 8, 9, 10, 11, 12, 13, 14, 15, 16, 17, 18, 19, 20, 21, 22, 23] σ τ → i ≤ 4 → 4 - i < fuel → Wm V X 4 N τ 0 0 4 [(0, .ref c), (1, .long w1), (3, .int (nI i))] [] := by
  intro fuel
  induction fuel with
  | zero => intros; rename_i hm; exact absurd hm (Nat.not_lt_zero _)
  | succ fuel ih =>
    intro w1 i τ h1 hi hm
    have hPP := hP
    unfold OKP at hPP
    refine m_iload_n F rfl e_X10_paidAll_4 ?_
    refine m_aload_n F rfl e_X10_paidAll_5 ?_
    refine r_callV F e_X10_paidAll_6 (q_X10_leases (x_l X) V c T Z u h P L _ _  h1.1 (hob) hP ) cb_X10_leases ml_X10_221 im_X10_leases se_X10_leases h1 rfl rfl (rest := [.int (nI i)]) rfl (Nat.le_of_ble_eq_true rfl) ⟨Nat.le_of_ble_eq_true rfl, Nat.le_of_ble_eq_true rfl⟩ ⟨Nat.le_of_ble_eq_true rfl, Nat.le_of_ble_eq_true rfl⟩ (fun r σ5677 hp => ?_)
    obtain ⟨h5678, rfl⟩ := hp
    have h5679 := HS.trans h1 h5678 (by decide)
    refine m_icmp_ge F e_X10_paidAll_9 (fun q9 => ?_) (fun q9 => ?_)
    · have c9 : i ≥ P.n0 := (nI_leI (a := P.n0) (b := i) (by omega) (by omega)).mp q9
      refine m_lload_n F rfl e_X10_paidAll_34 ?_
      exact m_lret F hQ e_X10_paidAll_35 (⟨h5679, _, rfl⟩)
    · have c9 : i < P.n0 := by have hh := mt (nI_leI (a := P.n0) (b := i) (by omega) (by omega)).mpr q9; omega
      refine m_lload_n F rfl e_X10_paidAll_12 ?_
      refine m_aload_n F rfl e_X10_paidAll_13 ?_
      refine r_get F e_X10_paidAll_14 fl_X10_59 h5679 rfl (fun v hv f5680 => ?_)
      obtain rfl : v = .ref (c + 16) := hv
      refine m_sipush F (v := 160) (by decide) e_X10_paidAll_17 ?_
      refine m_iload_n F rfl e_X10_paidAll_20 ?_
      refine m_imul F e_X10_paidAll_21 ?_
      refine Wm.topE (w := nI (160 * i)) (pk_mul 160 i) ?_
      refine m_bipush F (v := 10) (by decide) e_X10_paidAll_22 ?_
      refine m_iadd F e_X10_paidAll_24 ?_
      refine Wm.topE (w := nI (160 * i + 10)) (nI_add (160 * i) 10) ?_
      refine r_sld F (j := 160 * i + 10) e_X10_paidAll_25 h5679 (nI_clamp (by omega)) (vp_in_nI (by omega) (by decide)) (fun x5681 h5682 f5683 => ?_)
      refine m_ladd F e_X10_paidAll_26 ?_
      refine Wm.topl (fun x5684 _ => ?_)
      refine m_lstore_n F (lv' := [(1, .long x5684), (0, .ref c), (3, .int (nI i))]) e_X10_paidAll_27 (by decide) rfl ?_
      refine m_iinc F (v := nI (i + 1)) (lv' := [(3, .int (nI (i + 1))), (1, .long x5684), (0, .ref c)]) e_X10_paidAll_28 rfl (nI_add i 1) (by decide) rfl ?_
      refine m_goto F e_X10_paidAll_31 ?_
      refine Wm.lvsub (lv' := [(0, .ref c), (1, .long x5684), (3, .int (nI (i + 1)))]) ?_ [2, 1, 0] rfl
      exact ih x5684 (i + 1) _ h5679 (by omega) (by omega)
set_option maxRecDepth 20000 in
theorem q_X10_paidAll (l : Launch) (V : VX) (c T Z u h : Nat) (P : NP) (L : Nat → LQ) (N : Nat) (σ : Mem)  (h0 : HR V c ⟨T, Z, u, h, P, L⟩ σ) (hob : OKB L) (hP : OKP P)  : Ct l V yX10_paidAll cX10_paidAll 4 (some .long) 1 0 0 N σ [.ref c] (fun r τ => HS V c (⟨T, Z, u, h, P, L⟩ : RG) [0, 1, 2, 3, 4, 5, 6, 7, 8, 9, 10, 11, 12, 13, 14, 15, 16, 17, 18, 19, 20, 21, 22, 23] σ τ ∧ ∃ x : Int64, r = some (.long x)) := by
  refine Ct.of (by decide) (Nat.le_of_ble_eq_true rfl) [(0, .ref c)] rfl (fun X hX F hQ => ?_)
  have hPP := hP
  unfold OKP at hPP
  have h1 : HS V c ⟨T, Z, u, h, P, L⟩ [0, 1, 2, 3, 4, 5, 6, 7, 8, 9, 10, 11, 12, 13, 14, 15, 16, 17, 18, 19, 20, 21, 22, 23] σ σ := HS.start h0
  refine m_lconst F (v := 0) (by decide) e_X10_paidAll_0 ?_
  refine m_lstore_n F (lv' := [(1, .long 0), (0, .ref c)]) e_X10_paidAll_1 (by decide) rfl ?_
  refine m_iconst F (v := 0) (by decide) e_X10_paidAll_2 ?_
  refine m_istore_n F (lv' := [(3, .int 0), (1, .long 0), (0, .ref c)]) e_X10_paidAll_3 (by decide) rfl ?_
  refine Wm.lvsub (lv' := [(0, .ref c), (1, .long 0), (3, .int 0)]) ?_ [2, 1, 0] rfl
  exact lq_X10_paidAll_4 F hQ hob hP  (4 - 0 + 1) 0 0 _ h1 (by omega) (Nat.lt_succ_self _)
set_option maxRecDepth 20000 in
theorem lq_X10_running_4 {V : VX} {X : MX} {N : Nat} {σ : Mem} {c T Z u h : Nat} {P : NP} {L : Nat → LQ}   (F : Fx V X yX10_running cX10_running 3 (some .int) (rmd 1 0 0)) (hQ : Rt V X 0 0 N (fun r τ => HS V c (⟨T, Z, u, h, P, L⟩ : RG) [0, 1, 2, 3, 4, 5, 6, 7, 8, 9, 10, 11, 12, 13, 14, 15, 16, 17, 18, 19, 20, 21, 22, 23] σ τ ∧ ∃ x : Int32, r = some (.int x))) (hob : OKB L) (hP : OKP P)   : ∀ (fuel : Nat) (w1 : Int32) (i : Nat) (τ : Mem), HS V c (⟨T, Z, u, h, P, L⟩ : RG) [0, 1, 2, 3, 4, 5, 6, 7, 8, 9, 10, 11, 12, 13, 14, 15, 16, 17, 18, 19, 20, 21, 22, 23] σ τ → i ≤ 4 → 4 - i < fuel → Wm V X 3 N τ 0 0 4 [(0, .ref c), (1, .int w1), (2, .int (nI i))] [] := by
  intro fuel
  induction fuel with
  | zero => intros; rename_i hm; exact absurd hm (Nat.not_lt_zero _)
  | succ fuel ih =>
    intro w1 i τ h1 hi hm
    have hPP := hP
    unfold OKP at hPP
    refine m_iload_n F rfl e_X10_running_4 ?_
    refine m_aload_n F rfl e_X10_running_5 ?_
    refine r_callV F e_X10_running_6 (q_X10_leases (x_l X) V c T Z u h P L _ _  h1.1 (hob) hP ) cb_X10_leases ml_X10_221 im_X10_leases se_X10_leases h1 rfl rfl (rest := [.int (nI i)]) rfl (Nat.le_of_ble_eq_true rfl) ⟨Nat.le_of_ble_eq_true rfl, Nat.le_of_ble_eq_true rfl⟩ ⟨Nat.le_of_ble_eq_true rfl, Nat.le_of_ble_eq_true rfl⟩ (fun r σ5685 hp => ?_)
    obtain ⟨h5686, rfl⟩ := hp
    have h5687 := HS.trans h1 h5686 (by decide)
    refine m_icmp_ge F e_X10_running_9 (fun q9 => ?_) (fun q9 => ?_)
    · have c9 : i ≥ P.n0 := (nI_leI (a := P.n0) (b := i) (by omega) (by omega)).mp q9
      refine m_iload_n F rfl e_X10_running_34 ?_
      exact m_iret F hQ e_X10_running_35 (⟨h5687, _, rfl⟩)
    · have c9 : i < P.n0 := by have hh := mt (nI_leI (a := P.n0) (b := i) (by omega) (by omega)).mpr q9; omega
      refine m_iload_n F rfl e_X10_running_12 ?_
      refine m_aload_n F rfl e_X10_running_13 ?_
      refine m_iload_n F rfl e_X10_running_14 ?_
      refine r_callV F e_X10_running_15 (q_X10_isOn (x_l X) V c T Z u h P L _ _ i h5687.1 (hob) hP (by omega)) cb_X10_isOn ml_X10_267 im_X10_isOn se_X10_isOn h5687 rfl rfl (rest := [.int w1]) rfl (Nat.le_of_ble_eq_true rfl) ⟨Nat.le_of_ble_eq_true rfl, Nat.le_of_ble_eq_true rfl⟩ ⟨Nat.le_of_ble_eq_true rfl, Nat.le_of_ble_eq_true rfl⟩ (fun r σ5688 hp => ?_)
      obtain ⟨h5689, c5691⟩ := hp
      have h5690 := HS.trans h5687 h5689 (by decide)
      rcases c5691 with ⟨g5692, rfl⟩ | ⟨g5692, rfl⟩
      · refine m_if_eq F e_X10_running_18 (fun _ => ?_) (fun q => absurd (by decide) q)
        refine m_iconst F (v := 0) (by decide) e_X10_running_25 ?_
        refine m_iadd F e_X10_running_26 ?_
        refine Wm.top (fun x5693 _ => ?_)
        refine m_istore_n F (lv' := [(1, .int x5693), (0, .ref c), (2, .int (nI i))]) e_X10_running_27 (by decide) rfl ?_
        refine m_iinc F (v := nI (i + 1)) (lv' := [(2, .int (nI (i + 1))), (1, .int x5693), (0, .ref c)]) e_X10_running_28 rfl (nI_add i 1) (by decide) rfl ?_
        refine m_goto F e_X10_running_31 ?_
        refine Wm.lvsub (lv' := [(0, .ref c), (1, .int x5693), (2, .int (nI (i + 1)))]) ?_ [2, 1, 0] rfl
        exact ih x5693 (i + 1) _ h5690 (by omega) (by omega)
      · refine m_if_eq F e_X10_running_18 (fun q => absurd q (by decide)) (fun _ => ?_)
        refine m_iconst F (v := 1) (by decide) e_X10_running_21 ?_
        refine m_goto F e_X10_running_22 ?_
        refine m_iadd F e_X10_running_26 ?_
        refine Wm.top (fun x5694 _ => ?_)
        refine m_istore_n F (lv' := [(1, .int x5694), (0, .ref c), (2, .int (nI i))]) e_X10_running_27 (by decide) rfl ?_
        refine m_iinc F (v := nI (i + 1)) (lv' := [(2, .int (nI (i + 1))), (1, .int x5694), (0, .ref c)]) e_X10_running_28 rfl (nI_add i 1) (by decide) rfl ?_
        refine m_goto F e_X10_running_31 ?_
        refine Wm.lvsub (lv' := [(0, .ref c), (1, .int x5694), (2, .int (nI (i + 1)))]) ?_ [2, 1, 0] rfl
        exact ih x5694 (i + 1) _ h5690 (by omega) (by omega)
set_option maxRecDepth 20000 in
theorem q_X10_running (l : Launch) (V : VX) (c T Z u h : Nat) (P : NP) (L : Nat → LQ) (N : Nat) (σ : Mem)  (h0 : HR V c ⟨T, Z, u, h, P, L⟩ σ) (hob : OKB L) (hP : OKP P)  : Ct l V yX10_running cX10_running 3 (some .int) 1 0 0 N σ [.ref c] (fun r τ => HS V c (⟨T, Z, u, h, P, L⟩ : RG) [0, 1, 2, 3, 4, 5, 6, 7, 8, 9, 10, 11, 12, 13, 14, 15, 16, 17, 18, 19, 20, 21, 22, 23] σ τ ∧ ∃ x : Int32, r = some (.int x)) := by
  refine Ct.of (by decide) (Nat.le_of_ble_eq_true rfl) [(0, .ref c)] rfl (fun X hX F hQ => ?_)
  have hPP := hP
  unfold OKP at hPP
  have h1 : HS V c ⟨T, Z, u, h, P, L⟩ [0, 1, 2, 3, 4, 5, 6, 7, 8, 9, 10, 11, 12, 13, 14, 15, 16, 17, 18, 19, 20, 21, 22, 23] σ σ := HS.start h0
  refine m_iconst F (v := 0) (by decide) e_X10_running_0 ?_
  refine m_istore_n F (lv' := [(1, .int 0), (0, .ref c)]) e_X10_running_1 (by decide) rfl ?_
  refine m_iconst F (v := 0) (by decide) e_X10_running_2 ?_
  refine m_istore_n F (lv' := [(2, .int 0), (1, .int 0), (0, .ref c)]) e_X10_running_3 (by decide) rfl ?_
  refine Wm.lvsub (lv' := [(0, .ref c), (1, .int 0), (2, .int 0)]) ?_ [2, 1, 0] rfl
  exact lq_X10_running_4 F hQ hob hP  (4 - 0 + 1) 0 0 _ h1 (by omega) (Nat.lt_succ_self _)
set_option maxRecDepth 20000 in
theorem q_X10_count (l : Launch) (V : VX) (c T Z u h : Nat) (P : NP) (L : Nat → LQ) (N : Nat) (σ : Mem) (x901 : Int32) (h0 : HR V c ⟨T, Z, u, h, P, L⟩ σ) (hob : OKB L) (hP : OKP P)  : Ct l V yX10_count cX10_count 2 (some .int) 2 0 0 N σ [.ref c, .int x901] (fun r τ => HS V c (⟨T, Z, u, h, P, L⟩ : RG) [0, 2, 3, 4, 5, 6, 7, 8, 9, 10, 11, 12, 13, 14, 15, 16, 17, 18, 19, 20, 21, 22, 23] σ τ ∧ ∃ x : Int32, r = some (.int x)) := by
  refine Ct.of (by decide) (Nat.le_of_ble_eq_true rfl) [(0, .ref c), (1, .int x901)] rfl (fun X hX F hQ => ?_)
  have hPP := hP
  unfold OKP at hPP
  have h1 : HS V c ⟨T, Z, u, h, P, L⟩ [0, 2, 3, 4, 5, 6, 7, 8, 9, 10, 11, 12, 13, 14, 15, 16, 17, 18, 19, 20, 21, 22, 23] σ σ := HS.start h0
  refine m_aload_n F rfl e_X10_count_0 ?_
  refine m_iconst F (v := 0) (by decide) e_X10_count_1 ?_
  refine r_put F (g' := (⟨T, Z, u, h, P, L⟩ : RG)) e_X10_count_2 fp_X10_91 h1 (by decide) ⟨_, rfl⟩ (fun _ _ _ _ q => q) (fun _ _ _ q => q) rfl rfl (by decide) (fun σ5695 h5696 g5697 g5698 f5699 => ?_)
  refine m_iload_n F rfl e_X10_count_5 ?_
  by_cases ho6 : (x901 : Int32).toInt < 0 ∨ 7 < (x901 : Int32).toInt
  · refine m_tableOut F e_X10_count_6 ho6 (tgt := 109) (by decide) ?_
    refine m_iconst F (v := (-1)) (by decide) e_X10_count_109 ?_
    exact m_iret F hQ e_X10_count_110 (⟨h5696, _, rfl⟩)
  have hs6 : (x901 : Int32).toInt = 0 ∨ (x901 : Int32).toInt = 1 ∨ (x901 : Int32).toInt = 2 ∨ (x901 : Int32).toInt = 3 ∨ (x901 : Int32).toInt = 4 ∨ (x901 : Int32).toInt = 5 ∨ (x901 : Int32).toInt = 6 ∨ (x901 : Int32).toInt = 7 := by omega
  rcases hs6 with hv | hv | hv | hv | hv | hv | hv | hv
  · refine m_tableIn F e_X10_count_6 (by omega) (by omega) (off := 46) (tgt := 52) (by rw [hv]; rfl) (by decide) ?_
    refine m_aload_n F rfl e_X10_count_52 ?_
    refine r_callV F e_X10_count_53 (q_X10_leases (x_l X) V c T Z u h P L _ _  h5696.1 (hob) hP ) cb_X10_leases ml_X10_221 im_X10_leases se_X10_leases h5696 rfl rfl (rest := []) rfl (Nat.le_of_ble_eq_true rfl) ⟨Nat.le_of_ble_eq_true rfl, Nat.le_of_ble_eq_true rfl⟩ ⟨Nat.le_of_ble_eq_true rfl, Nat.le_of_ble_eq_true rfl⟩ (fun r σ5700 hp => ?_)
    obtain ⟨h5701, rfl⟩ := hp
    have h5702 := HS.trans h5696 h5701 (by decide)
    exact m_iret F hQ e_X10_count_56 (⟨h5702, _, rfl⟩)
  · refine m_tableIn F e_X10_count_6 (by omega) (by omega) (off := 51) (tgt := 57) (by rw [hv]; rfl) (by decide) ?_
    refine m_aload_n F rfl e_X10_count_57 ?_
    refine r_get F e_X10_count_58 fl_X10_13 h5696 rfl (fun v hv f5703 => ?_)
    obtain rfl : v = .ref (c + 2) := hv
    refine m_iconst F (v := 3) (by decide) e_X10_count_61 ?_
    refine r_iald F (len := 10) (j := 3) e_X10_count_62 h5696 (fun _ h => h) (by decide) (by decide) (by unfold vp_in; decide) (fun x5704 h5705 f5706 => ?_)
    obtain ⟨n5707, hn5707, rfl⟩ := h5705.2.2.2.2.1 rfl
    exact m_iret F hQ e_X10_count_63 (⟨h5696, _, rfl⟩)
  · refine m_tableIn F e_X10_count_6 (by omega) (by omega) (off := 58) (tgt := 64) (by rw [hv]; rfl) (by decide) ?_
    refine m_aload_n F rfl e_X10_count_64 ?_
    refine r_get F e_X10_count_65 fl_X10_59 h5696 rfl (fun v hv f5708 => ?_)
    obtain rfl : v = .ref (c + 16) := hv
    refine m_sipush F (v := 744) (by decide) e_X10_count_68 ?_
    refine r_sld F (j := 744) e_X10_count_71 h5696 (by decide) (by unfold vp_in; decide) (fun x5709 h5710 f5711 => ?_)
    have hl5712 := hob.1
    obtain rfl : x5709 = lN (L 4).1 := EJ_p.mp h5710
    refine m_l2i F e_X10_count_72 ?_
    refine Wm.topE (w := nI ((L 4).1)) (lN_i ((L 4).1)) ?_
    exact m_iret F hQ e_X10_count_73 (⟨h5696, _, rfl⟩)
  · refine m_tableIn F e_X10_count_6 (by omega) (by omega) (off := 68) (tgt := 74) (by rw [hv]; rfl) (by decide) ?_
    refine m_aload_n F rfl e_X10_count_74 ?_
    refine r_get F e_X10_count_75 fl_X10_59 h5696 rfl (fun v hv f5713 => ?_)
    obtain rfl : v = .ref (c + 16) := hv
    refine m_sipush F (v := 751) (by decide) e_X10_count_78 ?_
    refine r_sld F (j := 751) e_X10_count_81 h5696 (by decide) (by unfold vp_in; decide) (fun x5714 h5715 f5716 => ?_)
    obtain ⟨n5717, hn5717, rfl⟩ := EJ_m.mp h5715
    refine m_l2i F e_X10_count_82 ?_
    refine Wm.topE (w := nI n5717) (lN_i n5717) ?_
    exact m_iret F hQ e_X10_count_83 (⟨h5696, _, rfl⟩)
  · refine m_tableIn F e_X10_count_6 (by omega) (by omega) (off := 78) (tgt := 84) (by rw [hv]; rfl) (by decide) ?_
    refine m_aload_n F rfl e_X10_count_84 ?_
    refine r_get F e_X10_count_85 fl_X10_59 h5696 rfl (fun v hv f5718 => ?_)
    obtain rfl : v = .ref (c + 16) := hv
    refine m_sipush F (v := 752) (by decide) e_X10_count_88 ?_
    refine r_sld F (j := 752) e_X10_count_91 h5696 (by decide) (by unfold vp_in; decide) (fun x5719 h5720 f5721 => ?_)
    refine m_l2i F e_X10_count_92 ?_
    refine Wm.top (fun x5722 _ => ?_)
    exact m_iret F hQ e_X10_count_93 (⟨h5696, _, rfl⟩)
  · refine m_tableIn F e_X10_count_6 (by omega) (by omega) (off := 88) (tgt := 94) (by rw [hv]; rfl) (by decide) ?_
    refine m_aload_n F rfl e_X10_count_94 ?_
    refine r_callV F e_X10_count_95 (q_X10_running (x_l X) V c T Z u h P L _ _  h5696.1 (hob) hP ) cb_X10_running ml_X10_373 im_X10_running se_X10_running h5696 rfl rfl (rest := []) rfl (Nat.le_of_ble_eq_true rfl) ⟨Nat.le_of_ble_eq_true rfl, Nat.le_of_ble_eq_true rfl⟩ ⟨Nat.le_of_ble_eq_true rfl, Nat.le_of_ble_eq_true rfl⟩ (fun r σ5723 hp => ?_)
    obtain ⟨h5724, x5726, rfl⟩ := hp
    have h5725 := HS.trans h5696 h5724 (by decide)
    exact m_iret F hQ e_X10_count_98 (⟨h5725, _, rfl⟩)
  · refine m_tableIn F e_X10_count_6 (by omega) (by omega) (off := 93) (tgt := 99) (by rw [hv]; rfl) (by decide) ?_
    refine m_aload_n F rfl e_X10_count_99 ?_
    refine r_get F e_X10_count_100 fl_X10_214 h5696 rfl (fun v hv f5727 => ?_)
    obtain rfl : v = .int (nI (u)) := hv
    exact m_iret F hQ e_X10_count_103 (⟨h5696, _, rfl⟩)
  · refine m_tableIn F e_X10_count_6 (by omega) (by omega) (off := 98) (tgt := 104) (by rw [hv]; rfl) (by decide) ?_
    refine m_aload_n F rfl e_X10_count_104 ?_
    refine r_get F e_X10_count_105 fl_X10_94 h5696 rfl (fun v hv f5728 => ?_)
    obtain rfl : v = .int (nI (T)) := hv
    exact m_iret F hQ e_X10_count_108 (⟨h5696, _, rfl⟩)
set_option maxRecDepth 20000 in
theorem q_X10_fault (l : Launch) (V : VX) (c T Z u h : Nat) (P : NP) (L : Nat → LQ) (N : Nat) (σ : Mem) (x901 : Int32) (h0 : HR V c ⟨T, Z, u, h, P, L⟩ σ) (hob : OKB L) (hP : OKP P)  : Ct l V yX10_fault cX10_fault 2 (some .int) 0 0 0 N σ [.ref c, .int x901] (fun r τ => HS V c (⟨T, Z, u, h, P, L⟩ : RG) [0, 2, 3, 4, 5, 6, 7, 8, 9, 10, 11, 12, 13, 14, 15, 16, 17, 18, 19, 20, 21, 22, 23] σ τ ∧ ∃ x : Int32, r = some (.int x)) := by
  refine Ct.of (by decide) (Nat.le_of_ble_eq_true rfl) [(0, .ref c), (1, .int x901)] rfl (fun X hX F hQ => ?_)
  have hPP := hP
  unfold OKP at hPP
  have h1 : HS V c ⟨T, Z, u, h, P, L⟩ [0, 2, 3, 4, 5, 6, 7, 8, 9, 10, 11, 12, 13, 14, 15, 16, 17, 18, 19, 20, 21, 22, 23] σ σ := HS.start h0
  refine m_aload_n F rfl e_X10_fault_0 ?_
  refine m_iconst F (v := 0) (by decide) e_X10_fault_1 ?_
  refine r_put F (g' := (⟨T, Z, u, h, P, L⟩ : RG)) e_X10_fault_2 fp_X10_91 h1 (by decide) ⟨_, rfl⟩ (fun _ _ _ _ q => q) (fun _ _ _ q => q) rfl rfl (by decide) (fun σ5729 h5730 g5731 g5732 f5733 => ?_)
  refine m_iload_n F rfl e_X10_fault_5 ?_
  refine m_if_ne F e_X10_fault_6 (fun q6 => ?_) (fun q6 => ?_)
  · refine m_iload_n F rfl e_X10_fault_16 ?_
    refine m_iconst F (v := 1) (by decide) e_X10_fault_17 ?_
    refine m_icmp_ne F e_X10_fault_18 (fun q18 => ?_) (fun q18 => ?_)
    · refine m_iconst F (v := (-1)) (by decide) e_X10_fault_28 ?_
      exact m_iret F hQ e_X10_fault_29 (⟨h5730, _, rfl⟩)
    · subst q18
      refine m_aload_n F rfl e_X10_fault_21 ?_
      refine r_get F e_X10_fault_22 fl_X10_55 h5730 rfl (fun v hv f5734 => ?_)
      obtain ⟨x5735, rfl⟩ := hv
      refine m_goto F e_X10_fault_25 ?_
      exact m_iret F hQ e_X10_fault_29 (⟨h5730, _, rfl⟩)
  · subst q6
    refine m_aload_n F rfl e_X10_fault_9 ?_
    refine r_get F e_X10_fault_10 fl_X10_211 h5730 rfl (fun v hv f5736 => ?_)
    obtain ⟨x5737, rfl⟩ := hv
    refine m_goto F e_X10_fault_13 ?_
    exact m_iret F hQ e_X10_fault_29 (⟨h5730, _, rfl⟩)
set_option maxRecDepth 20000 in
theorem lq_X10_namedAt_3 {V : VX} {X : MX} {N : Nat} {σ : Mem} {c T Z u h : Nat} {P : NP} {L : Nat → LQ}  {n901 : Nat} {n902 : Nat} {x903 : Int32} (F : Fx V X yX10_namedAt cX10_namedAt 5 (some .int) (rmd 0 0 0)) (hQ : Rt V X 0 0 N (fun r τ => HS V c (⟨T, Z, u, h, P, L⟩ : RG) [0, 1, 2, 3, 4, 5, 6, 7, 8, 9, 10, 11, 12, 13, 14, 15, 16, 17, 18, 19, 20, 21, 22, 23] σ τ ∧ (r = some (.int (-1)) ∨ ∃ n : Nat, n < n902 ∧ r = some (.int (nI n))))) (hob : OKB L) (hP : OKP P) (hn901 : n901 ≤ 4) (hn902 : n902 ≤ 4)  : ∀ (fuel : Nat) (i : Nat) (τ : Mem), HS V c (⟨T, Z, u, h, P, L⟩ : RG) [0, 1, 2, 3, 4, 5, 6, 7, 8, 9, 10, 11, 12, 13, 14, 15, 16, 17, 18, 19, 20, 21, 22, 23] σ τ → i ≤ n902 → n902 - i < fuel → Wm V X 5 N τ 0 0 3 [(0, .ref c), (1, .int (nI n901)), (2, .int (nI n902)), (3, .int x903), (4, .int (nI i))] [] := by
  intro fuel
  induction fuel with
  | zero => intros; rename_i hm; exact absurd hm (Nat.not_lt_zero _)
  | succ fuel ih =>
    intro i τ h1 hi hm
    have hPP := hP
    unfold OKP at hPP
    refine m_iload F rfl e_X10_namedAt_3 ?_
    refine m_iload_n F rfl e_X10_namedAt_5 ?_
    refine m_icmp_ge F e_X10_namedAt_6 (fun q6 => ?_) (fun q6 => ?_)
    · have c6 : i ≥ n902 := (nI_leI (a := n902) (b := i) (by omega) (by omega)).mp q6
      refine m_iconst F (v := (-1)) (by decide) e_X10_namedAt_31 ?_
      exact m_iret F hQ e_X10_namedAt_32 (⟨h1, Or.inl rfl⟩)
    · have c6 : i < n902 := by have hh := mt (nI_leI (a := n902) (b := i) (by omega) (by omega)).mpr q6; omega
      refine m_aload_n F rfl e_X10_namedAt_9 ?_
      refine r_get F e_X10_namedAt_10 fl_X10_16 h1 rfl (fun v hv f5738 => ?_)
      obtain rfl : v = .ref (c + 3) := hv
      refine m_iload_n F rfl e_X10_namedAt_13 ?_
      refine m_iload F rfl e_X10_namedAt_14 ?_
      refine m_iadd F e_X10_namedAt_16 ?_
      refine Wm.topE (w := nI (n901 + i)) (nI_add n901 i) ?_
      refine r_iald F (len := 8) (j := n901 + i) e_X10_namedAt_17 h1 (fun _ h => h) (by decide) (nI_clamp (by omega)) (vp_in_nI (by omega) (by decide)) (fun x5739 h5740 f5741 => ?_)
      refine m_iload_n F rfl e_X10_namedAt_18 ?_
      refine m_icmp_ne F e_X10_namedAt_19 (fun q19 => ?_) (fun q19 => ?_)
      · refine m_iinc F (v := nI (i + 1)) (lv' := [(4, .int (nI (i + 1))), (0, .ref c), (1, .int (nI n901)), (2, .int (nI n902)), (3, .int x903)]) e_X10_namedAt_25 rfl (nI_add i 1) (by decide) rfl ?_
        refine m_goto F e_X10_namedAt_28 ?_
        refine Wm.lvsub (lv' := [(0, .ref c), (1, .int (nI n901)), (2, .int (nI n902)), (3, .int x903), (4, .int (nI (i + 1)))]) ?_ [1, 2, 3, 4, 0] rfl
        exact ih (i + 1) _ h1 (by omega) (by omega)
      · refine m_iload F rfl e_X10_namedAt_22 ?_
        exact m_iret F hQ e_X10_namedAt_24 (⟨h1, Or.inr ⟨i, by omega, rfl⟩⟩)
set_option maxRecDepth 20000 in
theorem q_X10_namedAt (l : Launch) (V : VX) (c T Z u h : Nat) (P : NP) (L : Nat → LQ) (N : Nat) (σ : Mem) (n901 : Nat) (n902 : Nat) (x903 : Int32) (h0 : HR V c ⟨T, Z, u, h, P, L⟩ σ) (hob : OKB L) (hP : OKP P) (hn901 : n901 ≤ 4) (hn902 : n902 ≤ 4) : Ct l V yX10_namedAt cX10_namedAt 5 (some .int) 0 0 0 N σ [.ref c, .int (nI n901), .int (nI n902), .int x903] (fun r τ => HS V c (⟨T, Z, u, h, P, L⟩ : RG) [0, 1, 2, 3, 4, 5, 6, 7, 8, 9, 10, 11, 12, 13, 14, 15, 16, 17, 18, 19, 20, 21, 22, 23] σ τ ∧ (r = some (.int (-1)) ∨ ∃ n : Nat, n < n902 ∧ r = some (.int (nI n)))) := by
  refine Ct.of (by decide) (Nat.le_of_ble_eq_true rfl) [(0, .ref c), (1, .int (nI n901)), (2, .int (nI n902)), (3, .int x903)] rfl (fun X hX F hQ => ?_)
  have hPP := hP
  unfold OKP at hPP
  have h1 : HS V c ⟨T, Z, u, h, P, L⟩ [0, 1, 2, 3, 4, 5, 6, 7, 8, 9, 10, 11, 12, 13, 14, 15, 16, 17, 18, 19, 20, 21, 22, 23] σ σ := HS.start h0
  refine m_iconst F (v := 0) (by decide) e_X10_namedAt_0 ?_
  refine m_istore F (lv' := [(4, .int 0), (0, .ref c), (1, .int (nI n901)), (2, .int (nI n902)), (3, .int x903)]) e_X10_namedAt_1 (by decide) rfl ?_
  refine Wm.lvsub (lv' := [(0, .ref c), (1, .int (nI n901)), (2, .int (nI n902)), (3, .int x903), (4, .int 0)]) ?_ [1, 2, 3, 4, 0] rfl
  exact lq_X10_namedAt_3 F hQ hob hP hn901 hn902 (n902 - 0 + 1) 0 _ h1 (by omega) (Nat.lt_succ_self _)
set_option maxRecDepth 20000 in
theorem q_X10_named (l : Launch) (V : VX) (c T Z u h : Nat) (P : NP) (L : Nat → LQ) (N : Nat) (σ : Mem) (x901 : Int32) (h0 : HR V c ⟨T, Z, u, h, P, L⟩ σ) (hob : OKB L) (hP : OKP P)  : Ct l V yX10_named cX10_named 2 (some .int) 1 0 0 N σ [.ref c, .int x901] (fun r τ => HS V c (⟨T, Z, u, h, P, L⟩ : RG) [0, 2, 3, 4, 5, 6, 7, 8, 9, 10, 11, 12, 13, 14, 15, 16, 17, 18, 19, 20, 21, 22, 23] σ τ ∧ ∃ x : Int32, r = some (.int x)) := by
  refine Ct.of (by decide) (Nat.le_of_ble_eq_true rfl) [(0, .ref c), (1, .int x901)] rfl (fun X hX F hQ => ?_)
  have hPP := hP
  unfold OKP at hPP
  have h1 : HS V c ⟨T, Z, u, h, P, L⟩ [0, 2, 3, 4, 5, 6, 7, 8, 9, 10, 11, 12, 13, 14, 15, 16, 17, 18, 19, 20, 21, 22, 23] σ σ := HS.start h0
  refine m_aload_n F rfl e_X10_named_0 ?_
  refine m_iconst F (v := 0) (by decide) e_X10_named_1 ?_
  refine r_put F (g' := (⟨T, Z, u, h, P, L⟩ : RG)) e_X10_named_2 fp_X10_91 h1 (by decide) ⟨_, rfl⟩ (fun _ _ _ _ q => q) (fun _ _ _ q => q) rfl rfl (by decide) (fun σ5742 h5743 g5744 g5745 f5746 => ?_)
  refine m_aload_n F rfl e_X10_named_5 ?_
  refine m_iconst F (v := 0) (by decide) e_X10_named_6 ?_
  refine m_aload_n F rfl e_X10_named_7 ?_
  refine r_callV F e_X10_named_8 (q_X10_leases (x_l X) V c T Z u h P L _ _  h5743.1 (hob) hP ) cb_X10_leases ml_X10_221 im_X10_leases se_X10_leases h5743 rfl rfl (rest := [.int 0, .ref c]) rfl (Nat.le_of_ble_eq_true rfl) ⟨Nat.le_of_ble_eq_true rfl, Nat.le_of_ble_eq_true rfl⟩ ⟨Nat.le_of_ble_eq_true rfl, Nat.le_of_ble_eq_true rfl⟩ (fun r σ5747 hp => ?_)
  obtain ⟨h5748, rfl⟩ := hp
  have h5749 := HS.trans h5743 h5748 (by decide)
  refine m_iload_n F rfl e_X10_named_11 ?_
  refine r_callV F e_X10_named_12 (q_X10_namedAt (x_l X) V c T Z u h P L _ _ 0 P.n0 x901 h5749.1 (hob) hP (by omega) (by omega)) cb_X10_namedAt ml_X10_161 im_X10_namedAt se_X10_namedAt h5749 rfl rfl (rest := []) rfl (Nat.le_of_ble_eq_true rfl) ⟨Nat.le_of_ble_eq_true rfl, Nat.le_of_ble_eq_true rfl⟩ ⟨Nat.le_of_ble_eq_true rfl, Nat.le_of_ble_eq_true rfl⟩ (fun r σ5750 hp => ?_)
  obtain ⟨h5751, c5753⟩ := hp
  have h5752 := HS.trans h5749 h5751 (by decide)
  rcases c5753 with rfl | ⟨n5754, hn5754, rfl⟩
  · exact m_iret F hQ e_X10_named_15 (⟨h5752, _, rfl⟩)
  · exact m_iret F hQ e_X10_named_15 (⟨h5752, _, rfl⟩)
set_option maxRecDepth 20000 in
theorem lq_X10_heaviest_10 {V : VX} {X : MX} {N : Nat} {σ : Mem} {c T Z u h : Nat} {P : NP} {L : Nat → LQ}   (F : Fx V X yX10_heaviest cX10_heaviest 3 (some .int) (rmd 1 0 0)) (hQ : Rt V X 0 0 N (fun r τ => HS V c (⟨T, Z, u, h, P, L⟩ : RG) [0, 2, 3, 4, 5, 6, 7, 8, 9, 10, 11, 12, 13, 14, 15, 16, 17, 18, 19, 20, 21, 22, 23] σ τ ∧ ∃ x : Int32, r = some (.int x))) (hob : OKB L) (hP : OKP P)   : ∀ (fuel : Nat) (b1 : Int32) (i : Nat) (τ : Mem), HS V c (⟨T, Z, u, h, P, L⟩ : RG) [0, 2, 3, 4, 5, 6, 7, 8, 9, 10, 11, 12, 13, 14, 15, 16, 17, 18, 19, 20, 21, 22, 23] σ τ → i ≤ 4 ∧ (b1 = -2 ∨ ∃ n : Nat, n < P.n0 ∧ b1 = nI n) → 4 - i < fuel → Wm V X 3 N τ 0 0 10 [(0, .ref c), (1, .int b1), (2, .int (nI i))] [] := by
  intro fuel
  induction fuel with
  | zero => intros; rename_i hm; exact absurd hm (Nat.not_lt_zero _)
  | succ fuel ih =>
    intro b1 i τ h1 hi hm
    have hPP := hP
    unfold OKP at hPP
    refine m_iload_n F rfl e_X10_heaviest_10 ?_
    refine m_aload_n F rfl e_X10_heaviest_11 ?_
    refine r_callV F e_X10_heaviest_12 (q_X10_leases (x_l X) V c T Z u h P L _ _  h1.1 (hob) hP ) cb_X10_leases ml_X10_221 im_X10_leases se_X10_leases h1 rfl rfl (rest := [.int (nI i)]) rfl (Nat.le_of_ble_eq_true rfl) ⟨Nat.le_of_ble_eq_true rfl, Nat.le_of_ble_eq_true rfl⟩ ⟨Nat.le_of_ble_eq_true rfl, Nat.le_of_ble_eq_true rfl⟩ (fun r σ5755 hp => ?_)
    obtain ⟨h5756, rfl⟩ := hp
    have h5757 := HS.trans h1 h5756 (by decide)
    refine m_icmp_ge F e_X10_heaviest_15 (fun q15 => ?_) (fun q15 => ?_)
    · have c15 : i ≥ P.n0 := (nI_leI (a := P.n0) (b := i) (by omega) (by omega)).mp q15
      refine m_iload_n F rfl e_X10_heaviest_87 ?_
      exact m_iret F hQ e_X10_heaviest_88 (⟨h5757, _, rfl⟩)
    · have c15 : i < P.n0 := by have hh := mt (nI_leI (a := P.n0) (b := i) (by omega) (by omega)).mpr q15; omega
      refine m_aload_n F rfl e_X10_heaviest_18 ?_
      refine m_iload_n F rfl e_X10_heaviest_19 ?_
      refine r_callV F e_X10_heaviest_20 (q_X10_isOn (x_l X) V c T Z u h P L _ _ i h5757.1 (hob) hP (by omega)) cb_X10_isOn ml_X10_267 im_X10_isOn se_X10_isOn h5757 rfl rfl (rest := []) rfl (Nat.le_of_ble_eq_true rfl) ⟨Nat.le_of_ble_eq_true rfl, Nat.le_of_ble_eq_true rfl⟩ ⟨Nat.le_of_ble_eq_true rfl, Nat.le_of_ble_eq_true rfl⟩ (fun r σ5758 hp => ?_)
      obtain ⟨h5759, c5761⟩ := hp
      have h5760 := HS.trans h5757 h5759 (by decide)
      rcases c5761 with ⟨g5762, rfl⟩ | ⟨g5762, rfl⟩
      · refine m_if_ne F e_X10_heaviest_23 (fun q => absurd (by decide) q) (fun _ => ?_)
        refine m_goto F e_X10_heaviest_26 ?_
        refine m_iinc F (v := nI (i + 1)) (lv' := [(2, .int (nI (i + 1))), (0, .ref c), (1, .int b1)]) e_X10_heaviest_81 rfl (nI_add i 1) (by decide) rfl ?_
        refine m_goto F e_X10_heaviest_84 ?_
        refine Wm.lvsub (lv' := [(0, .ref c), (1, .int b1), (2, .int (nI (i + 1)))]) ?_ [1, 2, 0] rfl
        exact ih b1 (i + 1) _ h5760 ⟨by omega, by first | exact Or.inl rfl | exact Or.inr ⟨_, by omega, rfl⟩ | exact hi.2⟩ (by omega)
      · refine m_if_ne F e_X10_heaviest_23 (fun _ => ?_) (fun q => absurd q (by decide))
        refine m_iload_n F rfl e_X10_heaviest_29 ?_
        refine m_bipush F (v := (-2)) (by decide) e_X10_heaviest_30 ?_
        refine m_icmp_eq F e_X10_heaviest_32 (fun q32 => ?_) (fun q32 => ?_)
        · subst q32
          refine m_iload_n F rfl e_X10_heaviest_79 ?_
          refine m_istore_n F (lv' := [(1, .int (nI i)), (0, .ref c), (2, .int (nI i))]) e_X10_heaviest_80 (by decide) rfl ?_
          refine m_iinc F (v := nI (i + 1)) (lv' := [(2, .int (nI (i + 1))), (1, .int (nI i)), (0, .ref c)]) e_X10_heaviest_81 rfl (nI_add i 1) (by decide) rfl ?_
          refine m_goto F e_X10_heaviest_84 ?_
          refine Wm.lvsub (lv' := [(0, .ref c), (1, .int (nI i)), (2, .int (nI (i + 1)))]) ?_ [2, 1, 0] rfl
          exact ih (nI i) (i + 1) _ h5760 ⟨by omega, by first | exact Or.inl rfl | exact Or.inr ⟨_, by omega, rfl⟩ | exact hi.2⟩ (by omega)
        · rcases hi.2 with e9 | ⟨n5763, hn5763, rfl⟩
          · exact absurd e9 q32
          refine m_aload_n F rfl e_X10_heaviest_35 ?_
          refine r_get F e_X10_heaviest_36 fl_X10_59 h5760 rfl (fun v hv f5764 => ?_)
          obtain rfl : v = .ref (c + 16) := hv
          refine m_sipush F (v := 160) (by decide) e_X10_heaviest_39 ?_
          refine m_iload_n F rfl e_X10_heaviest_42 ?_
          refine m_imul F e_X10_heaviest_43 ?_
          refine Wm.topE (w := nI (160 * i)) (pk_mul 160 i) ?_
          refine m_bipush F (v := 6) (by decide) e_X10_heaviest_44 ?_
          refine m_iadd F e_X10_heaviest_46 ?_
          refine Wm.topE (w := nI (160 * i + 6)) (nI_add (160 * i) 6) ?_
          refine r_sld F (j := 160 * i + 6) e_X10_heaviest_47 h5760 (nI_clamp (by omega)) (vp_in_nI (by omega) (by decide)) (fun x5765 h5766 f5767 => ?_)
          refine m_aload_n F rfl e_X10_heaviest_48 ?_
          refine m_iload_n F rfl e_X10_heaviest_49 ?_
          refine r_callV F e_X10_heaviest_50 (q_X10_left (x_l X) V c T Z u h P L _ _ n5763 h5760.1 (hob) hP (by omega)) cb_X10_left ml_X10_257 im_X10_left se_X10_left h5760 rfl rfl (rest := [.long x5765]) rfl (Nat.le_of_ble_eq_true rfl) ⟨Nat.le_of_ble_eq_true rfl, Nat.le_of_ble_eq_true rfl⟩ ⟨Nat.le_of_ble_eq_true rfl, Nat.le_of_ble_eq_true rfl⟩ (fun r σ5768 hp => ?_)
          obtain ⟨h5769, x5771, rfl⟩ := hp
          have h5770 := HS.trans h5760 h5769 (by decide)
          refine m_i2l F e_X10_heaviest_53 ?_
          refine Wm.topl (fun x5772 _ => ?_)
          refine m_lmul F e_X10_heaviest_54 ?_
          refine Wm.topl (fun x5773 _ => ?_)
          refine m_aload_n F rfl e_X10_heaviest_55 ?_
          refine r_getC F e_X10_heaviest_56 fl_X10_59 h5770 ((fld_eq (h5769.2 c (by rw [show kC c c = 1 from kC_at (k := 0) (by decide)]; decide))).trans f5764) ?_
          refine m_sipush F (v := 160) (by decide) e_X10_heaviest_59 ?_
          refine m_iload_n F rfl e_X10_heaviest_62 ?_
          refine m_imul F e_X10_heaviest_63 ?_
          refine Wm.topE (w := nI (160 * n5763)) (pk_mul 160 n5763) ?_
          refine m_bipush F (v := 6) (by decide) e_X10_heaviest_64 ?_
          refine m_iadd F e_X10_heaviest_66 ?_
          refine Wm.topE (w := nI (160 * n5763 + 6)) (nI_add (160 * n5763) 6) ?_
          refine r_sld F (j := 160 * n5763 + 6) e_X10_heaviest_67 h5770 (nI_clamp (by omega)) (vp_in_nI (by omega) (by decide)) (fun x5774 h5775 f5776 => ?_)
          refine m_aload_n F rfl e_X10_heaviest_68 ?_
          refine m_iload_n F rfl e_X10_heaviest_69 ?_
          refine r_callV F e_X10_heaviest_70 (q_X10_left (x_l X) V c T Z u h P L _ _ i h5770.1 (hob) hP (by omega)) cb_X10_left ml_X10_257 im_X10_left se_X10_left h5770 rfl rfl (rest := [.long x5774, .long x5773]) rfl (Nat.le_of_ble_eq_true rfl) ⟨Nat.le_of_ble_eq_true rfl, Nat.le_of_ble_eq_true rfl⟩ ⟨Nat.le_of_ble_eq_true rfl, Nat.le_of_ble_eq_true rfl⟩ (fun r σ5777 hp => ?_)
          obtain ⟨h5778, x5780, rfl⟩ := hp
          have h5779 := HS.trans h5770 h5778 (by decide)
          refine m_i2l F e_X10_heaviest_73 ?_
          refine Wm.topl (fun x5781 _ => ?_)
          refine m_lmul F e_X10_heaviest_74 ?_
          refine Wm.topl (fun x5782 _ => ?_)
          refine m_lcmp F e_X10_heaviest_75 ?_
          refine Wm.top (fun x5783 _ => ?_)
          refine m_if_le F e_X10_heaviest_76 (fun q76 => ?_) (fun q76 => ?_)
          · refine m_iinc F (v := nI (i + 1)) (lv' := [(2, .int (nI (i + 1))), (0, .ref c), (1, .int (nI n5763))]) e_X10_heaviest_81 rfl (nI_add i 1) (by decide) rfl ?_
            refine m_goto F e_X10_heaviest_84 ?_
            refine Wm.lvsub (lv' := [(0, .ref c), (1, .int (nI n5763)), (2, .int (nI (i + 1)))]) ?_ [1, 2, 0] rfl
            exact ih (nI n5763) (i + 1) _ h5779 ⟨by omega, by first | exact Or.inl rfl | exact Or.inr ⟨_, by omega, rfl⟩ | exact hi.2⟩ (by omega)
          · obtain ⟨n5784, hn5784, rfl⟩ := nI_nn (x := x5783) (fun e => q76 (Int32.le_trans (Int32.le_of_lt e) (by decide)))
            have c76 : n5784 > 0 := by have hh := mt (nI_leI (a := n5784) (b := 0) (by omega) (by omega)).mpr q76; omega
            refine m_iload_n F rfl e_X10_heaviest_79 ?_
            refine m_istore_n F (lv' := [(1, .int (nI i)), (0, .ref c), (2, .int (nI i))]) e_X10_heaviest_80 (by decide) rfl ?_
            refine m_iinc F (v := nI (i + 1)) (lv' := [(2, .int (nI (i + 1))), (1, .int (nI i)), (0, .ref c)]) e_X10_heaviest_81 rfl (nI_add i 1) (by decide) rfl ?_
            refine m_goto F e_X10_heaviest_84 ?_
            refine Wm.lvsub (lv' := [(0, .ref c), (1, .int (nI i)), (2, .int (nI (i + 1)))]) ?_ [2, 1, 0] rfl
            exact ih (nI i) (i + 1) _ h5779 ⟨by omega, by first | exact Or.inl rfl | exact Or.inr ⟨_, by omega, rfl⟩ | exact hi.2⟩ (by omega)
set_option maxRecDepth 20000 in
theorem q_X10_heaviest (l : Launch) (V : VX) (c T Z u h : Nat) (P : NP) (L : Nat → LQ) (N : Nat) (σ : Mem)  (h0 : HR V c ⟨T, Z, u, h, P, L⟩ σ) (hob : OKB L) (hP : OKP P)  : Ct l V yX10_heaviest cX10_heaviest 3 (some .int) 1 0 0 N σ [.ref c] (fun r τ => HS V c (⟨T, Z, u, h, P, L⟩ : RG) [0, 2, 3, 4, 5, 6, 7, 8, 9, 10, 11, 12, 13, 14, 15, 16, 17, 18, 19, 20, 21, 22, 23] σ τ ∧ ∃ x : Int32, r = some (.int x)) := by
  refine Ct.of (by decide) (Nat.le_of_ble_eq_true rfl) [(0, .ref c)] rfl (fun X hX F hQ => ?_)
  have hPP := hP
  unfold OKP at hPP
  have h1 : HS V c ⟨T, Z, u, h, P, L⟩ [0, 2, 3, 4, 5, 6, 7, 8, 9, 10, 11, 12, 13, 14, 15, 16, 17, 18, 19, 20, 21, 22, 23] σ σ := HS.start h0
  refine m_aload_n F rfl e_X10_heaviest_0 ?_
  refine m_iconst F (v := 0) (by decide) e_X10_heaviest_1 ?_
  refine r_put F (g' := (⟨T, Z, u, h, P, L⟩ : RG)) e_X10_heaviest_2 fp_X10_91 h1 (by decide) ⟨_, rfl⟩ (fun _ _ _ _ q => q) (fun _ _ _ q => q) rfl rfl (by decide) (fun σ5785 h5786 g5787 g5788 f5789 => ?_)
  refine m_bipush F (v := (-2)) (by decide) e_X10_heaviest_5 ?_
  refine m_istore_n F (lv' := [(1, .int (-2)), (0, .ref c)]) e_X10_heaviest_7 (by decide) rfl ?_
  refine m_iconst F (v := 0) (by decide) e_X10_heaviest_8 ?_
  refine m_istore_n F (lv' := [(2, .int 0), (1, .int (-2)), (0, .ref c)]) e_X10_heaviest_9 (by decide) rfl ?_
  refine Wm.lvsub (lv' := [(0, .ref c), (1, .int (-2)), (2, .int 0)]) ?_ [2, 1, 0] rfl
  exact lq_X10_heaviest_10 F hQ hob hP  (4 - 0 + 1) (-2) 0 _ h5786 ⟨by omega, Or.inl rfl⟩ (Nat.lt_succ_self _)
