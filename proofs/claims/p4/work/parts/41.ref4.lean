set_option maxRecDepth 20000 in
theorem lq_X10_rateFor_25 {V : VX} {X : MX} {N : Nat} {σ : Mem} {c T Z u h : Nat} {P : NP} {L : Nat → LQ}  {n901 : Nat} {n902 : Nat} {x903 : Int64} (F : Fx V X yX10_rateFor cX10_rateFor 8 (some .int) (rmd 2 0 0)) (hQ : Rt V X 0 0 N (fun r τ => HS V c (⟨T, Z, u, h, P, L⟩ : RG) [0, 1, 2, 3, 4, 5, 6, 7, 8, 9, 10, 11, 12, 13, 14, 15, 16, 17, 18, 19, 20, 21, 22, 23] σ τ ∧ (r = some (.int (-2)) ∨ ∃ n : Nat, n ≤ 200000 ∧ r = some (.int (nI n))))) (hob : OKB L) (hP : OKP P) (hn901 : n901 ≤ 3) (hn902 : n902 ≤ 72) (hp0 : 1 ≤ n902)  : ∀ (fuel : Nat) (a : Nat) (b : Nat) (τ : Mem), HS V c (⟨T, Z, u, h, P, L⟩ : RG) [0, 1, 2, 3, 4, 5, 6, 7, 8, 9, 10, 11, 12, 13, 14, 15, 16, 17, 18, 19, 20, 21, 22, 23] σ τ → a ≤ b ∧ b ≤ 200000 → b - a < fuel → Wm V X 8 N τ 0 0 25 [(0, .ref c), (1, .int (nI n901)), (2, .int (nI n902)), (3, .long x903), (5, .int (nI a)), (6, .int (nI b))] [] := by
  intro fuel
  induction fuel with
  | zero => intros; rename_i hm; exact absurd hm (Nat.not_lt_zero _)
  | succ fuel ih =>
    intro a b τ h1 hi hm
    have hPP := hP
    unfold OKP at hPP
    refine m_iload F rfl e_X10_rateFor_25 ?_
    refine m_iload F rfl e_X10_rateFor_27 ?_
    refine m_icmp_ge F e_X10_rateFor_29 (fun q29 => ?_) (fun q29 => ?_)
    · have c29 : a ≥ b := (nI_leI (a := b) (b := a) (by omega) (by omega)).mp q29
      refine m_iload F rfl e_X10_rateFor_76 ?_
      exact m_iret F hQ e_X10_rateFor_78 (⟨h1, Or.inr ⟨a, by omega, rfl⟩⟩)
    · have c29 : a < b := by have hh := mt (nI_leI (a := b) (b := a) (by omega) (by omega)).mpr q29; omega
      refine m_iload F rfl e_X10_rateFor_32 ?_
      refine m_iload F rfl e_X10_rateFor_34 ?_
      refine m_iadd F e_X10_rateFor_36 ?_
      refine Wm.topE (w := nI (a + b)) (nI_add a b) ?_
      refine m_iconst F (v := 1) (by decide) e_X10_rateFor_37 ?_
      refine m_iadd F e_X10_rateFor_38 ?_
      refine Wm.topE (w := nI (a + b + 1)) (nI_add (a + b) 1) ?_
      refine m_iconst F (v := 2) (by decide) e_X10_rateFor_39 ?_
      refine m_idiv F (by decide) e_X10_rateFor_40 ?_
      refine Wm.topE (w := nI ((a + b + 1) / 2)) (pk_div (a := a + b + 1) (d := 2) (by omega) (by decide) (by decide)) ?_
      refine m_istore F (lv' := [(7, .int (nI ((a + b + 1) / 2))), (0, .ref c), (1, .int (nI n901)), (2, .int (nI n902)), (3, .long x903), (5, .int (nI a)), (6, .int (nI b))]) e_X10_rateFor_41 (by decide) rfl ?_
      refine m_aload_n F rfl e_X10_rateFor_43 ?_
      refine m_iload_n F rfl e_X10_rateFor_44 ?_
      refine m_iload_n F rfl e_X10_rateFor_45 ?_
      refine m_iload F rfl e_X10_rateFor_46 ?_
      refine m_i2l F e_X10_rateFor_48 ?_
      refine Wm.toplE (w := lN ((a + b + 1) / 2)) (nI_l (by omega)) ?_
      refine m_ldc2 F kc_X10_245 e_X10_rateFor_49 ?_
      refine r_callV F e_X10_rateFor_52 (q_X10_worthBy (x_l X) V c T Z u h P L _ _ n901 n902 ((a + b + 1) / 2) (-1) h1.1 (hob) hP (by omega) (by omega) (by omega) (by first | omega | assumption | decide)) cb_X10_worthBy ml_X10_247 im_X10_worthBy se_X10_worthBy h1 rfl rfl (rest := []) rfl (Nat.le_of_ble_eq_true rfl) ⟨Nat.le_of_ble_eq_true rfl, Nat.le_of_ble_eq_true rfl⟩ ⟨Nat.le_of_ble_eq_true rfl, Nat.le_of_ble_eq_true rfl⟩ (fun r σ5551 hp => ?_)
      obtain ⟨h5552, x5554, rfl⟩ := hp
      have h5553 := HS.trans h1 h5552 (by decide)
      refine m_lload_n F rfl e_X10_rateFor_55 ?_
      refine m_lcmp F e_X10_rateFor_56 ?_
      refine Wm.top (fun x5555 _ => ?_)
      refine m_if_lt F e_X10_rateFor_57 (fun q57 => ?_) (fun q57 => ?_)
      · refine m_iload F rfl e_X10_rateFor_67 ?_
        refine m_iconst F (v := 1) (by decide) e_X10_rateFor_69 ?_
        refine m_isub F e_X10_rateFor_70 ?_
        refine Wm.topE (w := nI (((a + b + 1) / 2) - 1)) (pk_sub (a := (a + b + 1) / 2) (b := 1) (by omega)) ?_
        refine m_istore F (lv' := [(6, .int (nI (((a + b + 1) / 2) - 1))), (7, .int (nI ((a + b + 1) / 2))), (0, .ref c), (1, .int (nI n901)), (2, .int (nI n902)), (3, .long x903), (5, .int (nI a))]) e_X10_rateFor_71 (by decide) rfl ?_
        refine m_goto F e_X10_rateFor_73 ?_
        refine Wm.lvsub (lv' := [(0, .ref c), (1, .int (nI n901)), (2, .int (nI n902)), (3, .long x903), (5, .int (nI a)), (6, .int (nI (((a + b + 1) / 2) - 1)))]) ?_ [2, 3, 4, 5, 6, 0] rfl
        exact ih a (((a + b + 1) / 2) - 1) _ h5553 (by omega) (by omega)
      · obtain ⟨n5556, hn5556, rfl⟩ := nI_nn (x := x5555) (fun e => q57 (Int32.lt_of_lt_of_le e (by decide)))
        have c57 : n5556 ≥ 0 := by have hh := mt (nI_ltI (a := n5556) (b := 0) (by omega) (by omega)).mpr q57; omega
        refine m_iload F rfl e_X10_rateFor_60 ?_
        refine m_istore F (lv' := [(5, .int (nI ((a + b + 1) / 2))), (7, .int (nI ((a + b + 1) / 2))), (0, .ref c), (1, .int (nI n901)), (2, .int (nI n902)), (3, .long x903), (6, .int (nI b))]) e_X10_rateFor_62 (by decide) rfl ?_
        refine m_goto F e_X10_rateFor_64 ?_
        refine m_goto F e_X10_rateFor_73 ?_
        refine Wm.lvsub (lv' := [(0, .ref c), (1, .int (nI n901)), (2, .int (nI n902)), (3, .long x903), (5, .int (nI ((a + b + 1) / 2))), (6, .int (nI b))]) ?_ [2, 3, 4, 5, 0, 6] rfl
        exact ih ((a + b + 1) / 2) b _ h5553 (by omega) (by omega)
set_option maxRecDepth 20000 in
theorem q_X10_rateFor (l : Launch) (V : VX) (c T Z u h : Nat) (P : NP) (L : Nat → LQ) (N : Nat) (σ : Mem) (n901 : Nat) (n902 : Nat) (x903 : Int64) (h0 : HR V c ⟨T, Z, u, h, P, L⟩ σ) (hob : OKB L) (hP : OKP P) (hn901 : n901 ≤ 3) (hn902 : n902 ≤ 72) (hp0 : 1 ≤ n902) : Ct l V yX10_rateFor cX10_rateFor 8 (some .int) 2 0 0 N σ [.ref c, .int (nI n901), .int (nI n902), .long x903] (fun r τ => HS V c (⟨T, Z, u, h, P, L⟩ : RG) [0, 1, 2, 3, 4, 5, 6, 7, 8, 9, 10, 11, 12, 13, 14, 15, 16, 17, 18, 19, 20, 21, 22, 23] σ τ ∧ (r = some (.int (-2)) ∨ ∃ n : Nat, n ≤ 200000 ∧ r = some (.int (nI n)))) := by
  refine Ct.of (by decide) (Nat.le_of_ble_eq_true rfl) [(0, .ref c), (1, .int (nI n901)), (2, .int (nI n902)), (3, .long x903)] rfl (fun X hX F hQ => ?_)
  have hPP := hP
  unfold OKP at hPP
  have h1 : HS V c ⟨T, Z, u, h, P, L⟩ [0, 1, 2, 3, 4, 5, 6, 7, 8, 9, 10, 11, 12, 13, 14, 15, 16, 17, 18, 19, 20, 21, 22, 23] σ σ := HS.start h0
  refine m_aload_n F rfl e_X10_rateFor_0 ?_
  refine m_iload_n F rfl e_X10_rateFor_1 ?_
  refine m_iload_n F rfl e_X10_rateFor_2 ?_
  refine m_lconst F (v := 0) (by decide) e_X10_rateFor_3 ?_
  refine m_ldc2 F kc_X10_245 e_X10_rateFor_4 ?_
  refine r_callV F e_X10_rateFor_7 (q_X10_worthBy (x_l X) V c T Z u h P L _ _ n901 n902 0 (-1) h1.1 (hob) hP (by omega) (by omega) (by omega) (by first | omega | assumption | decide)) cb_X10_worthBy ml_X10_247 im_X10_worthBy se_X10_worthBy h1 rfl rfl (rest := []) rfl (Nat.le_of_ble_eq_true rfl) ⟨Nat.le_of_ble_eq_true rfl, Nat.le_of_ble_eq_true rfl⟩ ⟨Nat.le_of_ble_eq_true rfl, Nat.le_of_ble_eq_true rfl⟩ (fun r σ5557 hp => ?_)
  obtain ⟨h5558, x5560, rfl⟩ := hp
  have h5559 := HS.trans h1 h5558 (by decide)
  refine m_lload_n F rfl e_X10_rateFor_10 ?_
  refine m_lcmp F e_X10_rateFor_11 ?_
  refine Wm.top (fun x5561 _ => ?_)
  refine m_if_ge F e_X10_rateFor_12 (fun q12 => ?_) (fun q12 => ?_)
  · obtain ⟨n5562, hn5562, rfl⟩ := nI_nn (x := x5561) (fun e => Int32.lt_irrefl (Int32.lt_of_lt_of_le e (Int32.le_trans (by decide) q12)))
    have c12 : n5562 ≥ 0 := (nI_leI (a := 0) (b := n5562) (by omega) (by omega)).mp q12
    refine m_iconst F (v := 0) (by decide) e_X10_rateFor_18 ?_
    refine m_istore F (lv' := [(5, .int 0), (0, .ref c), (1, .int (nI n901)), (2, .int (nI n902)), (3, .long x903)]) e_X10_rateFor_19 (by decide) rfl ?_
    refine m_ldc F kc_X10_169 e_X10_rateFor_21 ?_
    refine m_istore F (lv' := [(6, .int 200000), (5, .int 0), (0, .ref c), (1, .int (nI n901)), (2, .int (nI n902)), (3, .long x903)]) e_X10_rateFor_23 (by decide) rfl ?_
    refine Wm.lvsub (lv' := [(0, .ref c), (1, .int (nI n901)), (2, .int (nI n902)), (3, .long x903), (5, .int 0), (6, .int 200000)]) ?_ [2, 3, 4, 5, 1, 0] rfl
    exact lq_X10_rateFor_25 F hQ hob hP hn901 hn902 hp0 (200000 - 0 + 1) 0 200000 _ h5559 (by omega) (Nat.lt_succ_self _)
  · refine m_bipush F (v := (-2)) (by decide) e_X10_rateFor_15 ?_
    exact m_iret F hQ e_X10_rateFor_17 (⟨h5559, Or.inl rfl⟩)
set_option maxRecDepth 20000 in
theorem q_X10_due (l : Launch) (V : VX) (c T Z u h : Nat) (P : NP) (L : Nat → LQ) (N : Nat) (σ : Mem) (x901 : Int32) (x902 : Int32) (h0 : HR V c ⟨T, Z, u, h, P, L⟩ σ) (hob : OKB L) (hP : OKP P)  : Ct l V yX10_due cX10_due 3 (some .long) 3 0 0 N σ [.ref c, .int x901, .int x902] (fun r τ => HS V c (⟨T, Z, u, h, P, L⟩ : RG) [0, 2, 3, 4, 5, 6, 7, 8, 9, 10, 11, 12, 13, 14, 15, 16, 17, 18, 19, 20, 21, 22, 23] σ τ ∧ ∃ x : Int64, r = some (.long x)) := by
  refine Ct.of (by decide) (Nat.le_of_ble_eq_true rfl) [(0, .ref c), (1, .int x901), (2, .int x902)] rfl (fun X hX F hQ => ?_)
  have hPP := hP
  unfold OKP at hPP
  have h1 : HS V c ⟨T, Z, u, h, P, L⟩ [0, 2, 3, 4, 5, 6, 7, 8, 9, 10, 11, 12, 13, 14, 15, 16, 17, 18, 19, 20, 21, 22, 23] σ σ := HS.start h0
  refine m_aload_n F rfl e_X10_due_0 ?_
  refine m_iconst F (v := 0) (by decide) e_X10_due_1 ?_
  refine r_put F (g' := (⟨T, Z, u, h, P, L⟩ : RG)) e_X10_due_2 fp_X10_91 h1 (by decide) ⟨_, rfl⟩ (fun _ _ _ _ q => q) (fun _ _ _ q => q) rfl rfl (by decide) (fun σ5563 h5564 g5565 g5566 f5567 => ?_)
  refine m_aload_n F rfl e_X10_due_5 ?_
  refine m_iload_n F rfl e_X10_due_6 ?_
  refine m_iload_n F rfl e_X10_due_7 ?_
  refine r_callV F e_X10_due_8 (q_X10_isOwn (x_l X) V c T Z u h P L _ _ x901 x902 h5564.1 (hob) hP ) cb_X10_isOwn ml_X10_295 im_X10_isOwn se_X10_isOwn h5564 rfl rfl (rest := []) rfl (Nat.le_of_ble_eq_true rfl) ⟨Nat.le_of_ble_eq_true rfl, Nat.le_of_ble_eq_true rfl⟩ ⟨Nat.le_of_ble_eq_true rfl, Nat.le_of_ble_eq_true rfl⟩ (fun r σ5568 hp => ?_)
  obtain ⟨h5569, c5571⟩ := hp
  have h5570 := HS.trans h5564 h5569 (by decide)
  rcases c5571 with rfl | ⟨n5572, n5573, h5574, h5575, h5576, e5577, e5578, rfl⟩
  · refine m_if_eq F e_X10_due_11 (fun _ => ?_) (fun q => absurd (by decide) q)
    refine m_ldc2 F kc_X10_245 e_X10_due_34 ?_
    exact m_lret F hQ e_X10_due_37 (⟨h5570, _, rfl⟩)
  · subst e5577
    subst e5578
    refine m_if_eq F e_X10_due_11 (fun q => absurd q (by decide)) (fun _ => ?_)
    have hl5579 := (hob).2 n5572 (by omega)
    have hl5580 := (hob).2 n5572 (by omega)
    have hl5581 := (hob).2 n5572 (by omega)
    refine m_aload_n F rfl e_X10_due_14 ?_
    refine r_get F e_X10_due_15 fl_X10_59 h5570 rfl (fun v hv f5582 => ?_)
    obtain rfl : v = .ref (c + 16) := hv
    refine m_sipush F (v := 160) (by decide) e_X10_due_18 ?_
    refine m_iload_n F rfl e_X10_due_21 ?_
    refine m_imul F e_X10_due_22 ?_
    refine Wm.topE (w := nI (160 * n5572)) (pk_mul 160 n5572) ?_
    refine m_bipush F (v := 13) (by decide) e_X10_due_23 ?_
    refine m_iadd F e_X10_due_25 ?_
    refine Wm.topE (w := nI (160 * n5572 + 13)) (nI_add (160 * n5572) 13) ?_
    refine m_iload_n F rfl e_X10_due_26 ?_
    refine m_iadd F e_X10_due_27 ?_
    refine Wm.topE (w := nI ((160 * n5572 + 13) + n5573)) (nI_add (160 * n5572 + 13) n5573) ?_
    refine m_iconst F (v := 1) (by decide) e_X10_due_28 ?_
    refine m_isub F e_X10_due_29 ?_
    refine Wm.topE (w := nI (((160 * n5572 + 13) + n5573) - 1)) (pk_sub (a := (160 * n5572 + 13) + n5573) (b := 1) (by omega)) ?_
    refine r_sld F (j := ((160 * n5572 + 13) + n5573) - 1) e_X10_due_30 h5570 (nI_clamp (by omega)) (vp_in_nI (by omega) (by decide)) (fun x5583 h5584 f5585 => ?_)
    refine m_goto F e_X10_due_31 ?_
    exact m_lret F hQ e_X10_due_37 (⟨h5570, _, rfl⟩)
set_option maxRecDepth 20000 in
theorem q_X10_worth (l : Launch) (V : VX) (c T Z u h : Nat) (P : NP) (L : Nat → LQ) (N : Nat) (σ : Mem) (x901 : Int32) (x902 : Int32) (x903 : Int32) (h0 : HR V c ⟨T, Z, u, h, P, L⟩ σ) (hob : OKB L) (hP : OKP P)  : Ct l V yX10_worth cX10_worth 4 (some .long) 3 0 0 N σ [.ref c, .int x901, .int x902, .int x903] (fun r τ => HS V c (⟨T, Z, u, h, P, L⟩ : RG) [0, 2, 3, 4, 5, 6, 7, 8, 9, 10, 11, 12, 13, 14, 15, 16, 17, 18, 19, 20, 21, 22, 23] σ τ ∧ ∃ x : Int64, r = some (.long x)) := by
  refine Ct.of (by decide) (Nat.le_of_ble_eq_true rfl) [(0, .ref c), (1, .int x901), (2, .int x902), (3, .int x903)] rfl (fun X hX F hQ => ?_)
  have hPP := hP
  unfold OKP at hPP
  have h1 : HS V c ⟨T, Z, u, h, P, L⟩ [0, 2, 3, 4, 5, 6, 7, 8, 9, 10, 11, 12, 13, 14, 15, 16, 17, 18, 19, 20, 21, 22, 23] σ σ := HS.start h0
  refine m_aload_n F rfl e_X10_worth_0 ?_
  refine m_iconst F (v := 0) (by decide) e_X10_worth_1 ?_
  refine r_put F (g' := (⟨T, Z, u, h, P, L⟩ : RG)) e_X10_worth_2 fp_X10_91 h1 (by decide) ⟨_, rfl⟩ (fun _ _ _ _ q => q) (fun _ _ _ q => q) rfl rfl (by decide) (fun σ5586 h5587 g5588 g5589 f5590 => ?_)
  refine m_aload_n F rfl e_X10_worth_5 ?_
  refine m_iload_n F rfl e_X10_worth_6 ?_
  refine m_iload_n F rfl e_X10_worth_7 ?_
  refine r_callV F e_X10_worth_8 (q_X10_isOwn (x_l X) V c T Z u h P L _ _ x901 x902 h5587.1 (hob) hP ) cb_X10_isOwn ml_X10_295 im_X10_isOwn se_X10_isOwn h5587 rfl rfl (rest := []) rfl (Nat.le_of_ble_eq_true rfl) ⟨Nat.le_of_ble_eq_true rfl, Nat.le_of_ble_eq_true rfl⟩ ⟨Nat.le_of_ble_eq_true rfl, Nat.le_of_ble_eq_true rfl⟩ (fun r σ5591 hp => ?_)
  obtain ⟨h5592, c5594⟩ := hp
  have h5593 := HS.trans h5587 h5592 (by decide)
  rcases c5594 with rfl | ⟨n5595, n5596, h5597, h5598, h5599, e5600, e5601, rfl⟩
  · refine m_if_eq F e_X10_worth_11 (fun _ => ?_) (fun q => absurd (by decide) q)
    refine m_ldc2 F kc_X10_245 e_X10_worth_41 ?_
    exact m_lret F hQ e_X10_worth_44 (⟨h5593, _, rfl⟩)
  · subst e5600
    subst e5601
    refine m_if_eq F e_X10_worth_11 (fun q => absurd q (by decide)) (fun _ => ?_)
    have hl5602 := (hob).2 n5595 (by omega)
    have hl5603 := (hob).2 n5595 (by omega)
    have hl5604 := (hob).2 n5595 (by omega)
    refine m_iload_n F rfl e_X10_worth_14 ?_
    refine m_if_lt F e_X10_worth_15 (fun q15 => ?_) (fun q15 => ?_)
    · refine m_ldc2 F kc_X10_245 e_X10_worth_41 ?_
      exact m_lret F hQ e_X10_worth_44 (⟨h5593, _, rfl⟩)
    · obtain ⟨n5605, hn5605, rfl⟩ := nI_nn (x := x903) (fun e => q15 (Int32.lt_of_lt_of_le e (by decide)))
      have c15 : n5605 ≥ 0 := by have hh := mt (nI_ltI (a := n5605) (b := 0) (by omega) (by omega)).mpr q15; omega
      refine m_iload_n F rfl e_X10_worth_18 ?_
      refine m_i2l F e_X10_worth_19 ?_
      refine Wm.toplE (w := lN n5605) (nI_l (by omega)) ?_
      refine m_ldc2 F kc_X10_239 e_X10_worth_20 ?_
      refine m_lcmp F e_X10_worth_23 ?_
      refine m_if_gt F e_X10_worth_24 (fun q24 => ?_) (fun q24 => ?_)
      · have c24 : n5605 > 1000000 := (lN_lt (a := 1000000) (b := n5605) (by omega) (by omega)).mp ((lg_cmp_gt _ _).mp q24)
        refine m_ldc2 F kc_X10_245 e_X10_worth_41 ?_
        exact m_lret F hQ e_X10_worth_44 (⟨h5593, _, rfl⟩)
      · have c24 : n5605 ≤ 1000000 := by have hh := mt (fun h9 => (lg_cmp_gt (lN n5605) (lN 1000000)).mpr ((lN_lt (a := 1000000) (b := n5605) (by omega) (by omega)).mpr h9)) q24; omega
        refine m_aload_n F rfl e_X10_worth_27 ?_
        refine m_iload_n F rfl e_X10_worth_28 ?_
        refine m_iload_n F rfl e_X10_worth_29 ?_
        refine m_iload_n F rfl e_X10_worth_30 ?_
        refine m_i2l F e_X10_worth_31 ?_
        refine Wm.toplE (w := lN n5605) (nI_l (by omega)) ?_
        refine m_ldc2 F kc_X10_245 e_X10_worth_32 ?_
        refine r_callV F e_X10_worth_35 (q_X10_worthBy (x_l X) V c T Z u h P L _ _ n5595 n5596 n5605 (-1) h5593.1 (hob) hP (by omega) (by omega) (by omega) (by first | omega | assumption | decide)) cb_X10_worthBy ml_X10_247 im_X10_worthBy se_X10_worthBy h5593 rfl rfl (rest := []) rfl (Nat.le_of_ble_eq_true rfl) ⟨Nat.le_of_ble_eq_true rfl, Nat.le_of_ble_eq_true rfl⟩ ⟨Nat.le_of_ble_eq_true rfl, Nat.le_of_ble_eq_true rfl⟩ (fun r σ5606 hp => ?_)
        obtain ⟨h5607, x5609, rfl⟩ := hp
        have h5608 := HS.trans h5593 h5607 (by decide)
        refine m_goto F e_X10_worth_38 ?_
        exact m_lret F hQ e_X10_worth_44 (⟨h5608, _, rfl⟩)
set_option maxRecDepth 20000 in
theorem q_X10_entry_ (l : Launch) (V : VX) (c T Z u h : Nat) (P : NP) (L : Nat → LQ) (N : Nat) (σ : Mem) (x901 : Int32) (x902 : Int32) (h0 : HR V c ⟨T, Z, u, h, P, L⟩ σ) (hob : OKB L) (hP : OKP P)  : Ct l V yX10_entry_ cX10_entry_ 3 (some .long) 0 0 0 N σ [.ref c, .int x901, .int x902] (fun r τ => HS V c (⟨T, Z, u, h, P, L⟩ : RG) [0, 2, 3, 4, 5, 6, 7, 8, 9, 10, 11, 12, 13, 14, 15, 16, 17, 18, 19, 20, 21, 22, 23] σ τ ∧ ∃ x : Int64, r = some (.long x)) := by
  refine Ct.of (by decide) (Nat.le_of_ble_eq_true rfl) [(0, .ref c), (1, .int x901), (2, .int x902)] rfl (fun X hX F hQ => ?_)
  have hPP := hP
  unfold OKP at hPP
  have h1 : HS V c ⟨T, Z, u, h, P, L⟩ [0, 2, 3, 4, 5, 6, 7, 8, 9, 10, 11, 12, 13, 14, 15, 16, 17, 18, 19, 20, 21, 22, 23] σ σ := HS.start h0
  refine m_aload_n F rfl e_X10_entry__0 ?_
  refine m_iconst F (v := 0) (by decide) e_X10_entry__1 ?_
  refine r_put F (g' := (⟨T, Z, u, h, P, L⟩ : RG)) e_X10_entry__2 fp_X10_91 h1 (by decide) ⟨_, rfl⟩ (fun _ _ _ _ q => q) (fun _ _ _ q => q) rfl rfl (by decide) (fun σ5610 h5611 g5612 g5613 f5614 => ?_)
  refine m_iload_n F rfl e_X10_entry__5 ?_
  refine m_if_lt F e_X10_entry__6 (fun q6 => ?_) (fun q6 => ?_)
  · refine m_ldc2 F kc_X10_299 e_X10_entry__23 ?_
    exact m_lret F hQ e_X10_entry__26 (⟨h5611, _, rfl⟩)
  · obtain ⟨n5615, hn5615, rfl⟩ := nI_nn (x := x901) (fun e => q6 (Int32.lt_of_lt_of_le e (by decide)))
    have c6 : n5615 ≥ 0 := by have hh := mt (nI_ltI (a := n5615) (b := 0) (by omega) (by omega)).mpr q6; omega
    refine m_iload_n F rfl e_X10_entry__9 ?_
    refine m_i2l F e_X10_entry__10 ?_
    refine Wm.toplE (w := lN n5615) (nI_l (by omega)) ?_
    refine m_aload_n F rfl e_X10_entry__11 ?_
    refine r_get F e_X10_entry__12 fl_X10_59 h5611 rfl (fun v hv f5616 => ?_)
    obtain rfl : v = .ref (c + 16) := hv
    refine m_sipush F (v := 751) (by decide) e_X10_entry__15 ?_
    refine r_sld F (j := 751) e_X10_entry__18 h5611 (by decide) (by unfold vp_in; decide) (fun x5617 h5618 f5619 => ?_)
    obtain ⟨n5620, hn5620, rfl⟩ := EJ_m.mp h5618
    refine m_lcmp F e_X10_entry__19 ?_
    refine m_if_lt F e_X10_entry__20 (fun q20 => ?_) (fun q20 => ?_)
    · have c20 : n5615 < n5620 := (lN_lt (a := n5615) (b := n5620) (by omega) (by omega)).mp ((lg_cmp_lt _ _).mp q20)
      refine m_iload_n F rfl e_X10_entry__27 ?_
      refine m_if_lt F e_X10_entry__28 (fun q28 => ?_) (fun q28 => ?_)
      · refine m_iload_n F rfl e_X10_entry__52 ?_
        refine m_bipush F (v := 10) (by decide) e_X10_entry__53 ?_
        refine m_icmp_lt F e_X10_entry__55 (fun q55 => ?_) (fun q55 => ?_)
        · refine m_ldc2 F kc_X10_299 e_X10_entry__85 ?_
          exact m_lret F hQ e_X10_entry__88 (⟨h5611, _, rfl⟩)
        · obtain ⟨n5621, hn5621, rfl⟩ := nI_nn (x := x902) (fun e => q55 (Int32.lt_of_lt_of_le e (by decide)))
          have c55 : n5621 ≥ 10 := by have hh := mt (nI_ltI (a := n5621) (b := 10) (by omega) (by omega)).mpr q55; omega
          refine m_iload_n F rfl e_X10_entry__58 ?_
          refine m_bipush F (v := 16) (by decide) e_X10_entry__59 ?_
          refine m_icmp_ge F e_X10_entry__61 (fun q61 => ?_) (fun q61 => ?_)
          · have c61 : n5621 ≥ 16 := (nI_leI (a := 16) (b := n5621) (by omega) (by omega)).mp q61
            refine m_ldc2 F kc_X10_299 e_X10_entry__85 ?_
            exact m_lret F hQ e_X10_entry__88 (⟨h5611, _, rfl⟩)
          · have c61 : n5621 < 16 := by have hh := mt (nI_leI (a := 16) (b := n5621) (by omega) (by omega)).mpr q61; omega
            refine m_aload_n F rfl e_X10_entry__64 ?_
            refine r_getC F e_X10_entry__65 fl_X10_59 h5611 (f5616) ?_
            refine m_sipush F (v := 753) (by decide) e_X10_entry__68 ?_
            refine m_bipush F (v := 9) (by decide) e_X10_entry__71 ?_
            refine m_iload_n F rfl e_X10_entry__73 ?_
            refine m_imul F e_X10_entry__74 ?_
            refine Wm.topE (w := nI (9 * n5615)) (pk_mul 9 n5615) ?_
            refine m_iadd F e_X10_entry__75 ?_
            refine Wm.topE (w := nI (753 + 9 * n5615)) (nI_add 753 (9 * n5615)) ?_
            refine m_iload_n F rfl e_X10_entry__76 ?_
            refine m_iadd F e_X10_entry__77 ?_
            refine Wm.topE (w := nI ((753 + 9 * n5615) + n5621)) (nI_add (753 + 9 * n5615) n5621) ?_
            refine m_bipush F (v := 7) (by decide) e_X10_entry__78 ?_
            refine m_isub F e_X10_entry__80 ?_
            refine Wm.topE (w := nI (((753 + 9 * n5615) + n5621) - 7)) (pk_sub (a := (753 + 9 * n5615) + n5621) (b := 7) (by omega)) ?_
            refine r_sld F (j := ((753 + 9 * n5615) + n5621) - 7) e_X10_entry__81 h5611 (nI_clamp (by omega)) (vp_in_nI (by omega) (by decide)) (fun x5622 h5623 f5624 => ?_)
            refine m_goto F e_X10_entry__82 ?_
            exact m_lret F hQ e_X10_entry__88 (⟨h5611, _, rfl⟩)
      · obtain ⟨n5625, hn5625, rfl⟩ := nI_nn (x := x902) (fun e => q28 (Int32.lt_of_lt_of_le e (by decide)))
        have c28 : n5625 ≥ 0 := by have hh := mt (nI_ltI (a := n5625) (b := 0) (by omega) (by omega)).mpr q28; omega
        refine m_iload_n F rfl e_X10_entry__31 ?_
        refine m_iconst F (v := 3) (by decide) e_X10_entry__32 ?_
        refine m_icmp_ge F e_X10_entry__33 (fun q33 => ?_) (fun q33 => ?_)
        · have c33 : n5625 ≥ 3 := (nI_leI (a := 3) (b := n5625) (by omega) (by omega)).mp q33
          refine m_iload_n F rfl e_X10_entry__52 ?_
          refine m_bipush F (v := 10) (by decide) e_X10_entry__53 ?_
          refine m_icmp_lt F e_X10_entry__55 (fun q55 => ?_) (fun q55 => ?_)
          · have c55 : n5625 < 10 := (nI_ltI (a := n5625) (b := 10) (by omega) (by omega)).mp q55
            refine m_ldc2 F kc_X10_299 e_X10_entry__85 ?_
            exact m_lret F hQ e_X10_entry__88 (⟨h5611, _, rfl⟩)
          · have c55 : n5625 ≥ 10 := by have hh := mt (nI_ltI (a := n5625) (b := 10) (by omega) (by omega)).mpr q55; omega
            refine m_iload_n F rfl e_X10_entry__58 ?_
            refine m_bipush F (v := 16) (by decide) e_X10_entry__59 ?_
            refine m_icmp_ge F e_X10_entry__61 (fun q61 => ?_) (fun q61 => ?_)
            · have c61 : n5625 ≥ 16 := (nI_leI (a := 16) (b := n5625) (by omega) (by omega)).mp q61
              refine m_ldc2 F kc_X10_299 e_X10_entry__85 ?_
              exact m_lret F hQ e_X10_entry__88 (⟨h5611, _, rfl⟩)
            · have c61 : n5625 < 16 := by have hh := mt (nI_leI (a := 16) (b := n5625) (by omega) (by omega)).mpr q61; omega
              refine m_aload_n F rfl e_X10_entry__64 ?_
              refine r_getC F e_X10_entry__65 fl_X10_59 h5611 (f5616) ?_
              refine m_sipush F (v := 753) (by decide) e_X10_entry__68 ?_
              refine m_bipush F (v := 9) (by decide) e_X10_entry__71 ?_
              refine m_iload_n F rfl e_X10_entry__73 ?_
              refine m_imul F e_X10_entry__74 ?_
              refine Wm.topE (w := nI (9 * n5615)) (pk_mul 9 n5615) ?_
              refine m_iadd F e_X10_entry__75 ?_
              refine Wm.topE (w := nI (753 + 9 * n5615)) (nI_add 753 (9 * n5615)) ?_
              refine m_iload_n F rfl e_X10_entry__76 ?_
              refine m_iadd F e_X10_entry__77 ?_
              refine Wm.topE (w := nI ((753 + 9 * n5615) + n5625)) (nI_add (753 + 9 * n5615) n5625) ?_
              refine m_bipush F (v := 7) (by decide) e_X10_entry__78 ?_
              refine m_isub F e_X10_entry__80 ?_
              refine Wm.topE (w := nI (((753 + 9 * n5615) + n5625) - 7)) (pk_sub (a := (753 + 9 * n5615) + n5625) (b := 7) (by omega)) ?_
              refine r_sld F (j := ((753 + 9 * n5615) + n5625) - 7) e_X10_entry__81 h5611 (nI_clamp (by omega)) (vp_in_nI (by omega) (by decide)) (fun x5626 h5627 f5628 => ?_)
              refine m_goto F e_X10_entry__82 ?_
              exact m_lret F hQ e_X10_entry__88 (⟨h5611, _, rfl⟩)
        · have c33 : n5625 < 3 := by have hh := mt (nI_leI (a := 3) (b := n5625) (by omega) (by omega)).mpr q33; omega
          refine m_aload_n F rfl e_X10_entry__36 ?_
          refine r_getC F e_X10_entry__37 fl_X10_59 h5611 (f5616) ?_
          refine m_sipush F (v := 753) (by decide) e_X10_entry__40 ?_
          refine m_bipush F (v := 9) (by decide) e_X10_entry__43 ?_
          refine m_iload_n F rfl e_X10_entry__45 ?_
          refine m_imul F e_X10_entry__46 ?_
          refine Wm.topE (w := nI (9 * n5615)) (pk_mul 9 n5615) ?_
          refine m_iadd F e_X10_entry__47 ?_
          refine Wm.topE (w := nI (753 + 9 * n5615)) (nI_add 753 (9 * n5615)) ?_
          refine m_iload_n F rfl e_X10_entry__48 ?_
          refine m_iadd F e_X10_entry__49 ?_
          refine Wm.topE (w := nI ((753 + 9 * n5615) + n5625)) (nI_add (753 + 9 * n5615) n5625) ?_
          refine r_sld F (j := (753 + 9 * n5615) + n5625) e_X10_entry__50 h5611 (nI_clamp (by omega)) (vp_in_nI (by omega) (by decide)) (fun x5629 h5630 f5631 => ?_)
          exact m_lret F hQ e_X10_entry__51 (⟨h5611, _, rfl⟩)
    · have c20 : n5615 ≥ n5620 := by have hh := mt (fun h9 => (lg_cmp_lt (lN n5615) (lN n5620)).mpr ((lN_lt (a := n5615) (b := n5620) (by omega) (by omega)).mpr h9)) q20; omega
      refine m_ldc2 F kc_X10_299 e_X10_entry__23 ?_
      exact m_lret F hQ e_X10_entry__26 (⟨h5611, _, rfl⟩)
set_option maxRecDepth 20000 in
theorem lq_X10_sum_32 {V : VX} {X : MX} {N : Nat} {σ : Mem} {c T Z u h : Nat} {P : NP} {L : Nat → LQ}   (F : Fx V X yX10_sum cX10_sum 6 (some .long) (rmd 0 0 0)) (hQ : Rt V X 0 0 N (fun r τ => HS V c (⟨T, Z, u, h, P, L⟩ : RG) [0, 2, 3, 4, 5, 6, 7, 8, 9, 10, 11, 12, 13, 14, 15, 16, 17, 18, 19, 20, 21, 22, 23] σ τ ∧ ∃ x : Int64, r = some (.long x))) (hob : OKB L) (hP : OKP P)   : ∀ (fuel : Nat) (a : Nat) (b : Nat) (w1 : Int64) (i : Nat) (τ : Mem), HS V c (⟨T, Z, u, h, P, L⟩ : RG) [0, 2, 3, 4, 5, 6, 7, 8, 9, 10, 11, 12, 13, 14, 15, 16, 17, 18, 19, 20, 21, 22, 23] σ τ → a ≤ 5 ∧ b ≤ 5 ∧ i ≤ 40 → 40 - i < fuel → Wm V X 6 N τ 0 0 32 [(0, .ref c), (1, .int (nI a)), (2, .int (nI b)), (3, .long w1), (5, .int (nI i))] [] := by
  intro fuel
  induction fuel with
  | zero => intros; rename_i hm; exact absurd hm (Nat.not_lt_zero _)
  | succ fuel ih =>
    intro a b w1 i τ h1 hi hm
    have hPP := hP
    unfold OKP at hPP
    refine m_iload F rfl e_X10_sum_32 ?_
    refine m_i2l F e_X10_sum_34 ?_
    refine Wm.toplE (w := lN i) (nI_l (by omega)) ?_
    refine m_aload_n F rfl e_X10_sum_35 ?_
    refine r_get F e_X10_sum_36 fl_X10_59 h1 rfl (fun v hv f5632 => ?_)
    obtain rfl : v = .ref (c + 16) := hv
    refine m_sipush F (v := 751) (by decide) e_X10_sum_39 ?_
    refine r_sld F (j := 751) e_X10_sum_42 h1 (by decide) (by unfold vp_in; decide) (fun x5633 h5634 f5635 => ?_)
    obtain ⟨n5636, hn5636, rfl⟩ := EJ_m.mp h5634
    refine m_lcmp F e_X10_sum_43 ?_
    refine m_if_ge F e_X10_sum_44 (fun q44 => ?_) (fun q44 => ?_)
    · have c44 : i ≥ n5636 := (lN_le (a := n5636) (b := i) (by omega) (by omega)).mp ((lg_cmp_ge _ _).mp q44)
      refine m_lload_n F rfl e_X10_sum_94 ?_
      exact m_lret F hQ e_X10_sum_95 (⟨h1, _, rfl⟩)
    · have c44 : i < n5636 := by have hh := mt (fun h9 => (lg_cmp_ge (lN i) (lN n5636)).mpr ((lN_le (a := n5636) (b := i) (by omega) (by omega)).mpr h9)) q44; omega
      refine m_aload_n F rfl e_X10_sum_47 ?_
      refine r_getC F e_X10_sum_48 fl_X10_59 h1 (f5632) ?_
      refine m_sipush F (v := 753) (by decide) e_X10_sum_51 ?_
      refine m_bipush F (v := 9) (by decide) e_X10_sum_54 ?_
      refine m_iload F rfl e_X10_sum_56 ?_
      refine m_imul F e_X10_sum_58 ?_
      refine Wm.topE (w := nI (9 * i)) (pk_mul 9 i) ?_
      refine m_iadd F e_X10_sum_59 ?_
      refine Wm.topE (w := nI (753 + 9 * i)) (nI_add 753 (9 * i)) ?_
      refine r_sld F (j := 753 + 9 * i) e_X10_sum_60 h1 (nI_clamp (by omega)) (vp_in_nI (by omega) (by decide)) (fun x5637 h5638 f5639 => ?_)
      refine m_iload_n F rfl e_X10_sum_61 ?_
      refine m_i2l F e_X10_sum_62 ?_
      refine Wm.toplE (w := lN b) (nI_l (by omega)) ?_
      refine m_lcmp F e_X10_sum_63 ?_
      refine Wm.top (fun x5640 _ => ?_)
      refine m_if_ne F e_X10_sum_64 (fun q64 => ?_) (fun q64 => ?_)
      · refine m_iinc F (v := nI (i + 1)) (lv' := [(5, .int (nI (i + 1))), (0, .ref c), (1, .int (nI a)), (2, .int (nI b)), (3, .long w1)]) e_X10_sum_88 rfl (nI_add i 1) (by decide) rfl ?_
        refine m_goto F e_X10_sum_91 ?_
        refine Wm.lvsub (lv' := [(0, .ref c), (1, .int (nI a)), (2, .int (nI b)), (3, .long w1), (5, .int (nI (i + 1)))]) ?_ [1, 2, 3, 4, 0] rfl
        exact ih a b w1 (i + 1) _ h1 (by omega) (by omega)
      · subst q64
        refine m_lload_n F rfl e_X10_sum_67 ?_
        refine m_aload_n F rfl e_X10_sum_68 ?_
        refine r_getC F e_X10_sum_69 fl_X10_59 h1 (f5632) ?_
        refine m_sipush F (v := 753) (by decide) e_X10_sum_72 ?_
        refine m_bipush F (v := 9) (by decide) e_X10_sum_75 ?_
        refine m_iload F rfl e_X10_sum_77 ?_
        refine m_imul F e_X10_sum_79 ?_
        refine Wm.topE (w := nI (9 * i)) (pk_mul 9 i) ?_
        refine m_iadd F e_X10_sum_80 ?_
        refine Wm.topE (w := nI (753 + 9 * i)) (nI_add 753 (9 * i)) ?_
        refine m_iconst F (v := 3) (by decide) e_X10_sum_81 ?_
        refine m_iadd F e_X10_sum_82 ?_
        refine Wm.topE (w := nI (753 + 9 * i + 3)) (nI_add (753 + 9 * i) 3) ?_
        refine m_iload_n F rfl e_X10_sum_83 ?_
        refine m_iadd F e_X10_sum_84 ?_
        refine Wm.topE (w := nI ((753 + 9 * i + 3) + a)) (nI_add (753 + 9 * i + 3) a) ?_
        refine r_sld F (j := (753 + 9 * i + 3) + a) e_X10_sum_85 h1 (nI_clamp (by omega)) (vp_in_nI (by omega) (by decide)) (fun x5641 h5642 f5643 => ?_)
        refine m_ladd F e_X10_sum_86 ?_
        refine Wm.topl (fun x5644 _ => ?_)
        refine m_lstore_n F (lv' := [(3, .long x5644), (0, .ref c), (1, .int (nI a)), (2, .int (nI b)), (5, .int (nI i))]) e_X10_sum_87 (by decide) rfl ?_
        refine m_iinc F (v := nI (i + 1)) (lv' := [(5, .int (nI (i + 1))), (3, .long x5644), (0, .ref c), (1, .int (nI a)), (2, .int (nI b))]) e_X10_sum_88 rfl (nI_add i 1) (by decide) rfl ?_
        refine m_goto F e_X10_sum_91 ?_
        refine Wm.lvsub (lv' := [(0, .ref c), (1, .int (nI a)), (2, .int (nI b)), (3, .long x5644), (5, .int (nI (i + 1)))]) ?_ [2, 3, 4, 1, 0] rfl
        exact ih a b x5644 (i + 1) _ h1 (by omega) (by omega)
set_option maxRecDepth 20000 in
theorem q_X10_sum (l : Launch) (V : VX) (c T Z u h : Nat) (P : NP) (L : Nat → LQ) (N : Nat) (σ : Mem) (x901 : Int32) (x902 : Int32) (h0 : HR V c ⟨T, Z, u, h, P, L⟩ σ) (hob : OKB L) (hP : OKP P)  : Ct l V yX10_sum cX10_sum 6 (some .long) 0 0 0 N σ [.ref c, .int x901, .int x902] (fun r τ => HS V c (⟨T, Z, u, h, P, L⟩ : RG) [0, 2, 3, 4, 5, 6, 7, 8, 9, 10, 11, 12, 13, 14, 15, 16, 17, 18, 19, 20, 21, 22, 23] σ τ ∧ ∃ x : Int64, r = some (.long x)) := by
  refine Ct.of (by decide) (Nat.le_of_ble_eq_true rfl) [(0, .ref c), (1, .int x901), (2, .int x902)] rfl (fun X hX F hQ => ?_)
  have hPP := hP
  unfold OKP at hPP
  have h1 : HS V c ⟨T, Z, u, h, P, L⟩ [0, 2, 3, 4, 5, 6, 7, 8, 9, 10, 11, 12, 13, 14, 15, 16, 17, 18, 19, 20, 21, 22, 23] σ σ := HS.start h0
  refine m_aload_n F rfl e_X10_sum_0 ?_
  refine m_iconst F (v := 0) (by decide) e_X10_sum_1 ?_
  refine r_put F (g' := (⟨T, Z, u, h, P, L⟩ : RG)) e_X10_sum_2 fp_X10_91 h1 (by decide) ⟨_, rfl⟩ (fun _ _ _ _ q => q) (fun _ _ _ q => q) rfl rfl (by decide) (fun σ5645 h5646 g5647 g5648 f5649 => ?_)
  refine m_iload_n F rfl e_X10_sum_5 ?_
  refine m_if_lt F e_X10_sum_6 (fun q6 => ?_) (fun q6 => ?_)
  · refine m_ldc2 F kc_X10_299 e_X10_sum_23 ?_
    exact m_lret F hQ e_X10_sum_26 (⟨h5646, _, rfl⟩)
  · obtain ⟨n5650, hn5650, rfl⟩ := nI_nn (x := x901) (fun e => q6 (Int32.lt_of_lt_of_le e (by decide)))
    have c6 : n5650 ≥ 0 := by have hh := mt (nI_ltI (a := n5650) (b := 0) (by omega) (by omega)).mpr q6; omega
    refine m_iload_n F rfl e_X10_sum_9 ?_
    refine m_iconst F (v := 5) (by decide) e_X10_sum_10 ?_
    refine m_icmp_gt F e_X10_sum_11 (fun q11 => ?_) (fun q11 => ?_)
    · have c11 : n5650 > 5 := (nI_ltI (a := 5) (b := n5650) (by omega) (by omega)).mp q11
      refine m_ldc2 F kc_X10_299 e_X10_sum_23 ?_
      exact m_lret F hQ e_X10_sum_26 (⟨h5646, _, rfl⟩)
    · have c11 : n5650 ≤ 5 := by have hh := mt (nI_ltI (a := 5) (b := n5650) (by omega) (by omega)).mpr q11; omega
      refine m_iload_n F rfl e_X10_sum_14 ?_
      refine m_if_lt F e_X10_sum_15 (fun q15 => ?_) (fun q15 => ?_)
      · refine m_ldc2 F kc_X10_299 e_X10_sum_23 ?_
        exact m_lret F hQ e_X10_sum_26 (⟨h5646, _, rfl⟩)
      · obtain ⟨n5651, hn5651, rfl⟩ := nI_nn (x := x902) (fun e => q15 (Int32.lt_of_lt_of_le e (by decide)))
        have c15 : n5651 ≥ 0 := by have hh := mt (nI_ltI (a := n5651) (b := 0) (by omega) (by omega)).mpr q15; omega
        refine m_iload_n F rfl e_X10_sum_18 ?_
        refine m_iconst F (v := 5) (by decide) e_X10_sum_19 ?_
        refine m_icmp_le F e_X10_sum_20 (fun q20 => ?_) (fun q20 => ?_)
        · have c20 : n5651 ≤ 5 := (nI_leI (a := n5651) (b := 5) (by omega) (by omega)).mp q20
          refine m_lconst F (v := 0) (by decide) e_X10_sum_27 ?_
          refine m_lstore_n F (lv' := [(3, .long 0), (0, .ref c), (1, .int (nI n5650)), (2, .int (nI n5651))]) e_X10_sum_28 (by decide) rfl ?_
          refine m_iconst F (v := 0) (by decide) e_X10_sum_29 ?_
          refine m_istore F (lv' := [(5, .int 0), (3, .long 0), (0, .ref c), (1, .int (nI n5650)), (2, .int (nI n5651))]) e_X10_sum_30 (by decide) rfl ?_
          refine Wm.lvsub (lv' := [(0, .ref c), (1, .int (nI n5650)), (2, .int (nI n5651)), (3, .long 0), (5, .int 0)]) ?_ [2, 3, 4, 1, 0] rfl
          exact lq_X10_sum_32 F hQ hob hP  (40 - 0 + 1) n5650 n5651 0 0 _ h5646 (by omega) (Nat.lt_succ_self _)
        · have c20 : n5651 > 5 := by have hh := mt (nI_leI (a := n5651) (b := 5) (by omega) (by omega)).mpr q20; omega
          refine m_ldc2 F kc_X10_299 e_X10_sum_23 ?_
          exact m_lret F hQ e_X10_sum_26 (⟨h5646, _, rfl⟩)
set_option maxRecDepth 20000 in
theorem lq_X10_latest_26 {V : VX} {X : MX} {N : Nat} {σ : Mem} {c T Z u h : Nat} {P : NP} {L : Nat → LQ}   (F : Fx V X yX10_latest cX10_latest 4 (some .int) (rmd 2 0 0)) (hQ : Rt V X 0 0 N (fun r τ => HS V c (⟨T, Z, u, h, P, L⟩ : RG) [0, 2, 3, 4, 5, 6, 7, 8, 9, 10, 11, 12, 13, 14, 15, 16, 17, 18, 19, 20, 21, 22, 23] σ τ ∧ ∃ x : Int32, r = some (.int x))) (hob : OKB L) (hP : OKP P)   : ∀ (fuel : Nat) (a : Nat) (b : Nat) (i : Nat) (τ : Mem), HS V c (⟨T, Z, u, h, P, L⟩ : RG) [0, 2, 3, 4, 5, 6, 7, 8, 9, 10, 11, 12, 13, 14, 15, 16, 17, 18, 19, 20, 21, 22, 23] σ τ → a ≤ 3 ∧ b ≤ 5 ∧ i ≤ 40 → 40 - i < fuel → Wm V X 4 N τ 0 0 26 [(0, .ref c), (1, .int (nI a)), (2, .int (nI b)), (3, .int (nI i))] [] := by
  intro fuel
  induction fuel with
  | zero => intros; rename_i hm; exact absurd hm (Nat.not_lt_zero _)
  | succ fuel ih =>
    intro a b i τ h1 hi hm
    have hPP := hP
    unfold OKP at hPP
    refine m_iload_n F rfl e_X10_latest_26 ?_
    refine m_i2l F e_X10_latest_27 ?_
    refine Wm.toplE (w := lN i) (nI_l (by omega)) ?_
    refine m_aload_n F rfl e_X10_latest_28 ?_
    refine r_get F e_X10_latest_29 fl_X10_59 h1 rfl (fun v hv f5652 => ?_)
    obtain rfl : v = .ref (c + 16) := hv
    refine m_sipush F (v := 751) (by decide) e_X10_latest_32 ?_
    refine r_sld F (j := 751) e_X10_latest_35 h1 (by decide) (by unfold vp_in; decide) (fun x5653 h5654 f5655 => ?_)
    obtain ⟨n5656, hn5656, rfl⟩ := EJ_m.mp h5654
    refine m_lcmp F e_X10_latest_36 ?_
    refine m_if_ge F e_X10_latest_37 (fun q37 => ?_) (fun q37 => ?_)
    · have c37 : i ≥ n5656 := (lN_le (a := n5656) (b := i) (by omega) (by omega)).mp ((lg_cmp_ge _ _).mp q37)
      refine m_bipush F (v := (-2)) (by decide) e_X10_latest_103 ?_
      exact m_iret F hQ e_X10_latest_105 (⟨h1, _, rfl⟩)
    · have c37 : i < n5656 := by have hh := mt (fun h9 => (lg_cmp_ge (lN i) (lN n5656)).mpr ((lN_le (a := n5656) (b := i) (by omega) (by omega)).mpr h9)) q37; omega
      refine m_aload_n F rfl e_X10_latest_40 ?_
      refine r_getC F e_X10_latest_41 fl_X10_59 h1 (f5652) ?_
      refine m_sipush F (v := 753) (by decide) e_X10_latest_44 ?_
      refine m_bipush F (v := 9) (by decide) e_X10_latest_47 ?_
      refine m_iload_n F rfl e_X10_latest_49 ?_
      refine m_imul F e_X10_latest_50 ?_
      refine Wm.topE (w := nI (9 * i)) (pk_mul 9 i) ?_
      refine m_iadd F e_X10_latest_51 ?_
      refine Wm.topE (w := nI (753 + 9 * i)) (nI_add 753 (9 * i)) ?_
      refine r_sld F (j := 753 + 9 * i) e_X10_latest_52 h1 (nI_clamp (by omega)) (vp_in_nI (by omega) (by decide)) (fun x5657 h5658 f5659 => ?_)
      refine m_iload_n F rfl e_X10_latest_53 ?_
      refine m_i2l F e_X10_latest_54 ?_
      refine Wm.toplE (w := lN b) (nI_l (by omega)) ?_
      refine m_lcmp F e_X10_latest_55 ?_
      refine Wm.top (fun x5660 _ => ?_)
      refine m_if_ne F e_X10_latest_56 (fun q56 => ?_) (fun q56 => ?_)
      · refine m_iinc F (v := nI (i + 1)) (lv' := [(3, .int (nI (i + 1))), (0, .ref c), (1, .int (nI a)), (2, .int (nI b))]) e_X10_latest_97 rfl (nI_add i 1) (by decide) rfl ?_
        refine m_goto F e_X10_latest_100 ?_
        refine Wm.lvsub (lv' := [(0, .ref c), (1, .int (nI a)), (2, .int (nI b)), (3, .int (nI (i + 1)))]) ?_ [1, 2, 3, 0] rfl
        exact ih a b (i + 1) _ h1 (by omega) (by omega)
      · subst q56
        refine m_aload_n F rfl e_X10_latest_59 ?_
        refine r_getC F e_X10_latest_60 fl_X10_59 h1 (f5652) ?_
        refine m_sipush F (v := 753) (by decide) e_X10_latest_63 ?_
        refine m_bipush F (v := 9) (by decide) e_X10_latest_66 ?_
        refine m_iload_n F rfl e_X10_latest_68 ?_
        refine m_imul F e_X10_latest_69 ?_
        refine Wm.topE (w := nI (9 * i)) (pk_mul 9 i) ?_
        refine m_iadd F e_X10_latest_70 ?_
        refine Wm.topE (w := nI (753 + 9 * i)) (nI_add 753 (9 * i)) ?_
        refine m_iconst F (v := 2) (by decide) e_X10_latest_71 ?_
        refine m_iadd F e_X10_latest_72 ?_
        refine Wm.topE (w := nI (753 + 9 * i + 2)) (nI_add (753 + 9 * i) 2) ?_
        refine r_sld F (j := 753 + 9 * i + 2) e_X10_latest_73 h1 (nI_clamp (by omega)) (vp_in_nI (by omega) (by decide)) (fun x5661 h5662 f5663 => ?_)
        refine m_iload_n F rfl e_X10_latest_74 ?_
        refine m_i2l F e_X10_latest_75 ?_
        refine Wm.toplE (w := lN a) (nI_l (by omega)) ?_
        refine m_lcmp F e_X10_latest_76 ?_
        refine Wm.top (fun x5664 _ => ?_)
        refine m_if_ne F e_X10_latest_77 (fun q77 => ?_) (fun q77 => ?_)
        · refine m_iinc F (v := nI (i + 1)) (lv' := [(3, .int (nI (i + 1))), (0, .ref c), (1, .int (nI a)), (2, .int (nI b))]) e_X10_latest_97 rfl (nI_add i 1) (by decide) rfl ?_
          refine m_goto F e_X10_latest_100 ?_
          refine Wm.lvsub (lv' := [(0, .ref c), (1, .int (nI a)), (2, .int (nI b)), (3, .int (nI (i + 1)))]) ?_ [1, 2, 3, 0] rfl
          exact ih a b (i + 1) _ h1 (by omega) (by omega)
        · subst q77
          refine m_aload_n F rfl e_X10_latest_80 ?_
          refine r_getC F e_X10_latest_81 fl_X10_59 h1 (f5652) ?_
          refine m_sipush F (v := 753) (by decide) e_X10_latest_84 ?_
          refine m_bipush F (v := 9) (by decide) e_X10_latest_87 ?_
          refine m_iload_n F rfl e_X10_latest_89 ?_
          refine m_imul F e_X10_latest_90 ?_
          refine Wm.topE (w := nI (9 * i)) (pk_mul 9 i) ?_
          refine m_iadd F e_X10_latest_91 ?_
          refine Wm.topE (w := nI (753 + 9 * i)) (nI_add 753 (9 * i)) ?_
          refine m_iconst F (v := 1) (by decide) e_X10_latest_92 ?_
          refine m_iadd F e_X10_latest_93 ?_
          refine Wm.topE (w := nI (753 + 9 * i + 1)) (nI_add (753 + 9 * i) 1) ?_
          refine r_sld F (j := 753 + 9 * i + 1) e_X10_latest_94 h1 (nI_clamp (by omega)) (vp_in_nI (by omega) (by decide)) (fun x5665 h5666 f5667 => ?_)
          refine m_l2i F e_X10_latest_95 ?_
          refine Wm.top (fun x5668 _ => ?_)
          exact m_iret F hQ e_X10_latest_96 (⟨h1, _, rfl⟩)
set_option maxRecDepth 20000 in
theorem q_X10_latest (l : Launch) (V : VX) (c T Z u h : Nat) (P : NP) (L : Nat → LQ) (N : Nat) (σ : Mem) (x901 : Int32) (x902 : Int32) (h0 : HR V c ⟨T, Z, u, h, P, L⟩ σ) (hob : OKB L) (hP : OKP P)  : Ct l V yX10_latest cX10_latest 4 (some .int) 2 0 0 N σ [.ref c, .int x901, .int x902] (fun r τ => HS V c (⟨T, Z, u, h, P, L⟩ : RG) [0, 2, 3, 4, 5, 6, 7, 8, 9, 10, 11, 12, 13, 14, 15, 16, 17, 18, 19, 20, 21, 22, 23] σ τ ∧ ∃ x : Int32, r = some (.int x)) := by
  refine Ct.of (by decide) (Nat.le_of_ble_eq_true rfl) [(0, .ref c), (1, .int x901), (2, .int x902)] rfl (fun X hX F hQ => ?_)
  have hPP := hP
  unfold OKP at hPP
  have h1 : HS V c ⟨T, Z, u, h, P, L⟩ [0, 2, 3, 4, 5, 6, 7, 8, 9, 10, 11, 12, 13, 14, 15, 16, 17, 18, 19, 20, 21, 22, 23] σ σ := HS.start h0
  refine m_aload_n F rfl e_X10_latest_0 ?_
  refine m_iconst F (v := 0) (by decide) e_X10_latest_1 ?_
  refine r_put F (g' := (⟨T, Z, u, h, P, L⟩ : RG)) e_X10_latest_2 fp_X10_91 h1 (by decide) ⟨_, rfl⟩ (fun _ _ _ _ q => q) (fun _ _ _ q => q) rfl rfl (by decide) (fun σ5669 h5670 g5671 g5672 f5673 => ?_)
  refine m_aload_n F rfl e_X10_latest_5 ?_
  refine m_iload_n F rfl e_X10_latest_6 ?_
  refine r_callV F e_X10_latest_7 (q_X10_isLease (x_l X) V c T Z u h P L _ _ x901 h5670.1 (hob) hP ) cb_X10_isLease ml_X10_292 im_X10_isLease se_X10_isLease h5670 rfl rfl (rest := []) rfl (Nat.le_of_ble_eq_true rfl) ⟨Nat.le_of_ble_eq_true rfl, Nat.le_of_ble_eq_true rfl⟩ ⟨Nat.le_of_ble_eq_true rfl, Nat.le_of_ble_eq_true rfl⟩ (fun r σ5674 hp => ?_)
  obtain ⟨h5675, c5677⟩ := hp
  have h5676 := HS.trans h5670 h5675 (by decide)
  rcases c5677 with rfl | ⟨n5678, h5679, e5680, rfl⟩
  · refine m_if_eq F e_X10_latest_10 (fun _ => ?_) (fun q => absurd (by decide) q)
    refine m_iconst F (v := (-1)) (by decide) e_X10_latest_22 ?_
    exact m_iret F hQ e_X10_latest_23 (⟨h5676, _, rfl⟩)
  · subst e5680
    refine m_if_eq F e_X10_latest_10 (fun q => absurd q (by decide)) (fun _ => ?_)
    refine m_iload_n F rfl e_X10_latest_13 ?_
    refine m_if_lt F e_X10_latest_14 (fun q14 => ?_) (fun q14 => ?_)
    · refine m_iconst F (v := (-1)) (by decide) e_X10_latest_22 ?_
      exact m_iret F hQ e_X10_latest_23 (⟨h5676, _, rfl⟩)
    · obtain ⟨n5681, hn5681, rfl⟩ := nI_nn (x := x902) (fun e => q14 (Int32.lt_of_lt_of_le e (by decide)))
      have c14 : n5681 ≥ 0 := by have hh := mt (nI_ltI (a := n5681) (b := 0) (by omega) (by omega)).mpr q14; omega
      refine m_iload_n F rfl e_X10_latest_17 ?_
      refine m_iconst F (v := 5) (by decide) e_X10_latest_18 ?_
      refine m_icmp_le F e_X10_latest_19 (fun q19 => ?_) (fun q19 => ?_)
      · have c19 : n5681 ≤ 5 := (nI_leI (a := n5681) (b := 5) (by omega) (by omega)).mp q19
        refine m_iconst F (v := 0) (by decide) e_X10_latest_24 ?_
        refine m_istore_n F (lv' := [(3, .int 0), (0, .ref c), (1, .int (nI n5678)), (2, .int (nI n5681))]) e_X10_latest_25 (by decide) rfl ?_
        refine Wm.lvsub (lv' := [(0, .ref c), (1, .int (nI n5678)), (2, .int (nI n5681)), (3, .int 0)]) ?_ [1, 2, 3, 0] rfl
        exact lq_X10_latest_26 F hQ hob hP  (40 - 0 + 1) n5678 n5681 0 _ h5676 (by omega) (Nat.lt_succ_self _)
      · have c19 : n5681 > 5 := by have hh := mt (nI_leI (a := n5681) (b := 5) (by omega) (by omega)).mpr q19; omega
        refine m_iconst F (v := (-1)) (by decide) e_X10_latest_22 ?_
        exact m_iret F hQ e_X10_latest_23 (⟨h5676, _, rfl⟩)
set_option maxRecDepth 20000 in
theorem lq_X10_partFor_36 {V : VX} {X : MX} {N : Nat} {σ : Mem} {c T Z u h : Nat} {P : NP} {L : Nat → LQ}  {x902 : Int64} (F : Fx V X yX10_partFor cX10_partFor 6 (some .int) (rmd 2 0 0)) (hQ : Rt V X 0 0 N (fun r τ => HS V c (⟨T, Z, u, h, P, L⟩ : RG) [0, 2, 3, 4, 5, 6, 7, 8, 9, 10, 11, 12, 13, 14, 15, 16, 17, 18, 19, 20, 21, 22, 23] σ τ ∧ ∃ x : Int32, r = some (.int x))) (hob : OKB L) (hP : OKP P)   : ∀ (fuel : Nat) (a : Nat) (d : Nat) (i : Nat) (τ : Mem), HS V c (⟨T, Z, u, h, P, L⟩ : RG) [0, 2, 3, 4, 5, 6, 7, 8, 9, 10, 11, 12, 13, 14, 15, 16, 17, 18, 19, 20, 21, 22, 23] σ τ → a ≤ 3 ∧ d = 160 * a ∧ i ≤ 1000 → 1000 - i < fuel → Wm V X 6 N τ 0 0 36 [(0, .ref c), (1, .int (nI a)), (2, .long x902), (4, .int (nI d)), (5, .int (nI i))] [] := by
  intro fuel
  induction fuel with
  | zero => intros; rename_i hm; exact absurd hm (Nat.not_lt_zero _)
  | succ fuel ih =>
    intro a d i τ h1 hi hm
    have hPP := hP
    unfold OKP at hPP
    refine m_iload F rfl e_X10_partFor_36 ?_
    refine m_sipush F (v := 1000) (by decide) e_X10_partFor_38 ?_
    refine m_icmp_ge F e_X10_partFor_41 (fun q41 => ?_) (fun q41 => ?_)
    · have c41 : i ≥ 1000 := (nI_leI (a := 1000) (b := i) (by omega) (by omega)).mp q41
      refine m_bipush F (v := (-2)) (by decide) e_X10_partFor_95 ?_
      exact m_iret F hQ e_X10_partFor_97 (⟨h1, _, rfl⟩)
    · have c41 : i < 1000 := by have hh := mt (nI_leI (a := 1000) (b := i) (by omega) (by omega)).mpr q41; omega
      have hd := hi.2.1
      have hd := hi.2.1
      have hd := hi.2.1
      refine m_aload_n F rfl e_X10_partFor_44 ?_
      refine r_get F e_X10_partFor_45 fl_X10_59 h1 rfl (fun v hv f5682 => ?_)
      obtain rfl : v = .ref (c + 16) := hv
      refine m_iload F rfl e_X10_partFor_48 ?_
      refine m_bipush F (v := 6) (by decide) e_X10_partFor_50 ?_
      refine m_iadd F e_X10_partFor_52 ?_
      refine Wm.topE (w := nI (d + 6)) (nI_add d 6) ?_
      refine r_sld F (j := d + 6) e_X10_partFor_53 h1 (nI_clamp (by omega)) (vp_in_nI (by omega) (by decide)) (fun x5683 h5684 f5685 => ?_)
      refine m_iload F rfl e_X10_partFor_54 ?_
      refine m_i2l F e_X10_partFor_56 ?_
      refine Wm.toplE (w := lN i) (nI_l (by omega)) ?_
      refine m_lmul F e_X10_partFor_57 ?_
      refine Wm.topl (fun x5686 _ => ?_)
      refine m_ldc2 F kc_X10_224 e_X10_partFor_58 ?_
      refine m_ldiv F (by decide) e_X10_partFor_61 ?_
      refine Wm.topl (fun x5687 _ => ?_)
      refine m_aload_n F rfl e_X10_partFor_62 ?_
      refine r_getC F e_X10_partFor_63 fl_X10_59 h1 (f5682) ?_
      refine m_iload F rfl e_X10_partFor_66 ?_
      refine m_bipush F (v := 7) (by decide) e_X10_partFor_68 ?_
      refine m_iadd F e_X10_partFor_70 ?_
      refine Wm.topE (w := nI (d + 7)) (nI_add d 7) ?_
      refine r_sld F (j := d + 7) e_X10_partFor_71 h1 (nI_clamp (by omega)) (vp_in_nI (by omega) (by decide)) (fun x5688 h5689 f5690 => ?_)
      refine m_iload F rfl e_X10_partFor_72 ?_
      refine m_i2l F e_X10_partFor_74 ?_
      refine Wm.toplE (w := lN i) (nI_l (by omega)) ?_
      refine m_lmul F e_X10_partFor_75 ?_
      refine Wm.topl (fun x5691 _ => ?_)
      refine m_ldc2 F kc_X10_224 e_X10_partFor_76 ?_
      refine m_ldiv F (by decide) e_X10_partFor_79 ?_
      refine Wm.topl (fun x5692 _ => ?_)
      refine m_lsub F e_X10_partFor_80 ?_
      refine Wm.topl (fun x5693 _ => ?_)
      refine m_lload_n F rfl e_X10_partFor_81 ?_
      refine m_lcmp F e_X10_partFor_82 ?_
      refine Wm.top (fun x5694 _ => ?_)
      refine m_if_lt F e_X10_partFor_83 (fun q83 => ?_) (fun q83 => ?_)
      · refine m_iinc F (v := nI (i + 1)) (lv' := [(5, .int (nI (i + 1))), (0, .ref c), (1, .int (nI a)), (2, .long x902), (4, .int (nI d))]) e_X10_partFor_89 rfl (nI_add i 1) (by decide) rfl ?_
        refine m_goto F e_X10_partFor_92 ?_
        refine Wm.lvsub (lv' := [(0, .ref c), (1, .int (nI a)), (2, .long x902), (4, .int (nI d)), (5, .int (nI (i + 1)))]) ?_ [1, 2, 3, 4, 0] rfl
        exact ih a d (i + 1) _ h1 (by omega) (by omega)
      · obtain ⟨n5695, hn5695, rfl⟩ := nI_nn (x := x5694) (fun e => q83 (Int32.lt_of_lt_of_le e (by decide)))
        have c83 : n5695 ≥ 0 := by have hh := mt (nI_ltI (a := n5695) (b := 0) (by omega) (by omega)).mpr q83; omega
        refine m_iload F rfl e_X10_partFor_86 ?_
        exact m_iret F hQ e_X10_partFor_88 (⟨h1, _, rfl⟩)
set_option maxRecDepth 20000 in
theorem q_X10_partFor (l : Launch) (V : VX) (c T Z u h : Nat) (P : NP) (L : Nat → LQ) (N : Nat) (σ : Mem) (x901 : Int32) (x902 : Int64) (h0 : HR V c ⟨T, Z, u, h, P, L⟩ σ) (hob : OKB L) (hP : OKP P)  : Ct l V yX10_partFor cX10_partFor 6 (some .int) 2 0 0 N σ [.ref c, .int x901, .long x902] (fun r τ => HS V c (⟨T, Z, u, h, P, L⟩ : RG) [0, 2, 3, 4, 5, 6, 7, 8, 9, 10, 11, 12, 13, 14, 15, 16, 17, 18, 19, 20, 21, 22, 23] σ τ ∧ ∃ x : Int32, r = some (.int x)) := by
  refine Ct.of (by decide) (Nat.le_of_ble_eq_true rfl) [(0, .ref c), (1, .int x901), (2, .long x902)] rfl (fun X hX F hQ => ?_)
  have hPP := hP
  unfold OKP at hPP
  have h1 : HS V c ⟨T, Z, u, h, P, L⟩ [0, 2, 3, 4, 5, 6, 7, 8, 9, 10, 11, 12, 13, 14, 15, 16, 17, 18, 19, 20, 21, 22, 23] σ σ := HS.start h0
  refine m_aload_n F rfl e_X10_partFor_0 ?_
  refine m_iconst F (v := 0) (by decide) e_X10_partFor_1 ?_
  refine r_put F (g' := (⟨T, Z, u, h, P, L⟩ : RG)) e_X10_partFor_2 fp_X10_91 h1 (by decide) ⟨_, rfl⟩ (fun _ _ _ _ q => q) (fun _ _ _ q => q) rfl rfl (by decide) (fun σ5696 h5697 g5698 g5699 f5700 => ?_)
  refine m_aload_n F rfl e_X10_partFor_5 ?_
  refine m_iload_n F rfl e_X10_partFor_6 ?_
  refine r_callV F e_X10_partFor_7 (q_X10_isLease (x_l X) V c T Z u h P L _ _ x901 h5697.1 (hob) hP ) cb_X10_isLease ml_X10_292 im_X10_isLease se_X10_isLease h5697 rfl rfl (rest := []) rfl (Nat.le_of_ble_eq_true rfl) ⟨Nat.le_of_ble_eq_true rfl, Nat.le_of_ble_eq_true rfl⟩ ⟨Nat.le_of_ble_eq_true rfl, Nat.le_of_ble_eq_true rfl⟩ (fun r σ5701 hp => ?_)
  obtain ⟨h5702, c5704⟩ := hp
  have h5703 := HS.trans h5697 h5702 (by decide)
  rcases c5704 with rfl | ⟨n5705, h5706, e5707, rfl⟩
  · refine m_if_ne F e_X10_partFor_10 (fun q => absurd (by decide) q) (fun _ => ?_)
    refine m_iconst F (v := (-1)) (by decide) e_X10_partFor_13 ?_
    exact m_iret F hQ e_X10_partFor_14 (⟨h5703, _, rfl⟩)
  · subst e5707
    refine m_if_ne F e_X10_partFor_10 (fun _ => ?_) (fun q => absurd q (by decide))
    refine m_aload_n F rfl e_X10_partFor_15 ?_
    refine m_iload_n F rfl e_X10_partFor_16 ?_
    refine r_callV F e_X10_partFor_17 (q_X10_isOn (x_l X) V c T Z u h P L _ _ n5705 h5703.1 (hob) hP (by omega)) cb_X10_isOn ml_X10_267 im_X10_isOn se_X10_isOn h5703 rfl rfl (rest := []) rfl (Nat.le_of_ble_eq_true rfl) ⟨Nat.le_of_ble_eq_true rfl, Nat.le_of_ble_eq_true rfl⟩ ⟨Nat.le_of_ble_eq_true rfl, Nat.le_of_ble_eq_true rfl⟩ (fun r σ5708 hp => ?_)
    obtain ⟨h5709, c5711⟩ := hp
    have h5710 := HS.trans h5703 h5709 (by decide)
    rcases c5711 with ⟨g5712, rfl⟩ | ⟨g5712, rfl⟩
    · refine m_if_ne F e_X10_partFor_20 (fun q => absurd (by decide) q) (fun _ => ?_)
      refine m_bipush F (v := (-2)) (by decide) e_X10_partFor_23 ?_
      exact m_iret F hQ e_X10_partFor_25 (⟨h5710, _, rfl⟩)
    · refine m_if_ne F e_X10_partFor_20 (fun _ => ?_) (fun q => absurd q (by decide))
      refine m_sipush F (v := 160) (by decide) e_X10_partFor_26 ?_
      refine m_iload_n F rfl e_X10_partFor_29 ?_
      refine m_imul F e_X10_partFor_30 ?_
      refine Wm.topE (w := nI (160 * n5705)) (pk_mul 160 n5705) ?_
      refine m_istore F (lv' := [(4, .int (nI (160 * n5705))), (0, .ref c), (1, .int (nI n5705)), (2, .long x902)]) e_X10_partFor_31 (by decide) rfl ?_
      refine m_iconst F (v := 1) (by decide) e_X10_partFor_33 ?_
      refine m_istore F (lv' := [(5, .int 1), (4, .int (nI (160 * n5705))), (0, .ref c), (1, .int (nI n5705)), (2, .long x902)]) e_X10_partFor_34 (by decide) rfl ?_
      refine Wm.lvsub (lv' := [(0, .ref c), (1, .int (nI n5705)), (2, .long x902), (4, .int (nI (160 * n5705))), (5, .int 1)]) ?_ [2, 3, 4, 1, 0] rfl
      exact lq_X10_partFor_36 F hQ hob hP  (1000 - 1 + 1) n5705 (160 * n5705) 1 _ h5710 (by omega) (Nat.lt_succ_self _)
set_option maxRecDepth 20000 in
theorem q_X10_yields (l : Launch) (V : VX) (c T Z u h : Nat) (P : NP) (L : Nat → LQ) (N : Nat) (σ : Mem) (x901 : Int32) (x902 : Int32) (x903 : Int64) (h0 : HR V c ⟨T, Z, u, h, P, L⟩ σ) (hob : OKB L) (hP : OKP P)  : Ct l V yX10_yields cX10_yields 5 (some .int) 3 0 0 N σ [.ref c, .int x901, .int x902, .long x903] (fun r τ => HS V c (⟨T, Z, u, h, P, L⟩ : RG) [0, 2, 3, 4, 5, 6, 7, 8, 9, 10, 11, 12, 13, 14, 15, 16, 17, 18, 19, 20, 21, 22, 23] σ τ ∧ ∃ x : Int32, r = some (.int x)) := by
  refine Ct.of (by decide) (Nat.le_of_ble_eq_true rfl) [(0, .ref c), (1, .int x901), (2, .int x902), (3, .long x903)] rfl (fun X hX F hQ => ?_)
  have hPP := hP
  unfold OKP at hPP
  have h1 : HS V c ⟨T, Z, u, h, P, L⟩ [0, 2, 3, 4, 5, 6, 7, 8, 9, 10, 11, 12, 13, 14, 15, 16, 17, 18, 19, 20, 21, 22, 23] σ σ := HS.start h0
  refine m_aload_n F rfl e_X10_yields_0 ?_
  refine m_iconst F (v := 0) (by decide) e_X10_yields_1 ?_
  refine r_put F (g' := (⟨T, Z, u, h, P, L⟩ : RG)) e_X10_yields_2 fp_X10_91 h1 (by decide) ⟨_, rfl⟩ (fun _ _ _ _ q => q) (fun _ _ _ q => q) rfl rfl (by decide) (fun σ5713 h5714 g5715 g5716 f5717 => ?_)
  refine m_aload_n F rfl e_X10_yields_5 ?_
  refine m_iload_n F rfl e_X10_yields_6 ?_
  refine m_iload_n F rfl e_X10_yields_7 ?_
  refine r_callV F e_X10_yields_8 (q_X10_isOwn (x_l X) V c T Z u h P L _ _ x901 x902 h5714.1 (hob) hP ) cb_X10_isOwn ml_X10_295 im_X10_isOwn se_X10_isOwn h5714 rfl rfl (rest := []) rfl (Nat.le_of_ble_eq_true rfl) ⟨Nat.le_of_ble_eq_true rfl, Nat.le_of_ble_eq_true rfl⟩ ⟨Nat.le_of_ble_eq_true rfl, Nat.le_of_ble_eq_true rfl⟩ (fun r σ5718 hp => ?_)
  obtain ⟨h5719, c5721⟩ := hp
  have h5720 := HS.trans h5714 h5719 (by decide)
  rcases c5721 with rfl | ⟨n5722, n5723, h5724, h5725, h5726, e5727, e5728, rfl⟩
  · refine m_if_eq F e_X10_yields_11 (fun _ => ?_) (fun q => absurd (by decide) q)
    refine m_iconst F (v := (-1)) (by decide) e_X10_yields_38 ?_
    exact m_iret F hQ e_X10_yields_39 (⟨h5720, _, rfl⟩)
  · subst e5727
    subst e5728
    refine m_if_eq F e_X10_yields_11 (fun q => absurd q (by decide)) (fun _ => ?_)
    have hl5729 := (hob).2 n5722 (by omega)
    have hl5730 := (hob).2 n5722 (by omega)
    have hl5731 := (hob).2 n5722 (by omega)
    refine m_lload_n F rfl e_X10_yields_14 ?_
    refine m_lconst F (v := 1) (by decide) e_X10_yields_15 ?_
    refine m_lcmp F e_X10_yields_16 ?_
    refine Wm.top (fun x5732 _ => ?_)
    refine m_if_lt F e_X10_yields_17 (fun q17 => ?_) (fun q17 => ?_)
    · refine m_iconst F (v := (-1)) (by decide) e_X10_yields_38 ?_
      exact m_iret F hQ e_X10_yields_39 (⟨h5720, _, rfl⟩)
    · obtain ⟨n5733, hn5733, rfl⟩ := nI_nn (x := x5732) (fun e => q17 (Int32.lt_of_lt_of_le e (by decide)))
      have c17 : n5733 ≥ 0 := by have hh := mt (nI_ltI (a := n5733) (b := 0) (by omega) (by omega)).mpr q17; omega
      refine m_lload_n F rfl e_X10_yields_20 ?_
      refine m_ldc2 F kc_X10_349 e_X10_yields_21 ?_
      refine m_lcmp F e_X10_yields_24 ?_
      refine Wm.top (fun x5734 _ => ?_)
      refine m_if_gt F e_X10_yields_25 (fun q25 => ?_) (fun q25 => ?_)
      · obtain ⟨n5735, hn5735, rfl⟩ := nI_nn (x := x5734) (fun e => Int32.lt_irrefl (Int32.lt_trans e (Int32.lt_of_le_of_lt (by decide) q25)))
        have c25 : n5735 > 0 := (nI_ltI (a := 0) (b := n5735) (by omega) (by omega)).mp q25
        refine m_iconst F (v := (-1)) (by decide) e_X10_yields_38 ?_
        exact m_iret F hQ e_X10_yields_39 (⟨h5720, _, rfl⟩)
      · refine m_aload_n F rfl e_X10_yields_28 ?_
        refine m_iload_n F rfl e_X10_yields_29 ?_
        refine m_iload_n F rfl e_X10_yields_30 ?_
        refine m_lload_n F rfl e_X10_yields_31 ?_
        refine r_callV F e_X10_yields_32 (q_X10_rateFor (x_l X) V c T Z u h P L _ _ n5722 n5723 x903 h5720.1 (hob) hP (by omega) (by omega) (by first | omega | assumption | decide)) cb_X10_rateFor ml_X10_226 im_X10_rateFor se_X10_rateFor h5720 rfl rfl (rest := []) rfl (Nat.le_of_ble_eq_true rfl) ⟨Nat.le_of_ble_eq_true rfl, Nat.le_of_ble_eq_true rfl⟩ ⟨Nat.le_of_ble_eq_true rfl, Nat.le_of_ble_eq_true rfl⟩ (fun r σ5736 hp => ?_)
        obtain ⟨h5737, c5739⟩ := hp
        have h5738 := HS.trans h5720 h5737 (by decide)
        rcases c5739 with rfl | ⟨n5740, hn5740, rfl⟩
        · refine m_goto F e_X10_yields_35 ?_
          exact m_iret F hQ e_X10_yields_39 (⟨h5738, _, rfl⟩)
        · refine m_goto F e_X10_yields_35 ?_
          exact m_iret F hQ e_X10_yields_39 (⟨h5738, _, rfl⟩)
set_option maxRecDepth 20000 in
theorem lq_X10_level_69 {V : VX} {X : MX} {N : Nat} {σ : Mem} {c T Z u h : Nat} {P : NP} {L : Nat → LQ}  {x902 : Int64} (F : Fx V X yX10_level cX10_level 9 (some .int) (rmd 2 0 0)) (hQ : Rt V X 0 0 N (fun r τ => HS V c (⟨T, Z, u, h, P, L⟩ : RG) [0, 2, 3, 4, 5, 6, 7, 8, 9, 10, 11, 12, 13, 14, 15, 16, 17, 18, 19, 20, 21, 22, 23] σ τ ∧ ∃ x : Int32, r = some (.int x))) (hob : OKB L) (hP : OKP P)   : ∀ (fuel : Nat) (d : Nat) (e : Nat) (a : Nat) (b : Nat) (τ : Mem), HS V c (⟨T, Z, u, h, P, L⟩ : RG) [0, 2, 3, 4, 5, 6, 7, 8, 9, 10, 11, 12, 13, 14, 15, 16, 17, 18, 19, 20, 21, 22, 23] σ τ → d ≤ 3 ∧ e ≤ 1000000 ∧ a ≤ b ∧ b ≤ 9999999 → b - a < fuel → Wm V X 9 N τ 0 0 69 [(0, .ref c), (1, .int (nI d)), (2, .long x902), (4, .long (lN e)), (6, .int (nI a)), (7, .int (nI b))] [] := by
  intro fuel
  induction fuel with
  | zero => intros; rename_i hm; exact absurd hm (Nat.not_lt_zero _)
  | succ fuel ih =>
    intro d e a b τ h1 hi hm
    have hPP := hP
    unfold OKP at hPP
    refine m_iload F rfl e_X10_level_69 ?_
    refine m_iload F rfl e_X10_level_71 ?_
    refine m_icmp_ge F e_X10_level_73 (fun q73 => ?_) (fun q73 => ?_)
    · have c73 : a ≥ b := (nI_leI (a := b) (b := a) (by omega) (by omega)).mp q73
      refine m_iload F rfl e_X10_level_117 ?_
      exact m_iret F hQ e_X10_level_119 (⟨h1, _, rfl⟩)
    · have c73 : a < b := by have hh := mt (nI_leI (a := b) (b := a) (by omega) (by omega)).mpr q73; omega
      refine m_iload F rfl e_X10_level_76 ?_
      refine m_iload F rfl e_X10_level_78 ?_
      refine m_iadd F e_X10_level_80 ?_
      refine Wm.topE (w := nI (a + b)) (nI_add a b) ?_
      refine m_iconst F (v := 2) (by decide) e_X10_level_81 ?_
      refine m_idiv F (by decide) e_X10_level_82 ?_
      refine Wm.topE (w := nI ((a + b) / 2)) (pk_div (a := a + b) (d := 2) (by omega) (by decide) (by decide)) ?_
      refine m_istore F (lv' := [(8, .int (nI ((a + b) / 2))), (0, .ref c), (1, .int (nI d)), (2, .long x902), (4, .long (lN e)), (6, .int (nI a)), (7, .int (nI b))]) e_X10_level_83 (by decide) rfl ?_
      refine m_aload_n F rfl e_X10_level_85 ?_
      refine m_iload_n F rfl e_X10_level_86 ?_
      refine m_iconst F (v := 1) (by decide) e_X10_level_87 ?_
      refine m_lload F rfl e_X10_level_88 ?_
      refine m_iload F rfl e_X10_level_90 ?_
      refine m_i2l F e_X10_level_92 ?_
      refine Wm.toplE (w := lN ((a + b) / 2)) (nI_l (by omega)) ?_
      refine r_callV F e_X10_level_93 (q_X10_worthBy (x_l X) V c T Z u h P L _ _ d 1 e (lN ((a + b) / 2)) h1.1 (hob) hP (by omega) (by omega) (by omega) (by first | omega | assumption | decide)) cb_X10_worthBy ml_X10_247 im_X10_worthBy se_X10_worthBy h1 rfl rfl (rest := []) rfl (Nat.le_of_ble_eq_true rfl) ⟨Nat.le_of_ble_eq_true rfl, Nat.le_of_ble_eq_true rfl⟩ ⟨Nat.le_of_ble_eq_true rfl, Nat.le_of_ble_eq_true rfl⟩ (fun r σ5741 hp => ?_)
      obtain ⟨h5742, x5744, rfl⟩ := hp
      have h5743 := HS.trans h1 h5742 (by decide)
      refine m_lload_n F rfl e_X10_level_96 ?_
      refine m_lcmp F e_X10_level_97 ?_
      refine Wm.top (fun x5745 _ => ?_)
      refine m_if_lt F e_X10_level_98 (fun q98 => ?_) (fun q98 => ?_)
      · refine m_iload F rfl e_X10_level_108 ?_
        refine m_iconst F (v := 1) (by decide) e_X10_level_110 ?_
        refine m_iadd F e_X10_level_111 ?_
        refine Wm.topE (w := nI ((a + b) / 2 + 1)) (nI_add ((a + b) / 2) 1) ?_
        refine m_istore F (lv' := [(6, .int (nI ((a + b) / 2 + 1))), (8, .int (nI ((a + b) / 2))), (0, .ref c), (1, .int (nI d)), (2, .long x902), (4, .long (lN e)), (7, .int (nI b))]) e_X10_level_112 (by decide) rfl ?_
        refine m_goto F e_X10_level_114 ?_
        refine Wm.lvsub (lv' := [(0, .ref c), (1, .int (nI d)), (2, .long x902), (4, .long (lN e)), (6, .int (nI ((a + b) / 2 + 1))), (7, .int (nI b))]) ?_ [2, 3, 4, 5, 0, 6] rfl
        exact ih d e ((a + b) / 2 + 1) b _ h5743 (by omega) (by omega)
      · obtain ⟨n5746, hn5746, rfl⟩ := nI_nn (x := x5745) (fun e => q98 (Int32.lt_of_lt_of_le e (by decide)))
        have c98 : n5746 ≥ 0 := by have hh := mt (nI_ltI (a := n5746) (b := 0) (by omega) (by omega)).mpr q98; omega
        refine m_iload F rfl e_X10_level_101 ?_
        refine m_istore F (lv' := [(7, .int (nI ((a + b) / 2))), (8, .int (nI ((a + b) / 2))), (0, .ref c), (1, .int (nI d)), (2, .long x902), (4, .long (lN e)), (6, .int (nI a))]) e_X10_level_103 (by decide) rfl ?_
        refine m_goto F e_X10_level_105 ?_
        refine m_goto F e_X10_level_114 ?_
        refine Wm.lvsub (lv' := [(0, .ref c), (1, .int (nI d)), (2, .long x902), (4, .long (lN e)), (6, .int (nI a)), (7, .int (nI ((a + b) / 2)))]) ?_ [2, 3, 4, 5, 6, 0] rfl
        exact ih d e a ((a + b) / 2) _ h5743 (by omega) (by omega)
set_option maxRecDepth 20000 in
theorem q_X10_level (l : Launch) (V : VX) (c T Z u h : Nat) (P : NP) (L : Nat → LQ) (N : Nat) (σ : Mem) (x901 : Int32) (x902 : Int64) (h0 : HR V c ⟨T, Z, u, h, P, L⟩ σ) (hob : OKB L) (hP : OKP P)  : Ct l V yX10_level cX10_level 9 (some .int) 2 0 0 N σ [.ref c, .int x901, .long x902] (fun r τ => HS V c (⟨T, Z, u, h, P, L⟩ : RG) [0, 2, 3, 4, 5, 6, 7, 8, 9, 10, 11, 12, 13, 14, 15, 16, 17, 18, 19, 20, 21, 22, 23] σ τ ∧ ∃ x : Int32, r = some (.int x)) := by
  refine Ct.of (by decide) (Nat.le_of_ble_eq_true rfl) [(0, .ref c), (1, .int x901), (2, .long x902)] rfl (fun X hX F hQ => ?_)
  have hPP := hP
  unfold OKP at hPP
  have h1 : HS V c ⟨T, Z, u, h, P, L⟩ [0, 2, 3, 4, 5, 6, 7, 8, 9, 10, 11, 12, 13, 14, 15, 16, 17, 18, 19, 20, 21, 22, 23] σ σ := HS.start h0
  refine m_aload_n F rfl e_X10_level_0 ?_
  refine m_iconst F (v := 0) (by decide) e_X10_level_1 ?_
  refine r_put F (g' := (⟨T, Z, u, h, P, L⟩ : RG)) e_X10_level_2 fp_X10_91 h1 (by decide) ⟨_, rfl⟩ (fun _ _ _ _ q => q) (fun _ _ _ q => q) rfl rfl (by decide) (fun σ5747 h5748 g5749 g5750 f5751 => ?_)
  refine m_aload_n F rfl e_X10_level_5 ?_
  refine m_iload_n F rfl e_X10_level_6 ?_
  refine r_callV F e_X10_level_7 (q_X10_isLease (x_l X) V c T Z u h P L _ _ x901 h5748.1 (hob) hP ) cb_X10_isLease ml_X10_292 im_X10_isLease se_X10_isLease h5748 rfl rfl (rest := []) rfl (Nat.le_of_ble_eq_true rfl) ⟨Nat.le_of_ble_eq_true rfl, Nat.le_of_ble_eq_true rfl⟩ ⟨Nat.le_of_ble_eq_true rfl, Nat.le_of_ble_eq_true rfl⟩ (fun r σ5752 hp => ?_)
  obtain ⟨h5753, c5755⟩ := hp
  have h5754 := HS.trans h5748 h5753 (by decide)
  rcases c5755 with rfl | ⟨n5756, h5757, e5758, rfl⟩
  · refine m_if_eq F e_X10_level_10 (fun _ => ?_) (fun q => absurd (by decide) q)
    refine m_iconst F (v := (-1)) (by decide) e_X10_level_27 ?_
    exact m_iret F hQ e_X10_level_28 (⟨h5754, _, rfl⟩)
  · subst e5758
    refine m_if_eq F e_X10_level_10 (fun q => absurd q (by decide)) (fun _ => ?_)
    refine m_lload_n F rfl e_X10_level_13 ?_
    refine m_lconst F (v := 1) (by decide) e_X10_level_14 ?_
    refine m_lcmp F e_X10_level_15 ?_
    refine Wm.top (fun x5759 _ => ?_)
    refine m_if_lt F e_X10_level_16 (fun q16 => ?_) (fun q16 => ?_)
    · refine m_iconst F (v := (-1)) (by decide) e_X10_level_27 ?_
      exact m_iret F hQ e_X10_level_28 (⟨h5754, _, rfl⟩)
    · obtain ⟨n5760, hn5760, rfl⟩ := nI_nn (x := x5759) (fun e => q16 (Int32.lt_of_lt_of_le e (by decide)))
      have c16 : n5760 ≥ 0 := by have hh := mt (nI_ltI (a := n5760) (b := 0) (by omega) (by omega)).mpr q16; omega
      refine m_lload_n F rfl e_X10_level_19 ?_
      refine m_ldc2 F kc_X10_349 e_X10_level_20 ?_
      refine m_lcmp F e_X10_level_23 ?_
      refine Wm.top (fun x5761 _ => ?_)
      refine m_if_le F e_X10_level_24 (fun q24 => ?_) (fun q24 => ?_)
      · refine m_aload_n F rfl e_X10_level_29 ?_
        refine r_get F e_X10_level_30 fl_X10_59 h5754 rfl (fun v hv f5762 => ?_)
        obtain rfl : v = .ref (c + 16) := hv
        refine m_sipush F (v := 160) (by decide) e_X10_level_33 ?_
        refine m_iload_n F rfl e_X10_level_36 ?_
        refine m_imul F e_X10_level_37 ?_
        refine Wm.topE (w := nI (160 * n5756)) (pk_mul 160 n5756) ?_
        refine m_iconst F (v := 2) (by decide) e_X10_level_38 ?_
        refine m_iadd F e_X10_level_39 ?_
        refine Wm.topE (w := nI (160 * n5756 + 2)) (nI_add (160 * n5756) 2) ?_
        refine r_sld F (j := 160 * n5756 + 2) e_X10_level_40 h5754 (nI_clamp (by omega)) (vp_in_nI (by omega) (by decide)) (fun x5763 h5764 f5765 => ?_)
        obtain ⟨n5766, hn5766, rfl⟩ : ∃ n : Nat, n ≤ 1000000 ∧ x5763 = lN n := (EJ_l (l := n5756) (r := 2) (by omega) (by decide)).mp h5764
        refine m_lstore F (lv' := [(4, .long (lN n5766)), (0, .ref c), (1, .int (nI n5756)), (2, .long x902)]) e_X10_level_41 (by decide) rfl ?_
        refine m_aload_n F rfl e_X10_level_43 ?_
        refine m_iload_n F rfl e_X10_level_44 ?_
        refine m_iconst F (v := 1) (by decide) e_X10_level_45 ?_
        refine m_lload F rfl e_X10_level_46 ?_
        refine m_ldc2 F kc_X10_351 e_X10_level_48 ?_
        refine r_callV F e_X10_level_51 (q_X10_worthBy (x_l X) V c T Z u h P L _ _ n5756 1 n5766 9999999 h5754.1 (hob) hP (by omega) (by omega) (by omega) (by first | omega | assumption | decide)) cb_X10_worthBy ml_X10_247 im_X10_worthBy se_X10_worthBy h5754 rfl rfl (rest := []) rfl (Nat.le_of_ble_eq_true rfl) ⟨Nat.le_of_ble_eq_true rfl, Nat.le_of_ble_eq_true rfl⟩ ⟨Nat.le_of_ble_eq_true rfl, Nat.le_of_ble_eq_true rfl⟩ (fun r σ5767 hp => ?_)
        obtain ⟨h5768, x5770, rfl⟩ := hp
        have h5769 := HS.trans h5754 h5768 (by decide)
        refine m_lload_n F rfl e_X10_level_54 ?_
        refine m_lcmp F e_X10_level_55 ?_
        refine Wm.top (fun x5771 _ => ?_)
        refine m_if_ge F e_X10_level_56 (fun q56 => ?_) (fun q56 => ?_)
        · obtain ⟨n5772, hn5772, rfl⟩ := nI_nn (x := x5771) (fun e => Int32.lt_irrefl (Int32.lt_of_lt_of_le e (Int32.le_trans (by decide) q56)))
          have c56 : n5772 ≥ 0 := (nI_leI (a := 0) (b := n5772) (by omega) (by omega)).mp q56
          refine m_iconst F (v := 0) (by decide) e_X10_level_62 ?_
          refine m_istore F (lv' := [(6, .int 0), (4, .long (lN n5766)), (0, .ref c), (1, .int (nI n5756)), (2, .long x902)]) e_X10_level_63 (by decide) rfl ?_
          refine m_ldc F kc_X10_129 e_X10_level_65 ?_
          refine m_istore F (lv' := [(7, .int 9999999), (6, .int 0), (4, .long (lN n5766)), (0, .ref c), (1, .int (nI n5756)), (2, .long x902)]) e_X10_level_67 (by decide) rfl ?_
          refine Wm.lvsub (lv' := [(0, .ref c), (1, .int (nI n5756)), (2, .long x902), (4, .long (lN n5766)), (6, .int 0), (7, .int 9999999)]) ?_ [3, 4, 5, 2, 1, 0] rfl
          exact lq_X10_level_69 F hQ hob hP  (9999999 - 0 + 1) n5756 n5766 0 9999999 _ h5769 (by omega) (Nat.lt_succ_self _)
        · refine m_bipush F (v := (-2)) (by decide) e_X10_level_59 ?_
          exact m_iret F hQ e_X10_level_61 (⟨h5769, _, rfl⟩)
      · obtain ⟨n5773, hn5773, rfl⟩ := nI_nn (x := x5761) (fun e => q24 (Int32.le_trans (Int32.le_of_lt e) (by decide)))
        have c24 : n5773 > 0 := by have hh := mt (nI_leI (a := n5773) (b := 0) (by omega) (by omega)).mpr q24; omega
        refine m_iconst F (v := (-1)) (by decide) e_X10_level_27 ?_
        exact m_iret F hQ e_X10_level_28 (⟨h5754, _, rfl⟩)
set_option maxRecDepth 20000 in
theorem lq_X10_owedAll_4 {V : VX} {X : MX} {N : Nat} {σ : Mem} {c T Z u h : Nat} {P : NP} {L : Nat → LQ}   (F : Fx V X yX10_owedAll cX10_owedAll 4 (some .long) (rmd 1 0 0)) (hQ : Rt V X 0 0 N (fun r τ => HS V c (⟨T, Z, u, h, P, L⟩ : RG) [0, 1, 2, 3, 4, 5, 6, 7, 8, 9, 10, 11, 12, 13, 14, 15, 16, 17, 18, 19, 20, 21, 22, 23] σ τ ∧ ∃ x : Int64, r = some (.long x))) (hob : OKB L) (hP : OKP P)   : ∀ (fuel : Nat) (w1 : Int64) (i : Nat) (τ : Mem), HS V c (⟨T, Z, u, h, P, L⟩ : RG) [0, 1, 2, 3, 4, 5, 6, 7, 8, 9, 10, 11, 12, 13, 14, 15, 16, 17, 18, 19, 20, 21, 22, 23] σ τ → i ≤ 4 → 4 - i < fuel → Wm V X 4 N τ 0 0 4 [(0, .ref c), (1, .long w1), (3, .int (nI i))] [] := by
  intro fuel
  induction fuel with
  | zero => intros; rename_i hm; exact absurd hm (Nat.not_lt_zero _)
  | succ fuel ih =>
    intro w1 i τ h1 hi hm
    have hPP := hP
    unfold OKP at hPP
    refine m_iload_n F rfl e_X10_owedAll_4 ?_
    refine m_aload_n F rfl e_X10_owedAll_5 ?_
    refine r_callV F e_X10_owedAll_6 (q_X10_leases (x_l X) V c T Z u h P L _ _  h1.1 (hob) hP ) cb_X10_leases ml_X10_221 im_X10_leases se_X10_leases h1 rfl rfl (rest := [.int (nI i)]) rfl (Nat.le_of_ble_eq_true rfl) ⟨Nat.le_of_ble_eq_true rfl, Nat.le_of_ble_eq_true rfl⟩ ⟨Nat.le_of_ble_eq_true rfl, Nat.le_of_ble_eq_true rfl⟩ (fun r σ5774 hp => ?_)
    obtain ⟨h5775, rfl⟩ := hp
    have h5776 := HS.trans h1 h5775 (by decide)
    refine m_icmp_ge F e_X10_owedAll_9 (fun q9 => ?_) (fun q9 => ?_)
    · have c9 : i ≥ P.n0 := (nI_leI (a := P.n0) (b := i) (by omega) (by omega)).mp q9
      refine m_lload_n F rfl e_X10_owedAll_34 ?_
      exact m_lret F hQ e_X10_owedAll_35 (⟨h5776, _, rfl⟩)
    · have c9 : i < P.n0 := by have hh := mt (nI_leI (a := P.n0) (b := i) (by omega) (by omega)).mpr q9; omega
      refine m_lload_n F rfl e_X10_owedAll_12 ?_
      refine m_aload_n F rfl e_X10_owedAll_13 ?_
      refine r_get F e_X10_owedAll_14 fl_X10_59 h5776 rfl (fun v hv f5777 => ?_)
      obtain rfl : v = .ref (c + 16) := hv
      refine m_sipush F (v := 160) (by decide) e_X10_owedAll_17 ?_
      refine m_iload_n F rfl e_X10_owedAll_20 ?_
      refine m_imul F e_X10_owedAll_21 ?_
      refine Wm.topE (w := nI (160 * i)) (pk_mul 160 i) ?_
      refine m_bipush F (v := 6) (by decide) e_X10_owedAll_22 ?_
      refine m_iadd F e_X10_owedAll_24 ?_
      refine Wm.topE (w := nI (160 * i + 6)) (nI_add (160 * i) 6) ?_
      refine r_sld F (j := 160 * i + 6) e_X10_owedAll_25 h5776 (nI_clamp (by omega)) (vp_in_nI (by omega) (by decide)) (fun x5778 h5779 f5780 => ?_)
      refine m_ladd F e_X10_owedAll_26 ?_
      refine Wm.topl (fun x5781 _ => ?_)
      refine m_lstore_n F (lv' := [(1, .long x5781), (0, .ref c), (3, .int (nI i))]) e_X10_owedAll_27 (by decide) rfl ?_
      refine m_iinc F (v := nI (i + 1)) (lv' := [(3, .int (nI (i + 1))), (1, .long x5781), (0, .ref c)]) e_X10_owedAll_28 rfl (nI_add i 1) (by decide) rfl ?_
      refine m_goto F e_X10_owedAll_31 ?_
      refine Wm.lvsub (lv' := [(0, .ref c), (1, .long x5781), (3, .int (nI (i + 1)))]) ?_ [2, 1, 0] rfl
      exact ih x5781 (i + 1) _ h5776 (by omega) (by omega)
set_option maxRecDepth 20000 in
theorem q_X10_owedAll (l : Launch) (V : VX) (c T Z u h : Nat) (P : NP) (L : Nat → LQ) (N : Nat) (σ : Mem)  (h0 : HR V c ⟨T, Z, u, h, P, L⟩ σ) (hob : OKB L) (hP : OKP P)  : Ct l V yX10_owedAll cX10_owedAll 4 (some .long) 1 0 0 N σ [.ref c] (fun r τ => HS V c (⟨T, Z, u, h, P, L⟩ : RG) [0, 1, 2, 3, 4, 5, 6, 7, 8, 9, 10, 11, 12, 13, 14, 15, 16, 17, 18, 19, 20, 21, 22, 23] σ τ ∧ ∃ x : Int64, r = some (.long x)) := by
  refine Ct.of (by decide) (Nat.le_of_ble_eq_true rfl) [(0, .ref c)] rfl (fun X hX F hQ => ?_)
  have hPP := hP
  unfold OKP at hPP
  have h1 : HS V c ⟨T, Z, u, h, P, L⟩ [0, 1, 2, 3, 4, 5, 6, 7, 8, 9, 10, 11, 12, 13, 14, 15, 16, 17, 18, 19, 20, 21, 22, 23] σ σ := HS.start h0
  refine m_lconst F (v := 0) (by decide) e_X10_owedAll_0 ?_
  refine m_lstore_n F (lv' := [(1, .long 0), (0, .ref c)]) e_X10_owedAll_1 (by decide) rfl ?_
  refine m_iconst F (v := 0) (by decide) e_X10_owedAll_2 ?_
  refine m_istore_n F (lv' := [(3, .int 0), (1, .long 0), (0, .ref c)]) e_X10_owedAll_3 (by decide) rfl ?_
  refine Wm.lvsub (lv' := [(0, .ref c), (1, .long 0), (3, .int 0)]) ?_ [2, 1, 0] rfl
  exact lq_X10_owedAll_4 F hQ hob hP  (4 - 0 + 1) 0 0 _ h1 (by omega) (Nat.lt_succ_self _)
set_option maxRecDepth 20000 in
theorem lq_X10_paidAll_4 {V : VX} {X : MX} {N : Nat} {σ : Mem} {c T Z u h : Nat} {P : NP} {L : Nat → LQ}   (F : Fx V X yX10_paidAll cX10_paidAll 4 (some .long) (rmd 1 0 0)) (hQ : Rt V X 0 0 N (fun r τ => HS V c (⟨T, Z, u, h, P, L⟩ : RG) [0, 1, 2, 3, 4, 5, 6, 7, 8, 9, 10, 11, 12, 13, 14, 15, 16, 17, 18, 19, 20, 21, 22, 23] σ τ ∧ ∃ x : Int64, r = some (.long x))) (hob : OKB L) (hP : OKP P)   : ∀ (fuel : Nat) (w1 : Int64) (i : Nat) (τ : Mem), HS V c (⟨T, Z, u, h, P, L⟩ : RG) [0, 1, 2, 3, 4, 5, 6, 7, 8, 9, 10, 11, 12, 13, 14, 15, 16, 17, 18, 19, 20, 21, 22, 23] σ τ → i ≤ 4 → 4 - i < fuel → Wm V X 4 N τ 0 0 4 [(0, .ref c), (1, .long w1), (3, .int (nI i))] [] := by
  intro fuel
  induction fuel with
  | zero => intros; rename_i hm; exact absurd hm (Nat.not_lt_zero _)
  | succ fuel ih =>
    intro w1 i τ h1 hi hm
    have hPP := hP
    unfold OKP at hPP
    refine m_iload_n F rfl e_X10_paidAll_4 ?_
    refine m_aload_n F rfl e_X10_paidAll_5 ?_
    refine r_callV F e_X10_paidAll_6 (q_X10_leases (x_l X) V c T Z u h P L _ _  h1.1 (hob) hP ) cb_X10_leases ml_X10_221 im_X10_leases se_X10_leases h1 rfl rfl (rest := [.int (nI i)]) rfl (Nat.le_of_ble_eq_true rfl) ⟨Nat.le_of_ble_eq_true rfl, Nat.le_of_ble_eq_true rfl⟩ ⟨Nat.le_of_ble_eq_true rfl, Nat.le_of_ble_eq_true rfl⟩ (fun r σ5782 hp => ?_)
    obtain ⟨h5783, rfl⟩ := hp
    have h5784 := HS.trans h1 h5783 (by decide)
    refine m_icmp_ge F e_X10_paidAll_9 (fun q9 => ?_) (fun q9 => ?_)
    · have c9 : i ≥ P.n0 := (nI_leI (a := P.n0) (b := i) (by omega) (by omega)).mp q9
      refine m_lload_n F rfl e_X10_paidAll_34 ?_
      exact m_lret F hQ e_X10_paidAll_35 (⟨h5784, _, rfl⟩)
    · have c9 : i < P.n0 := by have hh := mt (nI_leI (a := P.n0) (b := i) (by omega) (by omega)).mpr q9; omega
      refine m_lload_n F rfl e_X10_paidAll_12 ?_
      refine m_aload_n F rfl e_X10_paidAll_13 ?_
      refine r_get F e_X10_paidAll_14 fl_X10_59 h5784 rfl (fun v hv f5785 => ?_)
      obtain rfl : v = .ref (c + 16) := hv
      refine m_sipush F (v := 160) (by decide) e_X10_paidAll_17 ?_
      refine m_iload_n F rfl e_X10_paidAll_20 ?_
      refine m_imul F e_X10_paidAll_21 ?_
      refine Wm.topE (w := nI (160 * i)) (pk_mul 160 i) ?_
      refine m_bipush F (v := 10) (by decide) e_X10_paidAll_22 ?_
      refine m_iadd F e_X10_paidAll_24 ?_
      refine Wm.topE (w := nI (160 * i + 10)) (nI_add (160 * i) 10) ?_
      refine r_sld F (j := 160 * i + 10) e_X10_paidAll_25 h5784 (nI_clamp (by omega)) (vp_in_nI (by omega) (by decide)) (fun x5786 h5787 f5788 => ?_)
      refine m_ladd F e_X10_paidAll_26 ?_
      refine Wm.topl (fun x5789 _ => ?_)
      refine m_lstore_n F (lv' := [(1, .long x5789), (0, .ref c), (3, .int (nI i))]) e_X10_paidAll_27 (by decide) rfl ?_
      refine m_iinc F (v := nI (i + 1)) (lv' := [(3, .int (nI (i + 1))), (1, .long x5789), (0, .ref c)]) e_X10_paidAll_28 rfl (nI_add i 1) (by decide) rfl ?_
      refine m_goto F e_X10_paidAll_31 ?_
      refine Wm.lvsub (lv' := [(0, .ref c), (1, .long x5789), (3, .int (nI (i + 1)))]) ?_ [2, 1, 0] rfl
      exact ih x5789 (i + 1) _ h5784 (by omega) (by omega)
set_option maxRecDepth 20000 in
theorem q_X10_paidAll (l : Launch) (V : VX) (c T Z u h : Nat) (P : NP) (L : Nat → LQ) (N : Nat) (σ : Mem)  (h0 : HR V c ⟨T, Z, u, h, P, L⟩ σ) (hob : OKB L) (hP : OKP P)  : Ct l V yX10_paidAll cX10_paidAll 4 (some .long) 1 0 0 N σ [.ref c] (fun r τ => HS V c (⟨T, Z, u, h, P, L⟩ : RG) [0, 1, 2, 3, 4, 5, 6, 7, 8, 9, 10, 11, 12, 13, 14, 15, 16, 17, 18, 19, 20, 21, 22, 23] σ τ ∧ ∃ x : Int64, r = some (.long x)) := by
  refine Ct.of (by decide) (Nat.le_of_ble_eq_true rfl) [(0, .ref c)] rfl (fun X hX F hQ => ?_)
  have hPP := hP
  unfold OKP at hPP
  have h1 : HS V c ⟨T, Z, u, h, P, L⟩ [0, 1, 2, 3, 4, 5, 6, 7, 8, 9, 10, 11, 12, 13, 14, 15, 16, 17, 18, 19, 20, 21, 22, 23] σ σ := HS.start h0
  refine m_lconst F (v := 0) (by decide) e_X10_paidAll_0 ?_
  refine m_lstore_n F (lv' := [(1, .long 0), (0, .ref c)]) e_X10_paidAll_1 (by decide) rfl ?_
  refine m_iconst F (v := 0) (by decide) e_X10_paidAll_2 ?_
  refine m_istore_n F (lv' := [(3, .int 0), (1, .long 0), (0, .ref c)]) e_X10_paidAll_3 (by decide) rfl ?_
  refine Wm.lvsub (lv' := [(0, .ref c), (1, .long 0), (3, .int 0)]) ?_ [2, 1, 0] rfl
  exact lq_X10_paidAll_4 F hQ hob hP  (4 - 0 + 1) 0 0 _ h1 (by omega) (Nat.lt_succ_self _)
set_option maxRecDepth 20000 in
theorem lq_X10_running_4 {V : VX} {X : MX} {N : Nat} {σ : Mem} {c T Z u h : Nat} {P : NP} {L : Nat → LQ}   (F : Fx V X yX10_running cX10_running 3 (some .int) (rmd 1 0 0)) (hQ : Rt V X 0 0 N (fun r τ => HS V c (⟨T, Z, u, h, P, L⟩ : RG) [0, 1, 2, 3, 4, 5, 6, 7, 8, 9, 10, 11, 12, 13, 14, 15, 16, 17, 18, 19, 20, 21, 22, 23] σ τ ∧ ∃ x : Int32, r = some (.int x))) (hob : OKB L) (hP : OKP P)   : ∀ (fuel : Nat) (w1 : Int32) (i : Nat) (τ : Mem), HS V c (⟨T, Z, u, h, P, L⟩ : RG) [0, 1, 2, 3, 4, 5, 6, 7, 8, 9, 10, 11, 12, 13, 14, 15, 16, 17, 18, 19, 20, 21, 22, 23] σ τ → i ≤ 4 → 4 - i < fuel → Wm V X 3 N τ 0 0 4 [(0, .ref c), (1, .int w1), (2, .int (nI i))] [] := by
  intro fuel
  induction fuel with
  | zero => intros; rename_i hm; exact absurd hm (Nat.not_lt_zero _)
  | succ fuel ih =>
    intro w1 i τ h1 hi hm
    have hPP := hP
    unfold OKP at hPP
    refine m_iload_n F rfl e_X10_running_4 ?_
    refine m_aload_n F rfl e_X10_running_5 ?_
    refine r_callV F e_X10_running_6 (q_X10_leases (x_l X) V c T Z u h P L _ _  h1.1 (hob) hP ) cb_X10_leases ml_X10_221 im_X10_leases se_X10_leases h1 rfl rfl (rest := [.int (nI i)]) rfl (Nat.le_of_ble_eq_true rfl) ⟨Nat.le_of_ble_eq_true rfl, Nat.le_of_ble_eq_true rfl⟩ ⟨Nat.le_of_ble_eq_true rfl, Nat.le_of_ble_eq_true rfl⟩ (fun r σ5790 hp => ?_)
    obtain ⟨h5791, rfl⟩ := hp
    have h5792 := HS.trans h1 h5791 (by decide)
    refine m_icmp_ge F e_X10_running_9 (fun q9 => ?_) (fun q9 => ?_)
    · have c9 : i ≥ P.n0 := (nI_leI (a := P.n0) (b := i) (by omega) (by omega)).mp q9
      refine m_iload_n F rfl e_X10_running_34 ?_
      exact m_iret F hQ e_X10_running_35 (⟨h5792, _, rfl⟩)
    · have c9 : i < P.n0 := by have hh := mt (nI_leI (a := P.n0) (b := i) (by omega) (by omega)).mpr q9; omega
      refine m_iload_n F rfl e_X10_running_12 ?_
      refine m_aload_n F rfl e_X10_running_13 ?_
      refine m_iload_n F rfl e_X10_running_14 ?_
      refine r_callV F e_X10_running_15 (q_X10_isOn (x_l X) V c T Z u h P L _ _ i h5792.1 (hob) hP (by omega)) cb_X10_isOn ml_X10_267 im_X10_isOn se_X10_isOn h5792 rfl rfl (rest := [.int w1]) rfl (Nat.le_of_ble_eq_true rfl) ⟨Nat.le_of_ble_eq_true rfl, Nat.le_of_ble_eq_true rfl⟩ ⟨Nat.le_of_ble_eq_true rfl, Nat.le_of_ble_eq_true rfl⟩ (fun r σ5793 hp => ?_)
      obtain ⟨h5794, c5796⟩ := hp
      have h5795 := HS.trans h5792 h5794 (by decide)
      rcases c5796 with ⟨g5797, rfl⟩ | ⟨g5797, rfl⟩
      · refine m_if_eq F e_X10_running_18 (fun _ => ?_) (fun q => absurd (by decide) q)
        refine m_iconst F (v := 0) (by decide) e_X10_running_25 ?_
        refine m_iadd F e_X10_running_26 ?_
        refine Wm.top (fun x5798 _ => ?_)
        refine m_istore_n F (lv' := [(1, .int x5798), (0, .ref c), (2, .int (nI i))]) e_X10_running_27 (by decide) rfl ?_
        refine m_iinc F (v := nI (i + 1)) (lv' := [(2, .int (nI (i + 1))), (1, .int x5798), (0, .ref c)]) e_X10_running_28 rfl (nI_add i 1) (by decide) rfl ?_
        refine m_goto F e_X10_running_31 ?_
        refine Wm.lvsub (lv' := [(0, .ref c), (1, .int x5798), (2, .int (nI (i + 1)))]) ?_ [2, 1, 0] rfl
        exact ih x5798 (i + 1) _ h5795 (by omega) (by omega)
      · refine m_if_eq F e_X10_running_18 (fun q => absurd q (by decide)) (fun _ => ?_)
        refine m_iconst F (v := 1) (by decide) e_X10_running_21 ?_
        refine m_goto F e_X10_running_22 ?_
        refine m_iadd F e_X10_running_26 ?_
        refine Wm.top (fun x5799 _ => ?_)
        refine m_istore_n F (lv' := [(1, .int x5799), (0, .ref c), (2, .int (nI i))]) e_X10_running_27 (by decide) rfl ?_
        refine m_iinc F (v := nI (i + 1)) (lv' := [(2, .int (nI (i + 1))), (1, .int x5799), (0, .ref c)]) e_X10_running_28 rfl (nI_add i 1) (by decide) rfl ?_
        refine m_goto F e_X10_running_31 ?_
        refine Wm.lvsub (lv' := [(0, .ref c), (1, .int x5799), (2, .int (nI (i + 1)))]) ?_ [2, 1, 0] rfl
        exact ih x5799 (i + 1) _ h5795 (by omega) (by omega)
set_option maxRecDepth 20000 in
theorem q_X10_running (l : Launch) (V : VX) (c T Z u h : Nat) (P : NP) (L : Nat → LQ) (N : Nat) (σ : Mem)  (h0 : HR V c ⟨T, Z, u, h, P, L⟩ σ) (hob : OKB L) (hP : OKP P)  : Ct l V yX10_running cX10_running 3 (some .int) 1 0 0 N σ [.ref c] (fun r τ => HS V c (⟨T, Z, u, h, P, L⟩ : RG) [0, 1, 2, 3, 4, 5, 6, 7, 8, 9, 10, 11, 12, 13, 14, 15, 16, 17, 18, 19, 20, 21, 22, 23] σ τ ∧ ∃ x : Int32, r = some (.int x)) := by
  refine Ct.of (by decide) (Nat.le_of_ble_eq_true rfl) [(0, .ref c)] rfl (fun X hX F hQ => ?_)
  have hPP := hP
  unfold OKP at hPP
  have h1 : HS V c ⟨T, Z, u, h, P, L⟩ [0, 1, 2, 3, 4, 5, 6, 7, 8, 9, 10, 11, 12, 13, 14, 15, 16, 17, 18, 19, 20, 21, 22, 23] σ σ := HS.start h0
  refine m_iconst F (v := 0) (by decide) e_X10_running_0 ?_
  refine m_istore_n F (lv' := [(1, .int 0), (0, .ref c)]) e_X10_running_1 (by decide) rfl ?_
  refine m_iconst F (v := 0) (by decide) e_X10_running_2 ?_
  refine m_istore_n F (lv' := [(2, .int 0), (1, .int 0), (0, .ref c)]) e_X10_running_3 (by decide) rfl ?_
  refine Wm.lvsub (lv' := [(0, .ref c), (1, .int 0), (2, .int 0)]) ?_ [2, 1, 0] rfl
  exact lq_X10_running_4 F hQ hob hP  (4 - 0 + 1) 0 0 _ h1 (by omega) (Nat.lt_succ_self _)
set_option maxRecDepth 20000 in
theorem q_X10_count (l : Launch) (V : VX) (c T Z u h : Nat) (P : NP) (L : Nat → LQ) (N : Nat) (σ : Mem) (x901 : Int32) (h0 : HR V c ⟨T, Z, u, h, P, L⟩ σ) (hob : OKB L) (hP : OKP P)  : Ct l V yX10_count cX10_count 2 (some .int) 2 0 0 N σ [.ref c, .int x901] (fun r τ => HS V c (⟨T, Z, u, h, P, L⟩ : RG) [0, 2, 3, 4, 5, 6, 7, 8, 9, 10, 11, 12, 13, 14, 15, 16, 17, 18, 19, 20, 21, 22, 23] σ τ ∧ ∃ x : Int32, r = some (.int x)) := by
  refine Ct.of (by decide) (Nat.le_of_ble_eq_true rfl) [(0, .ref c), (1, .int x901)] rfl (fun X hX F hQ => ?_)
  have hPP := hP
  unfold OKP at hPP
  have h1 : HS V c ⟨T, Z, u, h, P, L⟩ [0, 2, 3, 4, 5, 6, 7, 8, 9, 10, 11, 12, 13, 14, 15, 16, 17, 18, 19, 20, 21, 22, 23] σ σ := HS.start h0
  refine m_aload_n F rfl e_X10_count_0 ?_
  refine m_iconst F (v := 0) (by decide) e_X10_count_1 ?_
  refine r_put F (g' := (⟨T, Z, u, h, P, L⟩ : RG)) e_X10_count_2 fp_X10_91 h1 (by decide) ⟨_, rfl⟩ (fun _ _ _ _ q => q) (fun _ _ _ q => q) rfl rfl (by decide) (fun σ5800 h5801 g5802 g5803 f5804 => ?_)
  refine m_iload_n F rfl e_X10_count_5 ?_
  by_cases ho6 : (x901 : Int32).toInt < 0 ∨ 7 < (x901 : Int32).toInt
  · refine m_tableOut F e_X10_count_6 ho6 (tgt := 109) (by decide) ?_
    refine m_iconst F (v := (-1)) (by decide) e_X10_count_109 ?_
    exact m_iret F hQ e_X10_count_110 (⟨h5801, _, rfl⟩)
  have hs6 : (x901 : Int32).toInt = 0 ∨ (x901 : Int32).toInt = 1 ∨ (x901 : Int32).toInt = 2 ∨ (x901 : Int32).toInt = 3 ∨ (x901 : Int32).toInt = 4 ∨ (x901 : Int32).toInt = 5 ∨ (x901 : Int32).toInt = 6 ∨ (x901 : Int32).toInt = 7 := by omega
  rcases hs6 with hv | hv | hv | hv | hv | hv | hv | hv
  · refine m_tableIn F e_X10_count_6 (by omega) (by omega) (off := 46) (tgt := 52) (by rw [hv]; rfl) (by decide) ?_
    refine m_aload_n F rfl e_X10_count_52 ?_
    refine r_callV F e_X10_count_53 (q_X10_leases (x_l X) V c T Z u h P L _ _  h5801.1 (hob) hP ) cb_X10_leases ml_X10_221 im_X10_leases se_X10_leases h5801 rfl rfl (rest := []) rfl (Nat.le_of_ble_eq_true rfl) ⟨Nat.le_of_ble_eq_true rfl, Nat.le_of_ble_eq_true rfl⟩ ⟨Nat.le_of_ble_eq_true rfl, Nat.le_of_ble_eq_true rfl⟩ (fun r σ5805 hp => ?_)
    obtain ⟨h5806, rfl⟩ := hp
    have h5807 := HS.trans h5801 h5806 (by decide)
    exact m_iret F hQ e_X10_count_56 (⟨h5807, _, rfl⟩)
  · refine m_tableIn F e_X10_count_6 (by omega) (by omega) (off := 51) (tgt := 57) (by rw [hv]; rfl) (by decide) ?_
    refine m_aload_n F rfl e_X10_count_57 ?_
    refine r_get F e_X10_count_58 fl_X10_13 h5801 rfl (fun v hv f5808 => ?_)
    obtain rfl : v = .ref (c + 2) := hv
    refine m_iconst F (v := 3) (by decide) e_X10_count_61 ?_
    refine r_iald F (len := 10) (j := 3) e_X10_count_62 h5801 (fun _ h => h) (by decide) (by decide) (by unfold vp_in; decide) (fun x5809 h5810 f5811 => ?_)
    obtain ⟨n5812, hn5812, rfl⟩ := h5810.2.2.2.2.1 rfl
    exact m_iret F hQ e_X10_count_63 (⟨h5801, _, rfl⟩)
  · refine m_tableIn F e_X10_count_6 (by omega) (by omega) (off := 58) (tgt := 64) (by rw [hv]; rfl) (by decide) ?_
    refine m_aload_n F rfl e_X10_count_64 ?_
    refine r_get F e_X10_count_65 fl_X10_59 h5801 rfl (fun v hv f5813 => ?_)
    obtain rfl : v = .ref (c + 16) := hv
    refine m_sipush F (v := 744) (by decide) e_X10_count_68 ?_
    refine r_sld F (j := 744) e_X10_count_71 h5801 (by decide) (by unfold vp_in; decide) (fun x5814 h5815 f5816 => ?_)
    have hl5817 := hob.1
    obtain rfl : x5814 = lN (L 4).1 := EJ_p.mp h5815
    refine m_l2i F e_X10_count_72 ?_
    refine Wm.topE (w := nI ((L 4).1)) (lN_i ((L 4).1)) ?_
    exact m_iret F hQ e_X10_count_73 (⟨h5801, _, rfl⟩)
  · refine m_tableIn F e_X10_count_6 (by omega) (by omega) (off := 68) (tgt := 74) (by rw [hv]; rfl) (by decide) ?_
    refine m_aload_n F rfl e_X10_count_74 ?_
    refine r_get F e_X10_count_75 fl_X10_59 h5801 rfl (fun v hv f5818 => ?_)
    obtain rfl : v = .ref (c + 16) := hv
    refine m_sipush F (v := 751) (by decide) e_X10_count_78 ?_
    refine r_sld F (j := 751) e_X10_count_81 h5801 (by decide) (by unfold vp_in; decide) (fun x5819 h5820 f5821 => ?_)
    obtain ⟨n5822, hn5822, rfl⟩ := EJ_m.mp h5820
    refine m_l2i F e_X10_count_82 ?_
    refine Wm.topE (w := nI n5822) (lN_i n5822) ?_
    exact m_iret F hQ e_X10_count_83 (⟨h5801, _, rfl⟩)
  · refine m_tableIn F e_X10_count_6 (by omega) (by omega) (off := 78) (tgt := 84) (by rw [hv]; rfl) (by decide) ?_
    refine m_aload_n F rfl e_X10_count_84 ?_
    refine r_get F e_X10_count_85 fl_X10_59 h5801 rfl (fun v hv f5823 => ?_)
    obtain rfl : v = .ref (c + 16) := hv
    refine m_sipush F (v := 752) (by decide) e_X10_count_88 ?_
    refine r_sld F (j := 752) e_X10_count_91 h5801 (by decide) (by unfold vp_in; decide) (fun x5824 h5825 f5826 => ?_)
    refine m_l2i F e_X10_count_92 ?_
    refine Wm.top (fun x5827 _ => ?_)
    exact m_iret F hQ e_X10_count_93 (⟨h5801, _, rfl⟩)
  · refine m_tableIn F e_X10_count_6 (by omega) (by omega) (off := 88) (tgt := 94) (by rw [hv]; rfl) (by decide) ?_
    refine m_aload_n F rfl e_X10_count_94 ?_
    refine r_callV F e_X10_count_95 (q_X10_running (x_l X) V c T Z u h P L _ _  h5801.1 (hob) hP ) cb_X10_running ml_X10_373 im_X10_running se_X10_running h5801 rfl rfl (rest := []) rfl (Nat.le_of_ble_eq_true rfl) ⟨Nat.le_of_ble_eq_true rfl, Nat.le_of_ble_eq_true rfl⟩ ⟨Nat.le_of_ble_eq_true rfl, Nat.le_of_ble_eq_true rfl⟩ (fun r σ5828 hp => ?_)
    obtain ⟨h5829, x5831, rfl⟩ := hp
    have h5830 := HS.trans h5801 h5829 (by decide)
    exact m_iret F hQ e_X10_count_98 (⟨h5830, _, rfl⟩)
  · refine m_tableIn F e_X10_count_6 (by omega) (by omega) (off := 93) (tgt := 99) (by rw [hv]; rfl) (by decide) ?_
    refine m_aload_n F rfl e_X10_count_99 ?_
    refine r_get F e_X10_count_100 fl_X10_214 h5801 rfl (fun v hv f5832 => ?_)
    obtain rfl : v = .int (nI (u)) := hv
    exact m_iret F hQ e_X10_count_103 (⟨h5801, _, rfl⟩)
  · refine m_tableIn F e_X10_count_6 (by omega) (by omega) (off := 98) (tgt := 104) (by rw [hv]; rfl) (by decide) ?_
    refine m_aload_n F rfl e_X10_count_104 ?_
    refine r_get F e_X10_count_105 fl_X10_94 h5801 rfl (fun v hv f5833 => ?_)
    obtain rfl : v = .int (nI (T)) := hv
    exact m_iret F hQ e_X10_count_108 (⟨h5801, _, rfl⟩)
set_option maxRecDepth 20000 in
theorem q_X10_fault (l : Launch) (V : VX) (c T Z u h : Nat) (P : NP) (L : Nat → LQ) (N : Nat) (σ : Mem) (x901 : Int32) (h0 : HR V c ⟨T, Z, u, h, P, L⟩ σ) (hob : OKB L) (hP : OKP P)  : Ct l V yX10_fault cX10_fault 2 (some .int) 0 0 0 N σ [.ref c, .int x901] (fun r τ => HS V c (⟨T, Z, u, h, P, L⟩ : RG) [0, 2, 3, 4, 5, 6, 7, 8, 9, 10, 11, 12, 13, 14, 15, 16, 17, 18, 19, 20, 21, 22, 23] σ τ ∧ ∃ x : Int32, r = some (.int x)) := by
  refine Ct.of (by decide) (Nat.le_of_ble_eq_true rfl) [(0, .ref c), (1, .int x901)] rfl (fun X hX F hQ => ?_)
  have hPP := hP
  unfold OKP at hPP
  have h1 : HS V c ⟨T, Z, u, h, P, L⟩ [0, 2, 3, 4, 5, 6, 7, 8, 9, 10, 11, 12, 13, 14, 15, 16, 17, 18, 19, 20, 21, 22, 23] σ σ := HS.start h0
  refine m_aload_n F rfl e_X10_fault_0 ?_
  refine m_iconst F (v := 0) (by decide) e_X10_fault_1 ?_
  refine r_put F (g' := (⟨T, Z, u, h, P, L⟩ : RG)) e_X10_fault_2 fp_X10_91 h1 (by decide) ⟨_, rfl⟩ (fun _ _ _ _ q => q) (fun _ _ _ q => q) rfl rfl (by decide) (fun σ5834 h5835 g5836 g5837 f5838 => ?_)
  refine m_iload_n F rfl e_X10_fault_5 ?_
  refine m_if_ne F e_X10_fault_6 (fun q6 => ?_) (fun q6 => ?_)
  · refine m_iload_n F rfl e_X10_fault_16 ?_
    refine m_iconst F (v := 1) (by decide) e_X10_fault_17 ?_
    refine m_icmp_ne F e_X10_fault_18 (fun q18 => ?_) (fun q18 => ?_)
    · refine m_iconst F (v := (-1)) (by decide) e_X10_fault_28 ?_
      exact m_iret F hQ e_X10_fault_29 (⟨h5835, _, rfl⟩)
    · subst q18
      refine m_aload_n F rfl e_X10_fault_21 ?_
      refine r_get F e_X10_fault_22 fl_X10_55 h5835 rfl (fun v hv f5839 => ?_)
      obtain rfl : v = .int (nI (P.p)) := hv
      refine m_goto F e_X10_fault_25 ?_
      exact m_iret F hQ e_X10_fault_29 (⟨h5835, _, rfl⟩)
  · subst q6
    refine m_aload_n F rfl e_X10_fault_9 ?_
    refine r_get F e_X10_fault_10 fl_X10_211 h5835 rfl (fun v hv f5840 => ?_)
    obtain rfl : v = .int (nI (P.f)) := hv
    refine m_goto F e_X10_fault_13 ?_
    exact m_iret F hQ e_X10_fault_29 (⟨h5835, _, rfl⟩)
set_option maxRecDepth 20000 in
theorem lq_X10_namedAt_3 {V : VX} {X : MX} {N : Nat} {σ : Mem} {c T Z u h : Nat} {P : NP} {L : Nat → LQ}  {n901 : Nat} {n902 : Nat} {x903 : Int32} (F : Fx V X yX10_namedAt cX10_namedAt 5 (some .int) (rmd 0 0 0)) (hQ : Rt V X 0 0 N (fun r τ => HS V c (⟨T, Z, u, h, P, L⟩ : RG) [0, 1, 2, 3, 4, 5, 6, 7, 8, 9, 10, 11, 12, 13, 14, 15, 16, 17, 18, 19, 20, 21, 22, 23] σ τ ∧ (r = some (.int (-1)) ∨ ∃ n : Nat, n < n902 ∧ r = some (.int (nI n))))) (hob : OKB L) (hP : OKP P) (hn901 : n901 ≤ 4) (hn902 : n902 ≤ 4)  : ∀ (fuel : Nat) (i : Nat) (τ : Mem), HS V c (⟨T, Z, u, h, P, L⟩ : RG) [0, 1, 2, 3, 4, 5, 6, 7, 8, 9, 10, 11, 12, 13, 14, 15, 16, 17, 18, 19, 20, 21, 22, 23] σ τ → i ≤ n902 → n902 - i < fuel → Wm V X 5 N τ 0 0 3 [(0, .ref c), (1, .int (nI n901)), (2, .int (nI n902)), (3, .int x903), (4, .int (nI i))] [] := by
  intro fuel
  induction fuel with
  | zero => intros; rename_i hm; exact absurd hm (Nat.not_lt_zero _)
  | succ fuel ih =>
    intro i τ h1 hi hm
    have hPP := hP
    unfold OKP at hPP
    refine m_iload F rfl e_X10_namedAt_3 ?_
    refine m_iload_n F rfl e_X10_namedAt_5 ?_
    refine m_icmp_ge F e_X10_namedAt_6 (fun q6 => ?_) (fun q6 => ?_)
    · have c6 : i ≥ n902 := (nI_leI (a := n902) (b := i) (by omega) (by omega)).mp q6
      refine m_iconst F (v := (-1)) (by decide) e_X10_namedAt_31 ?_
      exact m_iret F hQ e_X10_namedAt_32 (⟨h1, Or.inl rfl⟩)
    · have c6 : i < n902 := by have hh := mt (nI_leI (a := n902) (b := i) (by omega) (by omega)).mpr q6; omega
      refine m_aload_n F rfl e_X10_namedAt_9 ?_
      refine r_get F e_X10_namedAt_10 fl_X10_16 h1 rfl (fun v hv f5841 => ?_)
      obtain rfl : v = .ref (c + 3) := hv
      refine m_iload_n F rfl e_X10_namedAt_13 ?_
      refine m_iload F rfl e_X10_namedAt_14 ?_
      refine m_iadd F e_X10_namedAt_16 ?_
      refine Wm.topE (w := nI (n901 + i)) (nI_add n901 i) ?_
      refine r_iald F (len := 8) (j := n901 + i) e_X10_namedAt_17 h1 (fun _ h => h) (by decide) (nI_clamp (by omega)) (vp_in_nI (by omega) (by decide)) (fun x5842 h5843 f5844 => ?_)
      refine m_iload_n F rfl e_X10_namedAt_18 ?_
      refine m_icmp_ne F e_X10_namedAt_19 (fun q19 => ?_) (fun q19 => ?_)
      · refine m_iinc F (v := nI (i + 1)) (lv' := [(4, .int (nI (i + 1))), (0, .ref c), (1, .int (nI n901)), (2, .int (nI n902)), (3, .int x903)]) e_X10_namedAt_25 rfl (nI_add i 1) (by decide) rfl ?_
        refine m_goto F e_X10_namedAt_28 ?_
        refine Wm.lvsub (lv' := [(0, .ref c), (1, .int (nI n901)), (2, .int (nI n902)), (3, .int x903), (4, .int (nI (i + 1)))]) ?_ [1, 2, 3, 4, 0] rfl
        exact ih (i + 1) _ h1 (by omega) (by omega)
      · refine m_iload F rfl e_X10_namedAt_22 ?_
        exact m_iret F hQ e_X10_namedAt_24 (⟨h1, Or.inr ⟨i, by omega, rfl⟩⟩)
set_option maxRecDepth 20000 in
theorem q_X10_namedAt (l : Launch) (V : VX) (c T Z u h : Nat) (P : NP) (L : Nat → LQ) (N : Nat) (σ : Mem) (n901 : Nat) (n902 : Nat) (x903 : Int32) (h0 : HR V c ⟨T, Z, u, h, P, L⟩ σ) (hob : OKB L) (hP : OKP P) (hn901 : n901 ≤ 4) (hn902 : n902 ≤ 4) : Ct l V yX10_namedAt cX10_namedAt 5 (some .int) 0 0 0 N σ [.ref c, .int (nI n901), .int (nI n902), .int x903] (fun r τ => HS V c (⟨T, Z, u, h, P, L⟩ : RG) [0, 1, 2, 3, 4, 5, 6, 7, 8, 9, 10, 11, 12, 13, 14, 15, 16, 17, 18, 19, 20, 21, 22, 23] σ τ ∧ (r = some (.int (-1)) ∨ ∃ n : Nat, n < n902 ∧ r = some (.int (nI n)))) := by
  refine Ct.of (by decide) (Nat.le_of_ble_eq_true rfl) [(0, .ref c), (1, .int (nI n901)), (2, .int (nI n902)), (3, .int x903)] rfl (fun X hX F hQ => ?_)
  have hPP := hP
  unfold OKP at hPP
  have h1 : HS V c ⟨T, Z, u, h, P, L⟩ [0, 1, 2, 3, 4, 5, 6, 7, 8, 9, 10, 11, 12, 13, 14, 15, 16, 17, 18, 19, 20, 21, 22, 23] σ σ := HS.start h0
  refine m_iconst F (v := 0) (by decide) e_X10_namedAt_0 ?_
  refine m_istore F (lv' := [(4, .int 0), (0, .ref c), (1, .int (nI n901)), (2, .int (nI n902)), (3, .int x903)]) e_X10_namedAt_1 (by decide) rfl ?_
  refine Wm.lvsub (lv' := [(0, .ref c), (1, .int (nI n901)), (2, .int (nI n902)), (3, .int x903), (4, .int 0)]) ?_ [1, 2, 3, 4, 0] rfl
  exact lq_X10_namedAt_3 F hQ hob hP hn901 hn902 (n902 - 0 + 1) 0 _ h1 (by omega) (Nat.lt_succ_self _)
set_option maxRecDepth 20000 in
theorem q_X10_named (l : Launch) (V : VX) (c T Z u h : Nat) (P : NP) (L : Nat → LQ) (N : Nat) (σ : Mem) (x901 : Int32) (h0 : HR V c ⟨T, Z, u, h, P, L⟩ σ) (hob : OKB L) (hP : OKP P)  : Ct l V yX10_named cX10_named 2 (some .int) 1 0 0 N σ [.ref c, .int x901] (fun r τ => HS V c (⟨T, Z, u, h, P, L⟩ : RG) [0, 2, 3, 4, 5, 6, 7, 8, 9, 10, 11, 12, 13, 14, 15, 16, 17, 18, 19, 20, 21, 22, 23] σ τ ∧ ∃ x : Int32, r = some (.int x)) := by
  refine Ct.of (by decide) (Nat.le_of_ble_eq_true rfl) [(0, .ref c), (1, .int x901)] rfl (fun X hX F hQ => ?_)
  have hPP := hP
  unfold OKP at hPP
  have h1 : HS V c ⟨T, Z, u, h, P, L⟩ [0, 2, 3, 4, 5, 6, 7, 8, 9, 10, 11, 12, 13, 14, 15, 16, 17, 18, 19, 20, 21, 22, 23] σ σ := HS.start h0
  refine m_aload_n F rfl e_X10_named_0 ?_
  refine m_iconst F (v := 0) (by decide) e_X10_named_1 ?_
  refine r_put F (g' := (⟨T, Z, u, h, P, L⟩ : RG)) e_X10_named_2 fp_X10_91 h1 (by decide) ⟨_, rfl⟩ (fun _ _ _ _ q => q) (fun _ _ _ q => q) rfl rfl (by decide) (fun σ5845 h5846 g5847 g5848 f5849 => ?_)
  refine m_aload_n F rfl e_X10_named_5 ?_
  refine m_iconst F (v := 0) (by decide) e_X10_named_6 ?_
  refine m_aload_n F rfl e_X10_named_7 ?_
  refine r_callV F e_X10_named_8 (q_X10_leases (x_l X) V c T Z u h P L _ _  h5846.1 (hob) hP ) cb_X10_leases ml_X10_221 im_X10_leases se_X10_leases h5846 rfl rfl (rest := [.int 0, .ref c]) rfl (Nat.le_of_ble_eq_true rfl) ⟨Nat.le_of_ble_eq_true rfl, Nat.le_of_ble_eq_true rfl⟩ ⟨Nat.le_of_ble_eq_true rfl, Nat.le_of_ble_eq_true rfl⟩ (fun r σ5850 hp => ?_)
  obtain ⟨h5851, rfl⟩ := hp
  have h5852 := HS.trans h5846 h5851 (by decide)
  refine m_iload_n F rfl e_X10_named_11 ?_
  refine r_callV F e_X10_named_12 (q_X10_namedAt (x_l X) V c T Z u h P L _ _ 0 P.n0 x901 h5852.1 (hob) hP (by omega) (by omega)) cb_X10_namedAt ml_X10_161 im_X10_namedAt se_X10_namedAt h5852 rfl rfl (rest := []) rfl (Nat.le_of_ble_eq_true rfl) ⟨Nat.le_of_ble_eq_true rfl, Nat.le_of_ble_eq_true rfl⟩ ⟨Nat.le_of_ble_eq_true rfl, Nat.le_of_ble_eq_true rfl⟩ (fun r σ5853 hp => ?_)
  obtain ⟨h5854, c5856⟩ := hp
  have h5855 := HS.trans h5852 h5854 (by decide)
  rcases c5856 with rfl | ⟨n5857, hn5857, rfl⟩
  · exact m_iret F hQ e_X10_named_15 (⟨h5855, _, rfl⟩)
  · exact m_iret F hQ e_X10_named_15 (⟨h5855, _, rfl⟩)
set_option maxRecDepth 20000 in
theorem lq_X10_heaviest_10 {V : VX} {X : MX} {N : Nat} {σ : Mem} {c T Z u h : Nat} {P : NP} {L : Nat → LQ}   (F : Fx V X yX10_heaviest cX10_heaviest 3 (some .int) (rmd 1 0 0)) (hQ : Rt V X 0 0 N (fun r τ => HS V c (⟨T, Z, u, h, P, L⟩ : RG) [0, 2, 3, 4, 5, 6, 7, 8, 9, 10, 11, 12, 13, 14, 15, 16, 17, 18, 19, 20, 21, 22, 23] σ τ ∧ ∃ x : Int32, r = some (.int x))) (hob : OKB L) (hP : OKP P)   : ∀ (fuel : Nat) (b1 : Int32) (i : Nat) (τ : Mem), HS V c (⟨T, Z, u, h, P, L⟩ : RG) [0, 2, 3, 4, 5, 6, 7, 8, 9, 10, 11, 12, 13, 14, 15, 16, 17, 18, 19, 20, 21, 22, 23] σ τ → i ≤ 4 ∧ (b1 = -2 ∨ ∃ n : Nat, n < P.n0 ∧ b1 = nI n) → 4 - i < fuel → Wm V X 3 N τ 0 0 10 [(0, .ref c), (1, .int b1), (2, .int (nI i))] [] := by
  intro fuel
  induction fuel with
  | zero => intros; rename_i hm; exact absurd hm (Nat.not_lt_zero _)
  | succ fuel ih =>
    intro b1 i τ h1 hi hm
    have hPP := hP
    unfold OKP at hPP
    refine m_iload_n F rfl e_X10_heaviest_10 ?_
    refine m_aload_n F rfl e_X10_heaviest_11 ?_
    refine r_callV F e_X10_heaviest_12 (q_X10_leases (x_l X) V c T Z u h P L _ _  h1.1 (hob) hP ) cb_X10_leases ml_X10_221 im_X10_leases se_X10_leases h1 rfl rfl (rest := [.int (nI i)]) rfl (Nat.le_of_ble_eq_true rfl) ⟨Nat.le_of_ble_eq_true rfl, Nat.le_of_ble_eq_true rfl⟩ ⟨Nat.le_of_ble_eq_true rfl, Nat.le_of_ble_eq_true rfl⟩ (fun r σ5858 hp => ?_)
    obtain ⟨h5859, rfl⟩ := hp
    have h5860 := HS.trans h1 h5859 (by decide)
    refine m_icmp_ge F e_X10_heaviest_15 (fun q15 => ?_) (fun q15 => ?_)
    · have c15 : i ≥ P.n0 := (nI_leI (a := P.n0) (b := i) (by omega) (by omega)).mp q15
      refine m_iload_n F rfl e_X10_heaviest_87 ?_
      exact m_iret F hQ e_X10_heaviest_88 (⟨h5860, _, rfl⟩)
    · have c15 : i < P.n0 := by have hh := mt (nI_leI (a := P.n0) (b := i) (by omega) (by omega)).mpr q15; omega
      refine m_aload_n F rfl e_X10_heaviest_18 ?_
      refine m_iload_n F rfl e_X10_heaviest_19 ?_
      refine r_callV F e_X10_heaviest_20 (q_X10_isOn (x_l X) V c T Z u h P L _ _ i h5860.1 (hob) hP (by omega)) cb_X10_isOn ml_X10_267 im_X10_isOn se_X10_isOn h5860 rfl rfl (rest := []) rfl (Nat.le_of_ble_eq_true rfl) ⟨Nat.le_of_ble_eq_true rfl, Nat.le_of_ble_eq_true rfl⟩ ⟨Nat.le_of_ble_eq_true rfl, Nat.le_of_ble_eq_true rfl⟩ (fun r σ5861 hp => ?_)
      obtain ⟨h5862, c5864⟩ := hp
      have h5863 := HS.trans h5860 h5862 (by decide)
      rcases c5864 with ⟨g5865, rfl⟩ | ⟨g5865, rfl⟩
      · refine m_if_ne F e_X10_heaviest_23 (fun q => absurd (by decide) q) (fun _ => ?_)
        refine m_goto F e_X10_heaviest_26 ?_
        refine m_iinc F (v := nI (i + 1)) (lv' := [(2, .int (nI (i + 1))), (0, .ref c), (1, .int b1)]) e_X10_heaviest_81 rfl (nI_add i 1) (by decide) rfl ?_
        refine m_goto F e_X10_heaviest_84 ?_
        refine Wm.lvsub (lv' := [(0, .ref c), (1, .int b1), (2, .int (nI (i + 1)))]) ?_ [1, 2, 0] rfl
        exact ih b1 (i + 1) _ h5863 ⟨by omega, by first | exact Or.inl rfl | exact Or.inr ⟨_, by omega, rfl⟩ | exact hi.2⟩ (by omega)
      · refine m_if_ne F e_X10_heaviest_23 (fun _ => ?_) (fun q => absurd q (by decide))
        refine m_iload_n F rfl e_X10_heaviest_29 ?_
        refine m_bipush F (v := (-2)) (by decide) e_X10_heaviest_30 ?_
        refine m_icmp_eq F e_X10_heaviest_32 (fun q32 => ?_) (fun q32 => ?_)
        · subst q32
          refine m_iload_n F rfl e_X10_heaviest_79 ?_
          refine m_istore_n F (lv' := [(1, .int (nI i)), (0, .ref c), (2, .int (nI i))]) e_X10_heaviest_80 (by decide) rfl ?_
          refine m_iinc F (v := nI (i + 1)) (lv' := [(2, .int (nI (i + 1))), (1, .int (nI i)), (0, .ref c)]) e_X10_heaviest_81 rfl (nI_add i 1) (by decide) rfl ?_
          refine m_goto F e_X10_heaviest_84 ?_
          refine Wm.lvsub (lv' := [(0, .ref c), (1, .int (nI i)), (2, .int (nI (i + 1)))]) ?_ [2, 1, 0] rfl
          exact ih (nI i) (i + 1) _ h5863 ⟨by omega, by first | exact Or.inl rfl | exact Or.inr ⟨_, by omega, rfl⟩ | exact hi.2⟩ (by omega)
        · rcases hi.2 with e9 | ⟨n5866, hn5866, rfl⟩
          · exact absurd e9 q32
          refine m_aload_n F rfl e_X10_heaviest_35 ?_
          refine r_get F e_X10_heaviest_36 fl_X10_59 h5863 rfl (fun v hv f5867 => ?_)
          obtain rfl : v = .ref (c + 16) := hv
          refine m_sipush F (v := 160) (by decide) e_X10_heaviest_39 ?_
          refine m_iload_n F rfl e_X10_heaviest_42 ?_
          refine m_imul F e_X10_heaviest_43 ?_
          refine Wm.topE (w := nI (160 * i)) (pk_mul 160 i) ?_
          refine m_bipush F (v := 6) (by decide) e_X10_heaviest_44 ?_
          refine m_iadd F e_X10_heaviest_46 ?_
          refine Wm.topE (w := nI (160 * i + 6)) (nI_add (160 * i) 6) ?_
          refine r_sld F (j := 160 * i + 6) e_X10_heaviest_47 h5863 (nI_clamp (by omega)) (vp_in_nI (by omega) (by decide)) (fun x5868 h5869 f5870 => ?_)
          refine m_aload_n F rfl e_X10_heaviest_48 ?_
          refine m_iload_n F rfl e_X10_heaviest_49 ?_
          refine r_callV F e_X10_heaviest_50 (q_X10_left (x_l X) V c T Z u h P L _ _ n5866 h5863.1 (hob) hP (by omega)) cb_X10_left ml_X10_257 im_X10_left se_X10_left h5863 rfl rfl (rest := [.long x5868]) rfl (Nat.le_of_ble_eq_true rfl) ⟨Nat.le_of_ble_eq_true rfl, Nat.le_of_ble_eq_true rfl⟩ ⟨Nat.le_of_ble_eq_true rfl, Nat.le_of_ble_eq_true rfl⟩ (fun r σ5871 hp => ?_)
          obtain ⟨h5872, x5874, rfl⟩ := hp
          have h5873 := HS.trans h5863 h5872 (by decide)
          refine m_i2l F e_X10_heaviest_53 ?_
          refine Wm.topl (fun x5875 _ => ?_)
          refine m_lmul F e_X10_heaviest_54 ?_
          refine Wm.topl (fun x5876 _ => ?_)
          refine m_aload_n F rfl e_X10_heaviest_55 ?_
          refine r_getC F e_X10_heaviest_56 fl_X10_59 h5873 ((fld_eq (h5872.2 c (by rw [show kC c c = 1 from kC_at (k := 0) (by decide)]; decide))).trans f5867) ?_
          refine m_sipush F (v := 160) (by decide) e_X10_heaviest_59 ?_
          refine m_iload_n F rfl e_X10_heaviest_62 ?_
          refine m_imul F e_X10_heaviest_63 ?_
          refine Wm.topE (w := nI (160 * n5866)) (pk_mul 160 n5866) ?_
          refine m_bipush F (v := 6) (by decide) e_X10_heaviest_64 ?_
          refine m_iadd F e_X10_heaviest_66 ?_
          refine Wm.topE (w := nI (160 * n5866 + 6)) (nI_add (160 * n5866) 6) ?_
          refine r_sld F (j := 160 * n5866 + 6) e_X10_heaviest_67 h5873 (nI_clamp (by omega)) (vp_in_nI (by omega) (by decide)) (fun x5877 h5878 f5879 => ?_)
          refine m_aload_n F rfl e_X10_heaviest_68 ?_
          refine m_iload_n F rfl e_X10_heaviest_69 ?_
          refine r_callV F e_X10_heaviest_70 (q_X10_left (x_l X) V c T Z u h P L _ _ i h5873.1 (hob) hP (by omega)) cb_X10_left ml_X10_257 im_X10_left se_X10_left h5873 rfl rfl (rest := [.long x5877, .long x5876]) rfl (Nat.le_of_ble_eq_true rfl) ⟨Nat.le_of_ble_eq_true rfl, Nat.le_of_ble_eq_true rfl⟩ ⟨Nat.le_of_ble_eq_true rfl, Nat.le_of_ble_eq_true rfl⟩ (fun r σ5880 hp => ?_)
          obtain ⟨h5881, x5883, rfl⟩ := hp
          have h5882 := HS.trans h5873 h5881 (by decide)
          refine m_i2l F e_X10_heaviest_73 ?_
          refine Wm.topl (fun x5884 _ => ?_)
          refine m_lmul F e_X10_heaviest_74 ?_
          refine Wm.topl (fun x5885 _ => ?_)
          refine m_lcmp F e_X10_heaviest_75 ?_
          refine Wm.top (fun x5886 _ => ?_)
          refine m_if_le F e_X10_heaviest_76 (fun q76 => ?_) (fun q76 => ?_)
          · refine m_iinc F (v := nI (i + 1)) (lv' := [(2, .int (nI (i + 1))), (0, .ref c), (1, .int (nI n5866))]) e_X10_heaviest_81 rfl (nI_add i 1) (by decide) rfl ?_
            refine m_goto F e_X10_heaviest_84 ?_
            refine Wm.lvsub (lv' := [(0, .ref c), (1, .int (nI n5866)), (2, .int (nI (i + 1)))]) ?_ [1, 2, 0] rfl
            exact ih (nI n5866) (i + 1) _ h5882 ⟨by omega, by first | exact Or.inl rfl | exact Or.inr ⟨_, by omega, rfl⟩ | exact hi.2⟩ (by omega)
          · obtain ⟨n5887, hn5887, rfl⟩ := nI_nn (x := x5886) (fun e => q76 (Int32.le_trans (Int32.le_of_lt e) (by decide)))
            have c76 : n5887 > 0 := by have hh := mt (nI_leI (a := n5887) (b := 0) (by omega) (by omega)).mpr q76; omega
            refine m_iload_n F rfl e_X10_heaviest_79 ?_
            refine m_istore_n F (lv' := [(1, .int (nI i)), (0, .ref c), (2, .int (nI i))]) e_X10_heaviest_80 (by decide) rfl ?_
            refine m_iinc F (v := nI (i + 1)) (lv' := [(2, .int (nI (i + 1))), (1, .int (nI i)), (0, .ref c)]) e_X10_heaviest_81 rfl (nI_add i 1) (by decide) rfl ?_
            refine m_goto F e_X10_heaviest_84 ?_
            refine Wm.lvsub (lv' := [(0, .ref c), (1, .int (nI i)), (2, .int (nI (i + 1)))]) ?_ [2, 1, 0] rfl
            exact ih (nI i) (i + 1) _ h5882 ⟨by omega, by first | exact Or.inl rfl | exact Or.inr ⟨_, by omega, rfl⟩ | exact hi.2⟩ (by omega)
set_option maxRecDepth 20000 in
theorem q_X10_heaviest (l : Launch) (V : VX) (c T Z u h : Nat) (P : NP) (L : Nat → LQ) (N : Nat) (σ : Mem)  (h0 : HR V c ⟨T, Z, u, h, P, L⟩ σ) (hob : OKB L) (hP : OKP P)  : Ct l V yX10_heaviest cX10_heaviest 3 (some .int) 1 0 0 N σ [.ref c] (fun r τ => HS V c (⟨T, Z, u, h, P, L⟩ : RG) [0, 2, 3, 4, 5, 6, 7, 8, 9, 10, 11, 12, 13, 14, 15, 16, 17, 18, 19, 20, 21, 22, 23] σ τ ∧ ∃ x : Int32, r = some (.int x)) := by
  refine Ct.of (by decide) (Nat.le_of_ble_eq_true rfl) [(0, .ref c)] rfl (fun X hX F hQ => ?_)
  have hPP := hP
  unfold OKP at hPP
  have h1 : HS V c ⟨T, Z, u, h, P, L⟩ [0, 2, 3, 4, 5, 6, 7, 8, 9, 10, 11, 12, 13, 14, 15, 16, 17, 18, 19, 20, 21, 22, 23] σ σ := HS.start h0
  refine m_aload_n F rfl e_X10_heaviest_0 ?_
  refine m_iconst F (v := 0) (by decide) e_X10_heaviest_1 ?_
  refine r_put F (g' := (⟨T, Z, u, h, P, L⟩ : RG)) e_X10_heaviest_2 fp_X10_91 h1 (by decide) ⟨_, rfl⟩ (fun _ _ _ _ q => q) (fun _ _ _ q => q) rfl rfl (by decide) (fun σ5888 h5889 g5890 g5891 f5892 => ?_)
  refine m_bipush F (v := (-2)) (by decide) e_X10_heaviest_5 ?_
  refine m_istore_n F (lv' := [(1, .int (-2)), (0, .ref c)]) e_X10_heaviest_7 (by decide) rfl ?_
  refine m_iconst F (v := 0) (by decide) e_X10_heaviest_8 ?_
  refine m_istore_n F (lv' := [(2, .int 0), (1, .int (-2)), (0, .ref c)]) e_X10_heaviest_9 (by decide) rfl ?_
  refine Wm.lvsub (lv' := [(0, .ref c), (1, .int (-2)), (2, .int 0)]) ?_ [2, 1, 0] rfl
  exact lq_X10_heaviest_10 F hQ hob hP  (4 - 0 + 1) (-2) 0 _ h5889 ⟨by omega, Or.inl rfl⟩ (Nat.lt_succ_self _)
