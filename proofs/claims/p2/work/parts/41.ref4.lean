set_option maxRecDepth 20000 in
theorem lq_X10_rateFor_25 {V : VX} {X : MX} {N : Nat} {σ : Mem} {c T Z u h : Nat} {P : NP} {L : Nat → LQ}  {n901 : Nat} {n902 : Nat} {x903 : Int64} (F : Fx V X yX10_rateFor cX10_rateFor 8 (some .int) (rmd 2 0 0)) (hQ : Rt V X 0 0 N (fun r τ => HS V c (⟨T, Z, u, h, P, L⟩ : RG) [0, 1, 2, 3, 4, 5, 6, 7, 8, 9, 10, 11, 12, 13, 14, 15, 16, 17, 18, 19, 20, 21, 22, 23] σ τ ∧ (r = some (.int (-2)) ∨ ∃ n : Nat, n ≤ 200000 ∧ r = some (.int (nI n))))) (hob : OKB L) (hP : OKP P) (hn901 : n901 ≤ 3) (hn902 : n902 ≤ 72) (hp0 : 1 ≤ n902)  : ∀ (fuel : Nat) (a : Nat) (b : Nat) (τ : Mem), HS V c (⟨T, Z, u, h, P, L⟩ : RG) [0, 1, 2, 3, 4, 5, 6, 7, 8, 9, 10, 11, 12, 13, 14, 15, 16, 17, 18, 19, 20, 21, 22, 23] σ τ → a ≤ b ∧ b ≤ 200000 → b - a < fuel → Wm V X 8 N τ 0 0 25 [(0, .ref c), (1, .int (nI n901)), (2, .int (nI n902)), (3, .long x903), (5, .int (nI a)), (6, .int (nI b))] [] := by
  intro fuel
  induction fuel with
  | zero => intros; rename_i hm; exact absurd hm (Nat.not_lt_zero _)
  | succ fuel ih =>
    intro a b τ h1 hi hm
    have hPP := hP
    unfold OKP at hPP
    refine m_iload F rfl e_X10_rateFor_25 ?_
    refine m_iload F rfl e_X10_rateFor_27 ?_
    refine m_icmp_ge F e_X10_rateFor_29 (fun q29 => ?_) (fun q29 => ?_)
    · have c29 : a ≥ b := (nI_leI (a := b) (b := a) (by omega) (by omega)).mp q29
      refine m_iload F rfl e_X10_rateFor_76 ?_
      exact m_iret F hQ e_X10_rateFor_78 (⟨h1, Or.inr ⟨a, by omega, rfl⟩⟩)
    · have c29 : a < b := by have hh := mt (nI_leI (a := b) (b := a) (by omega) (by omega)).mpr q29; omega
      refine m_iload F rfl e_X10_rateFor_32 ?_
      refine m_iload F rfl e_X10_rateFor_34 ?_
      refine m_iadd F e_X10_rateFor_36 ?_
      refine Wm.topE (w := nI (a + b)) (nI_add a b) ?_
      refine m_iconst F (v := 1) (by decide) e_X10_rateFor_37 ?_
      refine m_iadd F e_X10_rateFor_38 ?_
      refine Wm.topE (w := nI (a + b + 1)) (nI_add (a + b) 1) ?_
      refine m_iconst F (v := 2) (by decide) e_X10_rateFor_39 ?_
      refine m_idiv F (by decide) e_X10_rateFor_40 ?_
      refine Wm.topE (w := nI ((a + b + 1) / 2)) (pk_div (a := a + b + 1) (d := 2) (by omega) (by decide) (by decide)) ?_
      refine m_istore F (lv' := [(7, .int (nI ((a + b + 1) / 2))), (0, .ref c), (1, .int (nI n901)), (2, .int (nI n902)), (3, .long x903), (5, .int (nI a)), (6, .int (nI b))]) e_X10_rateFor_41 (by decide) rfl ?_
      refine m_aload_n F rfl e_X10_rateFor_43 ?_
      refine m_iload_n F rfl e_X10_rateFor_44 ?_
      refine m_iload_n F rfl e_X10_rateFor_45 ?_
      refine m_iload F rfl e_X10_rateFor_46 ?_
      refine m_i2l F e_X10_rateFor_48 ?_
      refine Wm.toplE (w := lN ((a + b + 1) / 2)) (nI_l (by omega)) ?_
      refine m_ldc2 F kc_X10_245 e_X10_rateFor_49 ?_
      refine r_callV F e_X10_rateFor_52 (q_X10_worthBy (x_l X) V c T Z u h P L _ _ n901 n902 ((a + b + 1) / 2) (-1) h1.1 (hob) hP (by omega) (by omega) (by omega) (by first | omega | assumption | decide)) cb_X10_worthBy ml_X10_247 im_X10_worthBy se_X10_worthBy h1 rfl rfl (rest := []) rfl (Nat.le_of_ble_eq_true rfl) ⟨Nat.le_of_ble_eq_true rfl, Nat.le_of_ble_eq_true rfl⟩ ⟨Nat.le_of_ble_eq_true rfl, Nat.le_of_ble_eq_true rfl⟩ (fun r σ5811 hp => ?_)
      obtain ⟨h5812, x5814, rfl⟩ := hp
      have h5813 := HS.trans h1 h5812 (by decide)
      refine m_lload_n F rfl e_X10_rateFor_55 ?_
      refine m_lcmp F e_X10_rateFor_56 ?_
      refine Wm.top (fun x5815 _ => ?_)
      refine m_if_lt F e_X10_rateFor_57 (fun q57 => ?_) (fun q57 => ?_)
      · refine m_iload F rfl e_X10_rateFor_67 ?_
        refine m_iconst F (v := 1) (by decide) e_X10_rateFor_69 ?_
        refine m_isub F e_X10_rateFor_70 ?_
        refine Wm.topE (w := nI (((a + b + 1) / 2) - 1)) (pk_sub (a := (a + b + 1) / 2) (b := 1) (by omega)) ?_
        refine m_istore F (lv' := [(6, .int (nI (((a + b + 1) / 2) - 1))), (7, .int (nI ((a + b + 1) / 2))), (0, .ref c), (1, .int (nI n901)), (2, .int (nI n902)), (3, .long x903), (5, .int (nI a))]) e_X10_rateFor_71 (by decide) rfl ?_
        refine m_goto F e_X10_rateFor_73 ?_
        refine Wm.lvsub (lv' := [(0, .ref c), (1, .int (nI n901)), (2, .int (nI n902)), (3, .long x903), (5, .int (nI a)), (6, .int (nI (((a + b + 1) / 2) - 1)))]) ?_ [2, 3, 4, 5, 6, 0] rfl
        exact ih a (((a + b + 1) / 2) - 1) _ h5813 (by omega) (by omega)
      · obtain ⟨n5816, hn5816, rfl⟩ := nI_nn (x := x5815) (fun e => q57 (Int32.lt_of_lt_of_le e (by decide)))
        have c57 : n5816 ≥ 0 := by have hh := mt (nI_ltI (a := n5816) (b := 0) (by omega) (by omega)).mpr q57; omega
        refine m_iload F rfl e_X10_rateFor_60 ?_
        refine m_istore F (lv' := [(5, .int (nI ((a + b + 1) / 2))), (7, .int (nI ((a + b + 1) / 2))), (0, .ref c), (1, .int (nI n901)), (2, .int (nI n902)), (3, .long x903), (6, .int (nI b))]) e_X10_rateFor_62 (by decide) rfl ?_
        refine m_goto F e_X10_rateFor_64 ?_
        refine m_goto F e_X10_rateFor_73 ?_
        refine Wm.lvsub (lv' := [(0, .ref c), (1, .int (nI n901)), (2, .int (nI n902)), (3, .long x903), (5, .int (nI ((a + b + 1) / 2))), (6, .int (nI b))]) ?_ [2, 3, 4, 5, 0, 6] rfl
        exact ih ((a + b + 1) / 2) b _ h5813 (by omega) (by omega)
set_option maxRecDepth 20000 in
theorem q_X10_rateFor (l : Launch) (V : VX) (c T Z u h : Nat) (P : NP) (L : Nat → LQ) (N : Nat) (σ : Mem) (n901 : Nat) (n902 : Nat) (x903 : Int64) (h0 : HR V c ⟨T, Z, u, h, P, L⟩ σ) (hob : OKB L) (hP : OKP P) (hn901 : n901 ≤ 3) (hn902 : n902 ≤ 72) (hp0 : 1 ≤ n902) : Ct l V yX10_rateFor cX10_rateFor 8 (some .int) 2 0 0 N σ [.ref c, .int (nI n901), .int (nI n902), .long x903] (fun r τ => HS V c (⟨T, Z, u, h, P, L⟩ : RG) [0, 1, 2, 3, 4, 5, 6, 7, 8, 9, 10, 11, 12, 13, 14, 15, 16, 17, 18, 19, 20, 21, 22, 23] σ τ ∧ (r = some (.int (-2)) ∨ ∃ n : Nat, n ≤ 200000 ∧ r = some (.int (nI n)))) := by
  refine Ct.of (by decide) (Nat.le_of_ble_eq_true rfl) [(0, .ref c), (1, .int (nI n901)), (2, .int (nI n902)), (3, .long x903)] rfl (fun X hX F hQ => ?_)
  have hPP := hP
  unfold OKP at hPP
  have h1 : HS V c ⟨T, Z, u, h, P, L⟩ [0, 1, 2, 3, 4, 5, 6, 7, 8, 9, 10, 11, 12, 13, 14, 15, 16, 17, 18, 19, 20, 21, 22, 23] σ σ := HS.start h0
  refine m_aload_n F rfl e_X10_rateFor_0 ?_
  refine m_iload_n F rfl e_X10_rateFor_1 ?_
  refine m_iload_n F rfl e_X10_rateFor_2 ?_
  refine m_lconst F (v := 0) (by decide) e_X10_rateFor_3 ?_
  refine m_ldc2 F kc_X10_245 e_X10_rateFor_4 ?_
  refine r_callV F e_X10_rateFor_7 (q_X10_worthBy (x_l X) V c T Z u h P L _ _ n901 n902 0 (-1) h1.1 (hob) hP (by omega) (by omega) (by omega) (by first | omega | assumption | decide)) cb_X10_worthBy ml_X10_247 im_X10_worthBy se_X10_worthBy h1 rfl rfl (rest := []) rfl (Nat.le_of_ble_eq_true rfl) ⟨Nat.le_of_ble_eq_true rfl, Nat.le_of_ble_eq_true rfl⟩ ⟨Nat.le_of_ble_eq_true rfl, Nat.le_of_ble_eq_true rfl⟩ (fun r σ5817 hp => ?_)
  obtain ⟨h5818, x5820, rfl⟩ := hp
  have h5819 := HS.trans h1 h5818 (by decide)
  refine m_lload_n F rfl e_X10_rateFor_10 ?_
  refine m_lcmp F e_X10_rateFor_11 ?_
  refine Wm.top (fun x5821 _ => ?_)
  refine m_if_ge F e_X10_rateFor_12 (fun q12 => ?_) (fun q12 => ?_)
  · obtain ⟨n5822, hn5822, rfl⟩ := nI_nn (x := x5821) (fun e => Int32.lt_irrefl (Int32.lt_of_lt_of_le e (Int32.le_trans (by decide) q12)))
    have c12 : n5822 ≥ 0 := (nI_leI (a := 0) (b := n5822) (by omega) (by omega)).mp q12
    refine m_iconst F (v := 0) (by decide) e_X10_rateFor_18 ?_
    refine m_istore F (lv' := [(5, .int 0), (0, .ref c), (1, .int (nI n901)), (2, .int (nI n902)), (3, .long x903)]) e_X10_rateFor_19 (by decide) rfl ?_
    refine m_ldc F kc_X10_169 e_X10_rateFor_21 ?_
    refine m_istore F (lv' := [(6, .int 200000), (5, .int 0), (0, .ref c), (1, .int (nI n901)), (2, .int (nI n902)), (3, .long x903)]) e_X10_rateFor_23 (by decide) rfl ?_
    refine Wm.lvsub (lv' := [(0, .ref c), (1, .int (nI n901)), (2, .int (nI n902)), (3, .long x903), (5, .int 0), (6, .int 200000)]) ?_ [2, 3, 4, 5, 1, 0] rfl
    exact lq_X10_rateFor_25 F hQ hob hP hn901 hn902 hp0 (200000 - 0 + 1) 0 200000 _ h5819 (by omega) (Nat.lt_succ_self _)
  · refine m_bipush F (v := (-2)) (by decide) e_X10_rateFor_15 ?_
    exact m_iret F hQ e_X10_rateFor_17 (⟨h5819, Or.inl rfl⟩)
set_option maxRecDepth 20000 in
theorem q_X10_due (l : Launch) (V : VX) (c T Z u h : Nat) (P : NP) (L : Nat → LQ) (N : Nat) (σ : Mem) (x901 : Int32) (x902 : Int32) (h0 : HR V c ⟨T, Z, u, h, P, L⟩ σ) (hob : OKB L) (hP : OKP P)  : Ct l V yX10_due cX10_due 3 (some .long) 3 0 0 N σ [.ref c, .int x901, .int x902] (fun r τ => HS V c (⟨T, Z, u, h, P, L⟩ : RG) [0, 2, 3, 4, 5, 6, 7, 8, 9, 10, 11, 12, 13, 14, 15, 16, 17, 18, 19, 20, 21, 22, 23] σ τ ∧ ∃ x : Int64, r = some (.long x)) := by
  refine Ct.of (by decide) (Nat.le_of_ble_eq_true rfl) [(0, .ref c), (1, .int x901), (2, .int x902)] rfl (fun X hX F hQ => ?_)
  have hPP := hP
  unfold OKP at hPP
  have h1 : HS V c ⟨T, Z, u, h, P, L⟩ [0, 2, 3, 4, 5, 6, 7, 8, 9, 10, 11, 12, 13, 14, 15, 16, 17, 18, 19, 20, 21, 22, 23] σ σ := HS.start h0
  refine m_aload_n F rfl e_X10_due_0 ?_
  refine m_iconst F (v := 0) (by decide) e_X10_due_1 ?_
  refine r_put F (g' := (⟨T, Z, u, h, P, L⟩ : RG)) e_X10_due_2 fp_X10_91 h1 (by decide) ⟨_, rfl⟩ (fun _ _ _ _ q => q) (fun _ _ _ q => q) rfl rfl (by decide) (fun σ5823 h5824 g5825 g5826 f5827 => ?_)
  refine m_aload_n F rfl e_X10_due_5 ?_
  refine m_iload_n F rfl e_X10_due_6 ?_
  refine m_iload_n F rfl e_X10_due_7 ?_
  refine r_callV F e_X10_due_8 (q_X10_isOwn (x_l X) V c T Z u h P L _ _ x901 x902 h5824.1 (hob) hP ) cb_X10_isOwn ml_X10_295 im_X10_isOwn se_X10_isOwn h5824 rfl rfl (rest := []) rfl (Nat.le_of_ble_eq_true rfl) ⟨Nat.le_of_ble_eq_true rfl, Nat.le_of_ble_eq_true rfl⟩ ⟨Nat.le_of_ble_eq_true rfl, Nat.le_of_ble_eq_true rfl⟩ (fun r σ5828 hp => ?_)
  obtain ⟨h5829, c5831⟩ := hp
  have h5830 := HS.trans h5824 h5829 (by decide)
  rcases c5831 with rfl | ⟨n5832, n5833, h5834, h5835, h5836, e5837, e5838, rfl⟩
  · refine m_if_eq F e_X10_due_11 (fun _ => ?_) (fun q => absurd (by decide) q)
    refine m_ldc2 F kc_X10_245 e_X10_due_34 ?_
    exact m_lret F hQ e_X10_due_37 (⟨h5830, _, rfl⟩)
  · subst e5837
    subst e5838
    refine m_if_eq F e_X10_due_11 (fun q => absurd q (by decide)) (fun _ => ?_)
    have hl5839 := (hob).2 n5832 (by omega)
    have hl5840 := (hob).2 n5832 (by omega)
    have hl5841 := (hob).2 n5832 (by omega)
    refine m_aload_n F rfl e_X10_due_14 ?_
    refine r_get F e_X10_due_15 fl_X10_59 h5830 rfl (fun v hv f5842 => ?_)
    obtain rfl : v = .ref (c + 16) := hv
    refine m_sipush F (v := 160) (by decide) e_X10_due_18 ?_
    refine m_iload_n F rfl e_X10_due_21 ?_
    refine m_imul F e_X10_due_22 ?_
    refine Wm.topE (w := nI (160 * n5832)) (pk_mul 160 n5832) ?_
    refine m_bipush F (v := 13) (by decide) e_X10_due_23 ?_
    refine m_iadd F e_X10_due_25 ?_
    refine Wm.topE (w := nI (160 * n5832 + 13)) (nI_add (160 * n5832) 13) ?_
    refine m_iload_n F rfl e_X10_due_26 ?_
    refine m_iadd F e_X10_due_27 ?_
    refine Wm.topE (w := nI ((160 * n5832 + 13) + n5833)) (nI_add (160 * n5832 + 13) n5833) ?_
    refine m_iconst F (v := 1) (by decide) e_X10_due_28 ?_
    refine m_isub F e_X10_due_29 ?_
    refine Wm.topE (w := nI (((160 * n5832 + 13) + n5833) - 1)) (pk_sub (a := (160 * n5832 + 13) + n5833) (b := 1) (by omega)) ?_
    refine r_sld F (j := ((160 * n5832 + 13) + n5833) - 1) e_X10_due_30 h5830 (nI_clamp (by omega)) (vp_in_nI (by omega) (by decide)) (fun x5843 h5844 f5845 => ?_)
    refine m_goto F e_X10_due_31 ?_
    exact m_lret F hQ e_X10_due_37 (⟨h5830, _, rfl⟩)
set_option maxRecDepth 20000 in
theorem q_X10_worth (l : Launch) (V : VX) (c T Z u h : Nat) (P : NP) (L : Nat → LQ) (N : Nat) (σ : Mem) (x901 : Int32) (x902 : Int32) (x903 : Int32) (h0 : HR V c ⟨T, Z, u, h, P, L⟩ σ) (hob : OKB L) (hP : OKP P)  : Ct l V yX10_worth cX10_worth 4 (some .long) 3 0 0 N σ [.ref c, .int x901, .int x902, .int x903] (fun r τ => HS V c (⟨T, Z, u, h, P, L⟩ : RG) [0, 2, 3, 4, 5, 6, 7, 8, 9, 10, 11, 12, 13, 14, 15, 16, 17, 18, 19, 20, 21, 22, 23] σ τ ∧ ∃ x : Int64, r = some (.long x)) := by
  refine Ct.of (by decide) (Nat.le_of_ble_eq_true rfl) [(0, .ref c), (1, .int x901), (2, .int x902), (3, .int x903)] rfl (fun X hX F hQ => ?_)
  have hPP := hP
  unfold OKP at hPP
  have h1 : HS V c ⟨T, Z, u, h, P, L⟩ [0, 2, 3, 4, 5, 6, 7, 8, 9, 10, 11, 12, 13, 14, 15, 16, 17, 18, 19, 20, 21, 22, 23] σ σ := HS.start h0
  refine m_aload_n F rfl e_X10_worth_0 ?_
  refine m_iconst F (v := 0) (by decide) e_X10_worth_1 ?_
  refine r_put F (g' := (⟨T, Z, u, h, P, L⟩ : RG)) e_X10_worth_2 fp_X10_91 h1 (by decide) ⟨_, rfl⟩ (fun _ _ _ _ q => q) (fun _ _ _ q => q) rfl rfl (by decide) (fun σ5846 h5847 g5848 g5849 f5850 => ?_)
  refine m_aload_n F rfl e_X10_worth_5 ?_
  refine m_iload_n F rfl e_X10_worth_6 ?_
  refine m_iload_n F rfl e_X10_worth_7 ?_
  refine r_callV F e_X10_worth_8 (q_X10_isOwn (x_l X) V c T Z u h P L _ _ x901 x902 h5847.1 (hob) hP ) cb_X10_isOwn ml_X10_295 im_X10_isOwn se_X10_isOwn h5847 rfl rfl (rest := []) rfl (Nat.le_of_ble_eq_true rfl) ⟨Nat.le_of_ble_eq_true rfl, Nat.le_of_ble_eq_true rfl⟩ ⟨Nat.le_of_ble_eq_true rfl, Nat.le_of_ble_eq_true rfl⟩ (fun r σ5851 hp => ?_)
  obtain ⟨h5852, c5854⟩ := hp
  have h5853 := HS.trans h5847 h5852 (by decide)
  rcases c5854 with rfl | ⟨n5855, n5856, h5857, h5858, h5859, e5860, e5861, rfl⟩
  · refine m_if_eq F e_X10_worth_11 (fun _ => ?_) (fun q => absurd (by decide) q)
    refine m_ldc2 F kc_X10_245 e_X10_worth_41 ?_
    exact m_lret F hQ e_X10_worth_44 (⟨h5853, _, rfl⟩)
  · subst e5860
    subst e5861
    refine m_if_eq F e_X10_worth_11 (fun q => absurd q (by decide)) (fun _ => ?_)
    have hl5862 := (hob).2 n5855 (by omega)
    have hl5863 := (hob).2 n5855 (by omega)
    have hl5864 := (hob).2 n5855 (by omega)
    refine m_iload_n F rfl e_X10_worth_14 ?_
    refine m_if_lt F e_X10_worth_15 (fun q15 => ?_) (fun q15 => ?_)
    · refine m_ldc2 F kc_X10_245 e_X10_worth_41 ?_
      exact m_lret F hQ e_X10_worth_44 (⟨h5853, _, rfl⟩)
    · obtain ⟨n5865, hn5865, rfl⟩ := nI_nn (x := x903) (fun e => q15 (Int32.lt_of_lt_of_le e (by decide)))
      have c15 : n5865 ≥ 0 := by have hh := mt (nI_ltI (a := n5865) (b := 0) (by omega) (by omega)).mpr q15; omega
      refine m_iload_n F rfl e_X10_worth_18 ?_
      refine m_i2l F e_X10_worth_19 ?_
      refine Wm.toplE (w := lN n5865) (nI_l (by omega)) ?_
      refine m_ldc2 F kc_X10_239 e_X10_worth_20 ?_
      refine m_lcmp F e_X10_worth_23 ?_
      refine m_if_gt F e_X10_worth_24 (fun q24 => ?_) (fun q24 => ?_)
      · have c24 : n5865 > 1000000 := (lN_lt (a := 1000000) (b := n5865) (by omega) (by omega)).mp ((lg_cmp_gt _ _).mp q24)
        refine m_ldc2 F kc_X10_245 e_X10_worth_41 ?_
        exact m_lret F hQ e_X10_worth_44 (⟨h5853, _, rfl⟩)
      · have c24 : n5865 ≤ 1000000 := by have hh := mt (fun h9 => (lg_cmp_gt (lN n5865) (lN 1000000)).mpr ((lN_lt (a := 1000000) (b := n5865) (by omega) (by omega)).mpr h9)) q24; omega
        refine m_aload_n F rfl e_X10_worth_27 ?_
        refine m_iload_n F rfl e_X10_worth_28 ?_
        refine m_iload_n F rfl e_X10_worth_29 ?_
        refine m_iload_n F rfl e_X10_worth_30 ?_
        refine m_i2l F e_X10_worth_31 ?_
        refine Wm.toplE (w := lN n5865) (nI_l (by omega)) ?_
        refine m_ldc2 F kc_X10_245 e_X10_worth_32 ?_
        refine r_callV F e_X10_worth_35 (q_X10_worthBy (x_l X) V c T Z u h P L _ _ n5855 n5856 n5865 (-1) h5853.1 (hob) hP (by omega) (by omega) (by omega) (by first | omega | assumption | decide)) cb_X10_worthBy ml_X10_247 im_X10_worthBy se_X10_worthBy h5853 rfl rfl (rest := []) rfl (Nat.le_of_ble_eq_true rfl) ⟨Nat.le_of_ble_eq_true rfl, Nat.le_of_ble_eq_true rfl⟩ ⟨Nat.le_of_ble_eq_true rfl, Nat.le_of_ble_eq_true rfl⟩ (fun r σ5866 hp => ?_)
        obtain ⟨h5867, x5869, rfl⟩ := hp
        have h5868 := HS.trans h5853 h5867 (by decide)
        refine m_goto F e_X10_worth_38 ?_
        exact m_lret F hQ e_X10_worth_44 (⟨h5868, _, rfl⟩)
set_option maxRecDepth 20000 in
theorem q_X10_entry_ (l : Launch) (V : VX) (c T Z u h : Nat) (P : NP) (L : Nat → LQ) (N : Nat) (σ : Mem) (x901 : Int32) (x902 : Int32) (h0 : HR V c ⟨T, Z, u, h, P, L⟩ σ) (hob : OKB L) (hP : OKP P)  : Ct l V yX10_entry_ cX10_entry_ 3 (some .long) 0 0 0 N σ [.ref c, .int x901, .int x902] (fun r τ => HS V c (⟨T, Z, u, h, P, L⟩ : RG) [0, 2, 3, 4, 5, 6, 7, 8, 9, 10, 11, 12, 13, 14, 15, 16, 17, 18, 19, 20, 21, 22, 23] σ τ ∧ ∃ x : Int64, r = some (.long x)) := by
  refine Ct.of (by decide) (Nat.le_of_ble_eq_true rfl) [(0, .ref c), (1, .int x901), (2, .int x902)] rfl (fun X hX F hQ => ?_)
  have hPP := hP
  unfold OKP at hPP
  have h1 : HS V c ⟨T, Z, u, h, P, L⟩ [0, 2, 3, 4, 5, 6, 7, 8, 9, 10, 11, 12, 13, 14, 15, 16, 17, 18, 19, 20, 21, 22, 23] σ σ := HS.start h0
  refine m_aload_n F rfl e_X10_entry__0 ?_
  refine m_iconst F (v := 0) (by decide) e_X10_entry__1 ?_
  refine r_put F (g' := (⟨T, Z, u, h, P, L⟩ : RG)) e_X10_entry__2 fp_X10_91 h1 (by decide) ⟨_, rfl⟩ (fun _ _ _ _ q => q) (fun _ _ _ q => q) rfl rfl (by decide) (fun σ5870 h5871 g5872 g5873 f5874 => ?_)
  refine m_iload_n F rfl e_X10_entry__5 ?_
  refine m_if_lt F e_X10_entry__6 (fun q6 => ?_) (fun q6 => ?_)
  · refine m_ldc2 F kc_X10_299 e_X10_entry__23 ?_
    exact m_lret F hQ e_X10_entry__26 (⟨h5871, _, rfl⟩)
  · obtain ⟨n5875, hn5875, rfl⟩ := nI_nn (x := x901) (fun e => q6 (Int32.lt_of_lt_of_le e (by decide)))
    have c6 : n5875 ≥ 0 := by have hh := mt (nI_ltI (a := n5875) (b := 0) (by omega) (by omega)).mpr q6; omega
    refine m_iload_n F rfl e_X10_entry__9 ?_
    refine m_i2l F e_X10_entry__10 ?_
    refine Wm.toplE (w := lN n5875) (nI_l (by omega)) ?_
    refine m_aload_n F rfl e_X10_entry__11 ?_
    refine r_get F e_X10_entry__12 fl_X10_59 h5871 rfl (fun v hv f5876 => ?_)
    obtain rfl : v = .ref (c + 16) := hv
    refine m_sipush F (v := 751) (by decide) e_X10_entry__15 ?_
    refine r_sld F (j := 751) e_X10_entry__18 h5871 (by decide) (by unfold vp_in; decide) (fun x5877 h5878 f5879 => ?_)
    obtain ⟨n5880, hn5880, rfl⟩ := EJ_m.mp h5878
    refine m_lcmp F e_X10_entry__19 ?_
    refine m_if_lt F e_X10_entry__20 (fun q20 => ?_) (fun q20 => ?_)
    · have c20 : n5875 < n5880 := (lN_lt (a := n5875) (b := n5880) (by omega) (by omega)).mp ((lg_cmp_lt _ _).mp q20)
      refine m_iload_n F rfl e_X10_entry__27 ?_
      refine m_if_lt F e_X10_entry__28 (fun q28 => ?_) (fun q28 => ?_)
      · refine m_iload_n F rfl e_X10_entry__52 ?_
        refine m_bipush F (v := 10) (by decide) e_X10_entry__53 ?_
        refine m_icmp_lt F e_X10_entry__55 (fun q55 => ?_) (fun q55 => ?_)
        · refine m_ldc2 F kc_X10_299 e_X10_entry__85 ?_
          exact m_lret F hQ e_X10_entry__88 (⟨h5871, _, rfl⟩)
        · obtain ⟨n5881, hn5881, rfl⟩ := nI_nn (x := x902) (fun e => q55 (Int32.lt_of_lt_of_le e (by decide)))
          have c55 : n5881 ≥ 10 := by have hh := mt (nI_ltI (a := n5881) (b := 10) (by omega) (by omega)).mpr q55; omega
          refine m_iload_n F rfl e_X10_entry__58 ?_
          refine m_bipush F (v := 16) (by decide) e_X10_entry__59 ?_
          refine m_icmp_ge F e_X10_entry__61 (fun q61 => ?_) (fun q61 => ?_)
          · have c61 : n5881 ≥ 16 := (nI_leI (a := 16) (b := n5881) (by omega) (by omega)).mp q61
            refine m_ldc2 F kc_X10_299 e_X10_entry__85 ?_
            exact m_lret F hQ e_X10_entry__88 (⟨h5871, _, rfl⟩)
          · have c61 : n5881 < 16 := by have hh := mt (nI_leI (a := 16) (b := n5881) (by omega) (by omega)).mpr q61; omega
            refine m_aload_n F rfl e_X10_entry__64 ?_
            refine r_getC F e_X10_entry__65 fl_X10_59 h5871 (f5876) ?_
            refine m_sipush F (v := 753) (by decide) e_X10_entry__68 ?_
            refine m_bipush F (v := 9) (by decide) e_X10_entry__71 ?_
            refine m_iload_n F rfl e_X10_entry__73 ?_
            refine m_imul F e_X10_entry__74 ?_
            refine Wm.topE (w := nI (9 * n5875)) (pk_mul 9 n5875) ?_
            refine m_iadd F e_X10_entry__75 ?_
            refine Wm.topE (w := nI (753 + 9 * n5875)) (nI_add 753 (9 * n5875)) ?_
            refine m_iload_n F rfl e_X10_entry__76 ?_
            refine m_iadd F e_X10_entry__77 ?_
            refine Wm.topE (w := nI ((753 + 9 * n5875) + n5881)) (nI_add (753 + 9 * n5875) n5881) ?_
            refine m_bipush F (v := 7) (by decide) e_X10_entry__78 ?_
            refine m_isub F e_X10_entry__80 ?_
            refine Wm.topE (w := nI (((753 + 9 * n5875) + n5881) - 7)) (pk_sub (a := (753 + 9 * n5875) + n5881) (b := 7) (by omega)) ?_
            refine r_sld F (j := ((753 + 9 * n5875) + n5881) - 7) e_X10_entry__81 h5871 (nI_clamp (by omega)) (vp_in_nI (by omega) (by decide)) (fun x5882 h5883 f5884 => ?_)
            refine m_goto F e_X10_entry__82 ?_
            exact m_lret F hQ e_X10_entry__88 (⟨h5871, _, rfl⟩)
      · obtain ⟨n5885, hn5885, rfl⟩ := nI_nn (x := x902) (fun e => q28 (Int32.lt_of_lt_of_le e (by decide)))
        have c28 : n5885 ≥ 0 := by have hh := mt (nI_ltI (a := n5885) (b := 0) (by omega) (by omega)).mpr q28; omega
        refine m_iload_n F rfl e_X10_entry__31 ?_
        refine m_iconst F (v := 3) (by decide) e_X10_entry__32 ?_
        refine m_icmp_ge F e_X10_entry__33 (fun q33 => ?_) (fun q33 => ?_)
        · have c33 : n5885 ≥ 3 := (nI_leI (a := 3) (b := n5885) (by omega) (by omega)).mp q33
          refine m_iload_n F rfl e_X10_entry__52 ?_
          refine m_bipush F (v := 10) (by decide) e_X10_entry__53 ?_
          refine m_icmp_lt F e_X10_entry__55 (fun q55 => ?_) (fun q55 => ?_)
          · have c55 : n5885 < 10 := (nI_ltI (a := n5885) (b := 10) (by omega) (by omega)).mp q55
            refine m_ldc2 F kc_X10_299 e_X10_entry__85 ?_
            exact m_lret F hQ e_X10_entry__88 (⟨h5871, _, rfl⟩)
          · have c55 : n5885 ≥ 10 := by have hh := mt (nI_ltI (a := n5885) (b := 10) (by omega) (by omega)).mpr q55; omega
            refine m_iload_n F rfl e_X10_entry__58 ?_
            refine m_bipush F (v := 16) (by decide) e_X10_entry__59 ?_
            refine m_icmp_ge F e_X10_entry__61 (fun q61 => ?_) (fun q61 => ?_)
            · have c61 : n5885 ≥ 16 := (nI_leI (a := 16) (b := n5885) (by omega) (by omega)).mp q61
              refine m_ldc2 F kc_X10_299 e_X10_entry__85 ?_
              exact m_lret F hQ e_X10_entry__88 (⟨h5871, _, rfl⟩)
            · have c61 : n5885 < 16 := by have hh := mt (nI_leI (a := 16) (b := n5885) (by omega) (by omega)).mpr q61; omega
              refine m_aload_n F rfl e_X10_entry__64 ?_
              refine r_getC F e_X10_entry__65 fl_X10_59 h5871 (f5876) ?_
              refine m_sipush F (v := 753) (by decide) e_X10_entry__68 ?_
              refine m_bipush F (v := 9) (by decide) e_X10_entry__71 ?_
              refine m_iload_n F rfl e_X10_entry__73 ?_
              refine m_imul F e_X10_entry__74 ?_
              refine Wm.topE (w := nI (9 * n5875)) (pk_mul 9 n5875) ?_
              refine m_iadd F e_X10_entry__75 ?_
              refine Wm.topE (w := nI (753 + 9 * n5875)) (nI_add 753 (9 * n5875)) ?_
              refine m_iload_n F rfl e_X10_entry__76 ?_
              refine m_iadd F e_X10_entry__77 ?_
              refine Wm.topE (w := nI ((753 + 9 * n5875) + n5885)) (nI_add (753 + 9 * n5875) n5885) ?_
              refine m_bipush F (v := 7) (by decide) e_X10_entry__78 ?_
              refine m_isub F e_X10_entry__80 ?_
              refine Wm.topE (w := nI (((753 + 9 * n5875) + n5885) - 7)) (pk_sub (a := (753 + 9 * n5875) + n5885) (b := 7) (by omega)) ?_
              refine r_sld F (j := ((753 + 9 * n5875) + n5885) - 7) e_X10_entry__81 h5871 (nI_clamp (by omega)) (vp_in_nI (by omega) (by decide)) (fun x5886 h5887 f5888 => ?_)
              refine m_goto F e_X10_entry__82 ?_
              exact m_lret F hQ e_X10_entry__88 (⟨h5871, _, rfl⟩)
        · have c33 : n5885 < 3 := by have hh := mt (nI_leI (a := 3) (b := n5885) (by omega) (by omega)).mpr q33; omega
          refine m_aload_n F rfl e_X10_entry__36 ?_
          refine r_getC F e_X10_entry__37 fl_X10_59 h5871 (f5876) ?_
          refine m_sipush F (v := 753) (by decide) e_X10_entry__40 ?_
          refine m_bipush F (v := 9) (by decide) e_X10_entry__43 ?_
          refine m_iload_n F rfl e_X10_entry__45 ?_
          refine m_imul F e_X10_entry__46 ?_
          refine Wm.topE (w := nI (9 * n5875)) (pk_mul 9 n5875) ?_
          refine m_iadd F e_X10_entry__47 ?_
          refine Wm.topE (w := nI (753 + 9 * n5875)) (nI_add 753 (9 * n5875)) ?_
          refine m_iload_n F rfl e_X10_entry__48 ?_
          refine m_iadd F e_X10_entry__49 ?_
          refine Wm.topE (w := nI ((753 + 9 * n5875) + n5885)) (nI_add (753 + 9 * n5875) n5885) ?_
          refine r_sld F (j := (753 + 9 * n5875) + n5885) e_X10_entry__50 h5871 (nI_clamp (by omega)) (vp_in_nI (by omega) (by decide)) (fun x5889 h5890 f5891 => ?_)
          exact m_lret F hQ e_X10_entry__51 (⟨h5871, _, rfl⟩)
    · have c20 : n5875 ≥ n5880 := by have hh := mt (fun h9 => (lg_cmp_lt (lN n5875) (lN n5880)).mpr ((lN_lt (a := n5875) (b := n5880) (by omega) (by omega)).mpr h9)) q20; omega
      refine m_ldc2 F kc_X10_299 e_X10_entry__23 ?_
      exact m_lret F hQ e_X10_entry__26 (⟨h5871, _, rfl⟩)
set_option maxRecDepth 20000 in
theorem lq_X10_sum_32 {V : VX} {X : MX} {N : Nat} {σ : Mem} {c T Z u h : Nat} {P : NP} {L : Nat → LQ}   (F : Fx V X yX10_sum cX10_sum 6 (some .long) (rmd 0 0 0)) (hQ : Rt V X 0 0 N (fun r τ => HS V c (⟨T, Z, u, h, P, L⟩ : RG) [0, 2, 3, 4, 5, 6, 7, 8, 9, 10, 11, 12, 13, 14, 15, 16, 17, 18, 19, 20, 21, 22, 23] σ τ ∧ ∃ x : Int64, r = some (.long x))) (hob : OKB L) (hP : OKP P)   : ∀ (fuel : Nat) (a : Nat) (b : Nat) (w1 : Int64) (i : Nat) (τ : Mem), HS V c (⟨T, Z, u, h, P, L⟩ : RG) [0, 2, 3, 4, 5, 6, 7, 8, 9, 10, 11, 12, 13, 14, 15, 16, 17, 18, 19, 20, 21, 22, 23] σ τ → a ≤ 5 ∧ b ≤ 5 ∧ i ≤ 40 → 40 - i < fuel → Wm V X 6 N τ 0 0 32 [(0, .ref c), (1, .int (nI a)), (2, .int (nI b)), (3, .long w1), (5, .int (nI i))] [] := by
  intro fuel
  induction fuel with
  | zero => intros; rename_i hm; exact absurd hm (Nat.not_lt_zero _)
  | succ fuel ih =>
    intro a b w1 i τ h1 hi hm
    have hPP := hP
    unfold OKP at hPP
    refine m_iload F rfl e_X10_sum_32 ?_
    refine m_i2l F e_X10_sum_34 ?_
    refine Wm.toplE (w := lN i) (nI_l (by omega)) ?_
    refine m_aload_n F rfl e_X10_sum_35 ?_
    refine r_get F e_X10_sum_36 fl_X10_59 h1 rfl (fun v hv f5892 => ?_)
    obtain rfl : v = .ref (c + 16) := hv
    refine m_sipush F (v := 751) (by decide) e_X10_sum_39 ?_
    refine r_sld F (j := 751) e_X10_sum_42 h1 (by decide) (by unfold vp_in; decide) (fun x5893 h5894 f5895 => ?_)
    obtain ⟨n5896, hn5896, rfl⟩ := EJ_m.mp h5894
    refine m_lcmp F e_X10_sum_43 ?_
    refine m_if_ge F e_X10_sum_44 (fun q44 => ?_) (fun q44 => ?_)
    · have c44 : i ≥ n5896 := (lN_le (a := n5896) (b := i) (by omega) (by omega)).mp ((lg_cmp_ge _ _).mp q44)
      refine m_lload_n F rfl e_X10_sum_94 ?_
      exact m_lret F hQ e_X10_sum_95 (⟨h1, _, rfl⟩)
    · have c44 : i < n5896 := by have hh := mt (fun h9 => (lg_cmp_ge (lN i) (lN n5896)).mpr ((lN_le (a := n5896) (b := i) (by omega) (by omega)).mpr h9)) q44; omega
      refine m_aload_n F rfl e_X10_sum_47 ?_
      refine r_getC F e_X10_sum_48 fl_X10_59 h1 (f5892) ?_
      refine m_sipush F (v := 753) (by decide) e_X10_sum_51 ?_
      refine m_bipush F (v := 9) (by decide) e_X10_sum_54 ?_
      refine m_iload F rfl e_X10_sum_56 ?_
      refine m_imul F e_X10_sum_58 ?_
      refine Wm.topE (w := nI (9 * i)) (pk_mul 9 i) ?_
      refine m_iadd F e_X10_sum_59 ?_
      refine Wm.topE (w := nI (753 + 9 * i)) (nI_add 753 (9 * i)) ?_
      refine r_sld F (j := 753 + 9 * i) e_X10_sum_60 h1 (nI_clamp (by omega)) (vp_in_nI (by omega) (by decide)) (fun x5897 h5898 f5899 => ?_)
      refine m_iload_n F rfl e_X10_sum_61 ?_
      refine m_i2l F e_X10_sum_62 ?_
      refine Wm.toplE (w := lN b) (nI_l (by omega)) ?_
      refine m_lcmp F e_X10_sum_63 ?_
      refine Wm.top (fun x5900 _ => ?_)
      refine m_if_ne F e_X10_sum_64 (fun q64 => ?_) (fun q64 => ?_)
      · refine m_iinc F (v := nI (i + 1)) (lv' := [(5, .int (nI (i + 1))), (0, .ref c), (1, .int (nI a)), (2, .int (nI b)), (3, .long w1)]) e_X10_sum_88 rfl (nI_add i 1) (by decide) rfl ?_
        refine m_goto F e_X10_sum_91 ?_
        refine Wm.lvsub (lv' := [(0, .ref c), (1, .int (nI a)), (2, .int (nI b)), (3, .long w1), (5, .int (nI (i + 1)))]) ?_ [1, 2, 3, 4, 0] rfl
        exact ih a b w1 (i + 1) _ h1 (by omega) (by omega)
      · subst q64
        refine m_lload_n F rfl e_X10_sum_67 ?_
        refine m_aload_n F rfl e_X10_sum_68 ?_
        refine r_getC F e_X10_sum_69 fl_X10_59 h1 (f5892) ?_
        refine m_sipush F (v := 753) (by decide) e_X10_sum_72 ?_
        refine m_bipush F (v := 9) (by decide) e_X10_sum_75 ?_
        refine m_iload F rfl e_X10_sum_77 ?_
        refine m_imul F e_X10_sum_79 ?_
        refine Wm.topE (w := nI (9 * i)) (pk_mul 9 i) ?_
        refine m_iadd F e_X10_sum_80 ?_
        refine Wm.topE (w := nI (753 + 9 * i)) (nI_add 753 (9 * i)) ?_
        refine m_iconst F (v := 3) (by decide) e_X10_sum_81 ?_
        refine m_iadd F e_X10_sum_82 ?_
        refine Wm.topE (w := nI (753 + 9 * i + 3)) (nI_add (753 + 9 * i) 3) ?_
        refine m_iload_n F rfl e_X10_sum_83 ?_
        refine m_iadd F e_X10_sum_84 ?_
        refine Wm.topE (w := nI ((753 + 9 * i + 3) + a)) (nI_add (753 + 9 * i + 3) a) ?_
        refine r_sld F (j := (753 + 9 * i + 3) + a) e_X10_sum_85 h1 (nI_clamp (by omega)) (vp_in_nI (by omega) (by decide)) (fun x5901 h5902 f5903 => ?_)
        refine m_ladd F e_X10_sum_86 ?_
        refine Wm.topl (fun x5904 _ => ?_)
        refine m_lstore_n F (lv' := [(3, .long x5904), (0, .ref c), (1, .int (nI a)), (2, .int (nI b)), (5, .int (nI i))]) e_X10_sum_87 (by decide) rfl ?_
        refine m_iinc F (v := nI (i + 1)) (lv' := [(5, .int (nI (i + 1))), (3, .long x5904), (0, .ref c), (1, .int (nI a)), (2, .int (nI b))]) e_X10_sum_88 rfl (nI_add i 1) (by decide) rfl ?_
        refine m_goto F e_X10_sum_91 ?_
        refine Wm.lvsub (lv' := [(0, .ref c), (1, .int (nI a)), (2, .int (nI b)), (3, .long x5904), (5, .int (nI (i + 1)))]) ?_ [2, 3, 4, 1, 0] rfl
        exact ih a b x5904 (i + 1) _ h1 (by omega) (by omega)
set_option maxRecDepth 20000 in
theorem q_X10_sum (l : Launch) (V : VX) (c T Z u h : Nat) (P : NP) (L : Nat → LQ) (N : Nat) (σ : Mem) (x901 : Int32) (x902 : Int32) (h0 : HR V c ⟨T, Z, u, h, P, L⟩ σ) (hob : OKB L) (hP : OKP P)  : Ct l V yX10_sum cX10_sum 6 (some .long) 0 0 0 N σ [.ref c, .int x901, .int x902] (fun r τ => HS V c (⟨T, Z, u, h, P, L⟩ : RG) [0, 2, 3, 4, 5, 6, 7, 8, 9, 10, 11, 12, 13, 14, 15, 16, 17, 18, 19, 20, 21, 22, 23] σ τ ∧ ∃ x : Int64, r = some (.long x)) := by
  refine Ct.of (by decide) (Nat.le_of_ble_eq_true rfl) [(0, .ref c), (1, .int x901), (2, .int x902)] rfl (fun X hX F hQ => ?_)
  have hPP := hP
  unfold OKP at hPP
  have h1 : HS V c ⟨T, Z, u, h, P, L⟩ [0, 2, 3, 4, 5, 6, 7, 8, 9, 10, 11, 12, 13, 14, 15, 16, 17, 18, 19, 20, 21, 22, 23] σ σ := HS.start h0
  refine m_aload_n F rfl e_X10_sum_0 ?_
  refine m_iconst F (v := 0) (by decide) e_X10_sum_1 ?_
  refine r_put F (g' := (⟨T, Z, u, h, P, L⟩ : RG)) e_X10_sum_2 fp_X10_91 h1 (by decide) ⟨_, rfl⟩ (fun _ _ _ _ q => q) (fun _ _ _ q => q) rfl rfl (by decide) (fun σ5905 h5906 g5907 g5908 f5909 => ?_)
  refine m_iload_n F rfl e_X10_sum_5 ?_
  refine m_if_lt F e_X10_sum_6 (fun q6 => ?_) (fun q6 => ?_)
  · refine m_ldc2 F kc_X10_299 e_X10_sum_23 ?_
    exact m_lret F hQ e_X10_sum_26 (⟨h5906, _, rfl⟩)
  · obtain ⟨n5910, hn5910, rfl⟩ := nI_nn (x := x901) (fun e => q6 (Int32.lt_of_lt_of_le e (by decide)))
    have c6 : n5910 ≥ 0 := by have hh := mt (nI_ltI (a := n5910) (b := 0) (by omega) (by omega)).mpr q6; omega
    refine m_iload_n F rfl e_X10_sum_9 ?_
    refine m_iconst F (v := 5) (by decide) e_X10_sum_10 ?_
    refine m_icmp_gt F e_X10_sum_11 (fun q11 => ?_) (fun q11 => ?_)
    · have c11 : n5910 > 5 := (nI_ltI (a := 5) (b := n5910) (by omega) (by omega)).mp q11
      refine m_ldc2 F kc_X10_299 e_X10_sum_23 ?_
      exact m_lret F hQ e_X10_sum_26 (⟨h5906, _, rfl⟩)
    · have c11 : n5910 ≤ 5 := by have hh := mt (nI_ltI (a := 5) (b := n5910) (by omega) (by omega)).mpr q11; omega
      refine m_iload_n F rfl e_X10_sum_14 ?_
      refine m_if_lt F e_X10_sum_15 (fun q15 => ?_) (fun q15 => ?_)
      · refine m_ldc2 F kc_X10_299 e_X10_sum_23 ?_
        exact m_lret F hQ e_X10_sum_26 (⟨h5906, _, rfl⟩)
      · obtain ⟨n5911, hn5911, rfl⟩ := nI_nn (x := x902) (fun e => q15 (Int32.lt_of_lt_of_le e (by decide)))
        have c15 : n5911 ≥ 0 := by have hh := mt (nI_ltI (a := n5911) (b := 0) (by omega) (by omega)).mpr q15; omega
        refine m_iload_n F rfl e_X10_sum_18 ?_
        refine m_iconst F (v := 5) (by decide) e_X10_sum_19 ?_
        refine m_icmp_le F e_X10_sum_20 (fun q20 => ?_) (fun q20 => ?_)
        · have c20 : n5911 ≤ 5 := (nI_leI (a := n5911) (b := 5) (by omega) (by omega)).mp q20
          refine m_lconst F (v := 0) (by decide) e_X10_sum_27 ?_
          refine m_lstore_n F (lv' := [(3, .long 0), (0, .ref c), (1, .int (nI n5910)), (2, .int (nI n5911))]) e_X10_sum_28 (by decide) rfl ?_
          refine m_iconst F (v := 0) (by decide) e_X10_sum_29 ?_
          refine m_istore F (lv' := [(5, .int 0), (3, .long 0), (0, .ref c), (1, .int (nI n5910)), (2, .int (nI n5911))]) e_X10_sum_30 (by decide) rfl ?_
          refine Wm.lvsub (lv' := [(0, .ref c), (1, .int (nI n5910)), (2, .int (nI n5911)), (3, .long 0), (5, .int 0)]) ?_ [2, 3, 4, 1, 0] rfl
          exact lq_X10_sum_32 F hQ hob hP  (40 - 0 + 1) n5910 n5911 0 0 _ h5906 (by omega) (Nat.lt_succ_self _)
        · have c20 : n5911 > 5 := by have hh := mt (nI_leI (a := n5911) (b := 5) (by omega) (by omega)).mpr q20; omega
          refine m_ldc2 F kc_X10_299 e_X10_sum_23 ?_
          exact m_lret F hQ e_X10_sum_26 (⟨h5906, _, rfl⟩)
set_option maxRecDepth 20000 in
theorem lq_X10_latest_26 {V : VX} {X : MX} {N : Nat} {σ : Mem} {c T Z u h : Nat} {P : NP} {L : Nat → LQ}   (F : Fx V X yX10_latest cX10_latest 4 (some .int) (rmd 2 0 0)) (hQ : Rt V X 0 0 N (fun r τ => HS V c (⟨T, Z, u, h, P, L⟩ : RG) [0, 2, 3, 4, 5, 6, 7, 8, 9, 10, 11, 12, 13, 14, 15, 16, 17, 18, 19, 20, 21, 22, 23] σ τ ∧ ∃ x : Int32, r = some (.int x))) (hob : OKB L) (hP : OKP P)   : ∀ (fuel : Nat) (a : Nat) (b : Nat) (i : Nat) (τ : Mem), HS V c (⟨T, Z, u, h, P, L⟩ : RG) [0, 2, 3, 4, 5, 6, 7, 8, 9, 10, 11, 12, 13, 14, 15, 16, 17, 18, 19, 20, 21, 22, 23] σ τ → a ≤ 3 ∧ b ≤ 5 ∧ i ≤ 40 → 40 - i < fuel → Wm V X 4 N τ 0 0 26 [(0, .ref c), (1, .int (nI a)), (2, .int (nI b)), (3, .int (nI i))] [] := by
  intro fuel
  induction fuel with
  | zero => intros; rename_i hm; exact absurd hm (Nat.not_lt_zero _)
  | succ fuel ih =>
    intro a b i τ h1 hi hm
    have hPP := hP
    unfold OKP at hPP
    refine m_iload_n F rfl e_X10_latest_26 ?_
    refine m_i2l F e_X10_latest_27 ?_
    refine Wm.toplE (w := lN i) (nI_l (by omega)) ?_
    refine m_aload_n F rfl e_X10_latest_28 ?_
    refine r_get F e_X10_latest_29 fl_X10_59 h1 rfl (fun v hv f5912 => ?_)
    obtain rfl : v = .ref (c + 16) := hv
    refine m_sipush F (v := 751) (by decide) e_X10_latest_32 ?_
    refine r_sld F (j := 751) e_X10_latest_35 h1 (by decide) (by unfold vp_in; decide) (fun x5913 h5914 f5915 => ?_)
    obtain ⟨n5916, hn5916, rfl⟩ := EJ_m.mp h5914
    refine m_lcmp F e_X10_latest_36 ?_
    refine m_if_ge F e_X10_latest_37 (fun q37 => ?_) (fun q37 => ?_)
    · have c37 : i ≥ n5916 := (lN_le (a := n5916) (b := i) (by omega) (by omega)).mp ((lg_cmp_ge _ _).mp q37)
      refine m_bipush F (v := (-2)) (by decide) e_X10_latest_103 ?_
      exact m_iret F hQ e_X10_latest_105 (⟨h1, _, rfl⟩)
    · have c37 : i < n5916 := by have hh := mt (fun h9 => (lg_cmp_ge (lN i) (lN n5916)).mpr ((lN_le (a := n5916) (b := i) (by omega) (by omega)).mpr h9)) q37; omega
      refine m_aload_n F rfl e_X10_latest_40 ?_
      refine r_getC F e_X10_latest_41 fl_X10_59 h1 (f5912) ?_
      refine m_sipush F (v := 753) (by decide) e_X10_latest_44 ?_
      refine m_bipush F (v := 9) (by decide) e_X10_latest_47 ?_
      refine m_iload_n F rfl e_X10_latest_49 ?_
      refine m_imul F e_X10_latest_50 ?_
      refine Wm.topE (w := nI (9 * i)) (pk_mul 9 i) ?_
      refine m_iadd F e_X10_latest_51 ?_
      refine Wm.topE (w := nI (753 + 9 * i)) (nI_add 753 (9 * i)) ?_
      refine r_sld F (j := 753 + 9 * i) e_X10_latest_52 h1 (nI_clamp (by omega)) (vp_in_nI (by omega) (by decide)) (fun x5917 h5918 f5919 => ?_)
      refine m_iload_n F rfl e_X10_latest_53 ?_
      refine m_i2l F e_X10_latest_54 ?_
      refine Wm.toplE (w := lN b) (nI_l (by omega)) ?_
      refine m_lcmp F e_X10_latest_55 ?_
      refine Wm.top (fun x5920 _ => ?_)
      refine m_if_ne F e_X10_latest_56 (fun q56 => ?_) (fun q56 => ?_)
      · refine m_iinc F (v := nI (i + 1)) (lv' := [(3, .int (nI (i + 1))), (0, .ref c), (1, .int (nI a)), (2, .int (nI b))]) e_X10_latest_97 rfl (nI_add i 1) (by decide) rfl ?_
        refine m_goto F e_X10_latest_100 ?_
        refine Wm.lvsub (lv' := [(0, .ref c), (1, .int (nI a)), (2, .int (nI b)), (3, .int (nI (i + 1)))]) ?_ [1, 2, 3, 0] rfl
        exact ih a b (i + 1) _ h1 (by omega) (by omega)
      · subst q56
        refine m_aload_n F rfl e_X10_latest_59 ?_
        refine r_getC F e_X10_latest_60 fl_X10_59 h1 (f5912) ?_
        refine m_sipush F (v := 753) (by decide) e_X10_latest_63 ?_
        refine m_bipush F (v := 9) (by decide) e_X10_latest_66 ?_
        refine m_iload_n F rfl e_X10_latest_68 ?_
        refine m_imul F e_X10_latest_69 ?_
        refine Wm.topE (w := nI (9 * i)) (pk_mul 9 i) ?_
        refine m_iadd F e_X10_latest_70 ?_
        refine Wm.topE (w := nI (753 + 9 * i)) (nI_add 753 (9 * i)) ?_
        refine m_iconst F (v := 2) (by decide) e_X10_latest_71 ?_
        refine m_iadd F e_X10_latest_72 ?_
        refine Wm.topE (w := nI (753 + 9 * i + 2)) (nI_add (753 + 9 * i) 2) ?_
        refine r_sld F (j := 753 + 9 * i + 2) e_X10_latest_73 h1 (nI_clamp (by omega)) (vp_in_nI (by omega) (by decide)) (fun x5921 h5922 f5923 => ?_)
        refine m_iload_n F rfl e_X10_latest_74 ?_
        refine m_i2l F e_X10_latest_75 ?_
        refine Wm.toplE (w := lN a) (nI_l (by omega)) ?_
        refine m_lcmp F e_X10_latest_76 ?_
        refine Wm.top (fun x5924 _ => ?_)
        refine m_if_ne F e_X10_latest_77 (fun q77 => ?_) (fun q77 => ?_)
        · refine m_iinc F (v := nI (i + 1)) (lv' := [(3, .int (nI (i + 1))), (0, .ref c), (1, .int (nI a)), (2, .int (nI b))]) e_X10_latest_97 rfl (nI_add i 1) (by decide) rfl ?_
          refine m_goto F e_X10_latest_100 ?_
          refine Wm.lvsub (lv' := [(0, .ref c), (1, .int (nI a)), (2, .int (nI b)), (3, .int (nI (i + 1)))]) ?_ [1, 2, 3, 0] rfl
          exact ih a b (i + 1) _ h1 (by omega) (by omega)
        · subst q77
          refine m_aload_n F rfl e_X10_latest_80 ?_
          refine r_getC F e_X10_latest_81 fl_X10_59 h1 (f5912) ?_
          refine m_sipush F (v := 753) (by decide) e_X10_latest_84 ?_
          refine m_bipush F (v := 9) (by decide) e_X10_latest_87 ?_
          refine m_iload_n F rfl e_X10_latest_89 ?_
          refine m_imul F e_X10_latest_90 ?_
          refine Wm.topE (w := nI (9 * i)) (pk_mul 9 i) ?_
          refine m_iadd F e_X10_latest_91 ?_
          refine Wm.topE (w := nI (753 + 9 * i)) (nI_add 753 (9 * i)) ?_
          refine m_iconst F (v := 1) (by decide) e_X10_latest_92 ?_
          refine m_iadd F e_X10_latest_93 ?_
          refine Wm.topE (w := nI (753 + 9 * i + 1)) (nI_add (753 + 9 * i) 1) ?_
          refine r_sld F (j := 753 + 9 * i + 1) e_X10_latest_94 h1 (nI_clamp (by omega)) (vp_in_nI (by omega) (by decide)) (fun x5925 h5926 f5927 => ?_)
          refine m_l2i F e_X10_latest_95 ?_
          refine Wm.top (fun x5928 _ => ?_)
          exact m_iret F hQ e_X10_latest_96 (⟨h1, _, rfl⟩)
set_option maxRecDepth 20000 in
theorem q_X10_latest (l : Launch) (V : VX) (c T Z u h : Nat) (P : NP) (L : Nat → LQ) (N : Nat) (σ : Mem) (x901 : Int32) (x902 : Int32) (h0 : HR V c ⟨T, Z, u, h, P, L⟩ σ) (hob : OKB L) (hP : OKP P)  : Ct l V yX10_latest cX10_latest 4 (some .int) 2 0 0 N σ [.ref c, .int x901, .int x902] (fun r τ => HS V c (⟨T, Z, u, h, P, L⟩ : RG) [0, 2, 3, 4, 5, 6, 7, 8, 9, 10, 11, 12, 13, 14, 15, 16, 17, 18, 19, 20, 21, 22, 23] σ τ ∧ ∃ x : Int32, r = some (.int x)) := by
  refine Ct.of (by decide) (Nat.le_of_ble_eq_true rfl) [(0, .ref c), (1, .int x901), (2, .int x902)] rfl (fun X hX F hQ => ?_)
  have hPP := hP
  unfold OKP at hPP
  have h1 : HS V c ⟨T, Z, u, h, P, L⟩ [0, 2, 3, 4, 5, 6, 7, 8, 9, 10, 11, 12, 13, 14, 15, 16, 17, 18, 19, 20, 21, 22, 23] σ σ := HS.start h0
  refine m_aload_n F rfl e_X10_latest_0 ?_
  refine m_iconst F (v := 0) (by decide) e_X10_latest_1 ?_
  refine r_put F (g' := (⟨T, Z, u, h, P, L⟩ : RG)) e_X10_latest_2 fp_X10_91 h1 (by decide) ⟨_, rfl⟩ (fun _ _ _ _ q => q) (fun _ _ _ q => q) rfl rfl (by decide) (fun σ5929 h5930 g5931 g5932 f5933 => ?_)
  refine m_aload_n F rfl e_X10_latest_5 ?_
  refine m_iload_n F rfl e_X10_latest_6 ?_
  refine r_callV F e_X10_latest_7 (q_X10_isLease (x_l X) V c T Z u h P L _ _ x901 h5930.1 (hob) hP ) cb_X10_isLease ml_X10_292 im_X10_isLease se_X10_isLease h5930 rfl rfl (rest := []) rfl (Nat.le_of_ble_eq_true rfl) ⟨Nat.le_of_ble_eq_true rfl, Nat.le_of_ble_eq_true rfl⟩ ⟨Nat.le_of_ble_eq_true rfl, Nat.le_of_ble_eq_true rfl⟩ (fun r σ5934 hp => ?_)
  obtain ⟨h5935, c5937⟩ := hp
  have h5936 := HS.trans h5930 h5935 (by decide)
  rcases c5937 with rfl | ⟨n5938, h5939, e5940, rfl⟩
  · refine m_if_eq F e_X10_latest_10 (fun _ => ?_) (fun q => absurd (by decide) q)
    refine m_iconst F (v := (-1)) (by decide) e_X10_latest_22 ?_
    exact m_iret F hQ e_X10_latest_23 (⟨h5936, _, rfl⟩)
  · subst e5940
    refine m_if_eq F e_X10_latest_10 (fun q => absurd q (by decide)) (fun _ => ?_)
    refine m_iload_n F rfl e_X10_latest_13 ?_
    refine m_if_lt F e_X10_latest_14 (fun q14 => ?_) (fun q14 => ?_)
    · refine m_iconst F (v := (-1)) (by decide) e_X10_latest_22 ?_
      exact m_iret F hQ e_X10_latest_23 (⟨h5936, _, rfl⟩)
    · obtain ⟨n5941, hn5941, rfl⟩ := nI_nn (x := x902) (fun e => q14 (Int32.lt_of_lt_of_le e (by decide)))
      have c14 : n5941 ≥ 0 := by have hh := mt (nI_ltI (a := n5941) (b := 0) (by omega) (by omega)).mpr q14; omega
      refine m_iload_n F rfl e_X10_latest_17 ?_
      refine m_iconst F (v := 5) (by decide) e_X10_latest_18 ?_
      refine m_icmp_le F e_X10_latest_19 (fun q19 => ?_) (fun q19 => ?_)
      · have c19 : n5941 ≤ 5 := (nI_leI (a := n5941) (b := 5) (by omega) (by omega)).mp q19
        refine m_iconst F (v := 0) (by decide) e_X10_latest_24 ?_
        refine m_istore_n F (lv' := [(3, .int 0), (0, .ref c), (1, .int (nI n5938)), (2, .int (nI n5941))]) e_X10_latest_25 (by decide) rfl ?_
        refine Wm.lvsub (lv' := [(0, .ref c), (1, .int (nI n5938)), (2, .int (nI n5941)), (3, .int 0)]) ?_ [1, 2, 3, 0] rfl
        exact lq_X10_latest_26 F hQ hob hP  (40 - 0 + 1) n5938 n5941 0 _ h5936 (by omega) (Nat.lt_succ_self _)
      · have c19 : n5941 > 5 := by have hh := mt (nI_leI (a := n5941) (b := 5) (by omega) (by omega)).mpr q19; omega
        refine m_iconst F (v := (-1)) (by decide) e_X10_latest_22 ?_
        exact m_iret F hQ e_X10_latest_23 (⟨h5936, _, rfl⟩)
set_option maxRecDepth 20000 in
theorem lq_X10_partFor_36 {V : VX} {X : MX} {N : Nat} {σ : Mem} {c T Z u h : Nat} {P : NP} {L : Nat → LQ}  {x902 : Int64} (F : Fx V X yX10_partFor cX10_partFor 6 (some .int) (rmd 2 0 0)) (hQ : Rt V X 0 0 N (fun r τ => HS V c (⟨T, Z, u, h, P, L⟩ : RG) [0, 2, 3, 4, 5, 6, 7, 8, 9, 10, 11, 12, 13, 14, 15, 16, 17, 18, 19, 20, 21, 22, 23] σ τ ∧ ∃ x : Int32, r = some (.int x))) (hob : OKB L) (hP : OKP P)   : ∀ (fuel : Nat) (a : Nat) (d : Nat) (i : Nat) (τ : Mem), HS V c (⟨T, Z, u, h, P, L⟩ : RG) [0, 2, 3, 4, 5, 6, 7, 8, 9, 10, 11, 12, 13, 14, 15, 16, 17, 18, 19, 20, 21, 22, 23] σ τ → a ≤ 3 ∧ d = 160 * a ∧ i ≤ 1000 → 1000 - i < fuel → Wm V X 6 N τ 0 0 36 [(0, .ref c), (1, .int (nI a)), (2, .long x902), (4, .int (nI d)), (5, .int (nI i))] [] := by
  intro fuel
  induction fuel with
  | zero => intros; rename_i hm; exact absurd hm (Nat.not_lt_zero _)
  | succ fuel ih =>
    intro a d i τ h1 hi hm
    have hPP := hP
    unfold OKP at hPP
    refine m_iload F rfl e_X10_partFor_36 ?_
    refine m_sipush F (v := 1000) (by decide) e_X10_partFor_38 ?_
    refine m_icmp_ge F e_X10_partFor_41 (fun q41 => ?_) (fun q41 => ?_)
    · have c41 : i ≥ 1000 := (nI_leI (a := 1000) (b := i) (by omega) (by omega)).mp q41
      refine m_bipush F (v := (-2)) (by decide) e_X10_partFor_95 ?_
      exact m_iret F hQ e_X10_partFor_97 (⟨h1, _, rfl⟩)
    · have c41 : i < 1000 := by have hh := mt (nI_leI (a := 1000) (b := i) (by omega) (by omega)).mpr q41; omega
      have hd := hi.2.1
      have hd := hi.2.1
      have hd := hi.2.1
      refine m_aload_n F rfl e_X10_partFor_44 ?_
      refine r_get F e_X10_partFor_45 fl_X10_59 h1 rfl (fun v hv f5942 => ?_)
      obtain rfl : v = .ref (c + 16) := hv
      refine m_iload F rfl e_X10_partFor_48 ?_
      refine m_bipush F (v := 6) (by decide) e_X10_partFor_50 ?_
      refine m_iadd F e_X10_partFor_52 ?_
      refine Wm.topE (w := nI (d + 6)) (nI_add d 6) ?_
      refine r_sld F (j := d + 6) e_X10_partFor_53 h1 (nI_clamp (by omega)) (vp_in_nI (by omega) (by decide)) (fun x5943 h5944 f5945 => ?_)
      refine m_iload F rfl e_X10_partFor_54 ?_
      refine m_i2l F e_X10_partFor_56 ?_
      refine Wm.toplE (w := lN i) (nI_l (by omega)) ?_
      refine m_lmul F e_X10_partFor_57 ?_
      refine Wm.topl (fun x5946 _ => ?_)
      refine m_ldc2 F kc_X10_224 e_X10_partFor_58 ?_
      refine m_ldiv F (by decide) e_X10_partFor_61 ?_
      refine Wm.topl (fun x5947 _ => ?_)
      refine m_aload_n F rfl e_X10_partFor_62 ?_
      refine r_getC F e_X10_partFor_63 fl_X10_59 h1 (f5942) ?_
      refine m_iload F rfl e_X10_partFor_66 ?_
      refine m_bipush F (v := 7) (by decide) e_X10_partFor_68 ?_
      refine m_iadd F e_X10_partFor_70 ?_
      refine Wm.topE (w := nI (d + 7)) (nI_add d 7) ?_
      refine r_sld F (j := d + 7) e_X10_partFor_71 h1 (nI_clamp (by omega)) (vp_in_nI (by omega) (by decide)) (fun x5948 h5949 f5950 => ?_)
      refine m_iload F rfl e_X10_partFor_72 ?_
      refine m_i2l F e_X10_partFor_74 ?_
      refine Wm.toplE (w := lN i) (nI_l (by omega)) ?_
      refine m_lmul F e_X10_partFor_75 ?_
      refine Wm.topl (fun x5951 _ => ?_)
      refine m_ldc2 F kc_X10_224 e_X10_partFor_76 ?_
      refine m_ldiv F (by decide) e_X10_partFor_79 ?_
      refine Wm.topl (fun x5952 _ => ?_)
      refine m_lsub F e_X10_partFor_80 ?_
      refine Wm.topl (fun x5953 _ => ?_)
      refine m_lload_n F rfl e_X10_partFor_81 ?_
      refine m_lcmp F e_X10_partFor_82 ?_
      refine Wm.top (fun x5954 _ => ?_)
      refine m_if_lt F e_X10_partFor_83 (fun q83 => ?_) (fun q83 => ?_)
      · refine m_iinc F (v := nI (i + 1)) (lv' := [(5, .int (nI (i + 1))), (0, .ref c), (1, .int (nI a)), (2, .long x902), (4, .int (nI d))]) e_X10_partFor_89 rfl (nI_add i 1) (by decide) rfl ?_
        refine m_goto F e_X10_partFor_92 ?_
        refine Wm.lvsub (lv' := [(0, .ref c), (1, .int (nI a)), (2, .long x902), (4, .int (nI d)), (5, .int (nI (i + 1)))]) ?_ [1, 2, 3, 4, 0] rfl
        exact ih a d (i + 1) _ h1 (by omega) (by omega)
      · obtain ⟨n5955, hn5955, rfl⟩ := nI_nn (x := x5954) (fun e => q83 (Int32.lt_of_lt_of_le e (by decide)))
        have c83 : n5955 ≥ 0 := by have hh := mt (nI_ltI (a := n5955) (b := 0) (by omega) (by omega)).mpr q83; omega
        refine m_iload F rfl e_X10_partFor_86 ?_
        exact m_iret F hQ e_X10_partFor_88 (⟨h1, _, rfl⟩)
set_option maxRecDepth 20000 in
theorem q_X10_partFor (l : Launch) (V : VX) (c T Z u h : Nat) (P : NP) (L : Nat → LQ) (N : Nat) (σ : Mem) (x901 : Int32) (x902 : Int64) (h0 : HR V c ⟨T, Z, u, h, P, L⟩ σ) (hob : OKB L) (hP : OKP P)  : Ct l V yX10_partFor cX10_partFor 6 (some .int) 2 0 0 N σ [.ref c, .int x901, .long x902] (fun r τ => HS V c (⟨T, Z, u, h, P, L⟩ : RG) [0, 2, 3, 4, 5, 6, 7, 8, 9, 10, 11, 12, 13, 14, 15, 16, 17, 18, 19, 20, 21, 22, 23] σ τ ∧ ∃ x : Int32, r = some (.int x)) := by
  refine Ct.of (by decide) (Nat.le_of_ble_eq_true rfl) [(0, .ref c), (1, .int x901), (2, .long x902)] rfl (fun X hX F hQ => ?_)
  have hPP := hP
  unfold OKP at hPP
  have h1 : HS V c ⟨T, Z, u, h, P, L⟩ [0, 2, 3, 4, 5, 6, 7, 8, 9, 10, 11, 12, 13, 14, 15, 16, 17, 18, 19, 20, 21, 22, 23] σ σ := HS.start h0
  refine m_aload_n F rfl e_X10_partFor_0 ?_
  refine m_iconst F (v := 0) (by decide) e_X10_partFor_1 ?_
  refine r_put F (g' := (⟨T, Z, u, h, P, L⟩ : RG)) e_X10_partFor_2 fp_X10_91 h1 (by decide) ⟨_, rfl⟩ (fun _ _ _ _ q => q) (fun _ _ _ q => q) rfl rfl (by decide) (fun σ5956 h5957 g5958 g5959 f5960 => ?_)
  refine m_aload_n F rfl e_X10_partFor_5 ?_
  refine m_iload_n F rfl e_X10_partFor_6 ?_
  refine r_callV F e_X10_partFor_7 (q_X10_isLease (x_l X) V c T Z u h P L _ _ x901 h5957.1 (hob) hP ) cb_X10_isLease ml_X10_292 im_X10_isLease se_X10_isLease h5957 rfl rfl (rest := []) rfl (Nat.le_of_ble_eq_true rfl) ⟨Nat.le_of_ble_eq_true rfl, Nat.le_of_ble_eq_true rfl⟩ ⟨Nat.le_of_ble_eq_true rfl, Nat.le_of_ble_eq_true rfl⟩ (fun r σ5961 hp => ?_)
  obtain ⟨h5962, c5964⟩ := hp
  have h5963 := HS.trans h5957 h5962 (by decide)
  rcases c5964 with rfl | ⟨n5965, h5966, e5967, rfl⟩
  · refine m_if_ne F e_X10_partFor_10 (fun q => absurd (by decide) q) (fun _ => ?_)
    refine m_iconst F (v := (-1)) (by decide) e_X10_partFor_13 ?_
    exact m_iret F hQ e_X10_partFor_14 (⟨h5963, _, rfl⟩)
  · subst e5967
    refine m_if_ne F e_X10_partFor_10 (fun _ => ?_) (fun q => absurd q (by decide))
    refine m_aload_n F rfl e_X10_partFor_15 ?_
    refine m_iload_n F rfl e_X10_partFor_16 ?_
    refine r_callV F e_X10_partFor_17 (q_X10_isOn (x_l X) V c T Z u h P L _ _ n5965 h5963.1 (hob) hP (by omega)) cb_X10_isOn ml_X10_267 im_X10_isOn se_X10_isOn h5963 rfl rfl (rest := []) rfl (Nat.le_of_ble_eq_true rfl) ⟨Nat.le_of_ble_eq_true rfl, Nat.le_of_ble_eq_true rfl⟩ ⟨Nat.le_of_ble_eq_true rfl, Nat.le_of_ble_eq_true rfl⟩ (fun r σ5968 hp => ?_)
    obtain ⟨h5969, c5971⟩ := hp
    have h5970 := HS.trans h5963 h5969 (by decide)
    rcases c5971 with ⟨g5972, rfl⟩ | ⟨g5972, rfl⟩
    · refine m_if_ne F e_X10_partFor_20 (fun q => absurd (by decide) q) (fun _ => ?_)
      refine m_bipush F (v := (-2)) (by decide) e_X10_partFor_23 ?_
      exact m_iret F hQ e_X10_partFor_25 (⟨h5970, _, rfl⟩)
    · refine m_if_ne F e_X10_partFor_20 (fun _ => ?_) (fun q => absurd q (by decide))
      refine m_sipush F (v := 160) (by decide) e_X10_partFor_26 ?_
      refine m_iload_n F rfl e_X10_partFor_29 ?_
      refine m_imul F e_X10_partFor_30 ?_
      refine Wm.topE (w := nI (160 * n5965)) (pk_mul 160 n5965) ?_
      refine m_istore F (lv' := [(4, .int (nI (160 * n5965))), (0, .ref c), (1, .int (nI n5965)), (2, .long x902)]) e_X10_partFor_31 (by decide) rfl ?_
      refine m_iconst F (v := 1) (by decide) e_X10_partFor_33 ?_
      refine m_istore F (lv' := [(5, .int 1), (4, .int (nI (160 * n5965))), (0, .ref c), (1, .int (nI n5965)), (2, .long x902)]) e_X10_partFor_34 (by decide) rfl ?_
      refine Wm.lvsub (lv' := [(0, .ref c), (1, .int (nI n5965)), (2, .long x902), (4, .int (nI (160 * n5965))), (5, .int 1)]) ?_ [2, 3, 4, 1, 0] rfl
      exact lq_X10_partFor_36 F hQ hob hP  (1000 - 1 + 1) n5965 (160 * n5965) 1 _ h5970 (by omega) (Nat.lt_succ_self _)
set_option maxRecDepth 20000 in
theorem q_X10_yields (l : Launch) (V : VX) (c T Z u h : Nat) (P : NP) (L : Nat → LQ) (N : Nat) (σ : Mem) (x901 : Int32) (x902 : Int32) (x903 : Int64) (h0 : HR V c ⟨T, Z, u, h, P, L⟩ σ) (hob : OKB L) (hP : OKP P)  : Ct l V yX10_yields cX10_yields 5 (some .int) 3 0 0 N σ [.ref c, .int x901, .int x902, .long x903] (fun r τ => HS V c (⟨T, Z, u, h, P, L⟩ : RG) [0, 2, 3, 4, 5, 6, 7, 8, 9, 10, 11, 12, 13, 14, 15, 16, 17, 18, 19, 20, 21, 22, 23] σ τ ∧ ∃ x : Int32, r = some (.int x)) := by
  refine Ct.of (by decide) (Nat.le_of_ble_eq_true rfl) [(0, .ref c), (1, .int x901), (2, .int x902), (3, .long x903)] rfl (fun X hX F hQ => ?_)
  have hPP := hP
  unfold OKP at hPP
  have h1 : HS V c ⟨T, Z, u, h, P, L⟩ [0, 2, 3, 4, 5, 6, 7, 8, 9, 10, 11, 12, 13, 14, 15, 16, 17, 18, 19, 20, 21, 22, 23] σ σ := HS.start h0
  refine m_aload_n F rfl e_X10_yields_0 ?_
  refine m_iconst F (v := 0) (by decide) e_X10_yields_1 ?_
  refine r_put F (g' := (⟨T, Z, u, h, P, L⟩ : RG)) e_X10_yields_2 fp_X10_91 h1 (by decide) ⟨_, rfl⟩ (fun _ _ _ _ q => q) (fun _ _ _ q => q) rfl rfl (by decide) (fun σ5973 h5974 g5975 g5976 f5977 => ?_)
  refine m_aload_n F rfl e_X10_yields_5 ?_
  refine m_iload_n F rfl e_X10_yields_6 ?_
  refine m_iload_n F rfl e_X10_yields_7 ?_
  refine r_callV F e_X10_yields_8 (q_X10_isOwn (x_l X) V c T Z u h P L _ _ x901 x902 h5974.1 (hob) hP ) cb_X10_isOwn ml_X10_295 im_X10_isOwn se_X10_isOwn h5974 rfl rfl (rest := []) rfl (Nat.le_of_ble_eq_true rfl) ⟨Nat.le_of_ble_eq_true rfl, Nat.le_of_ble_eq_true rfl⟩ ⟨Nat.le_of_ble_eq_true rfl, Nat.le_of_ble_eq_true rfl⟩ (fun r σ5978 hp => ?_)
  obtain ⟨h5979, c5981⟩ := hp
  have h5980 := HS.trans h5974 h5979 (by decide)
  rcases c5981 with rfl | ⟨n5982, n5983, h5984, h5985, h5986, e5987, e5988, rfl⟩
  · refine m_if_eq F e_X10_yields_11 (fun _ => ?_) (fun q => absurd (by decide) q)
    refine m_iconst F (v := (-1)) (by decide) e_X10_yields_38 ?_
    exact m_iret F hQ e_X10_yields_39 (⟨h5980, _, rfl⟩)
  · subst e5987
    subst e5988
    refine m_if_eq F e_X10_yields_11 (fun q => absurd q (by decide)) (fun _ => ?_)
    have hl5989 := (hob).2 n5982 (by omega)
    have hl5990 := (hob).2 n5982 (by omega)
    have hl5991 := (hob).2 n5982 (by omega)
    refine m_lload_n F rfl e_X10_yields_14 ?_
    refine m_lconst F (v := 1) (by decide) e_X10_yields_15 ?_
    refine m_lcmp F e_X10_yields_16 ?_
    refine Wm.top (fun x5992 _ => ?_)
    refine m_if_lt F e_X10_yields_17 (fun q17 => ?_) (fun q17 => ?_)
    · refine m_iconst F (v := (-1)) (by decide) e_X10_yields_38 ?_
      exact m_iret F hQ e_X10_yields_39 (⟨h5980, _, rfl⟩)
    · obtain ⟨n5993, hn5993, rfl⟩ := nI_nn (x := x5992) (fun e => q17 (Int32.lt_of_lt_of_le e (by decide)))
      have c17 : n5993 ≥ 0 := by have hh := mt (nI_ltI (a := n5993) (b := 0) (by omega) (by omega)).mpr q17; omega
      refine m_lload_n F rfl e_X10_yields_20 ?_
      refine m_ldc2 F kc_X10_349 e_X10_yields_21 ?_
      refine m_lcmp F e_X10_yields_24 ?_
      refine Wm.top (fun x5994 _ => ?_)
      refine m_if_gt F e_X10_yields_25 (fun q25 => ?_) (fun q25 => ?_)
      · obtain ⟨n5995, hn5995, rfl⟩ := nI_nn (x := x5994) (fun e => Int32.lt_irrefl (Int32.lt_trans e (Int32.lt_of_le_of_lt (by decide) q25)))
        have c25 : n5995 > 0 := (nI_ltI (a := 0) (b := n5995) (by omega) (by omega)).mp q25
        refine m_iconst F (v := (-1)) (by decide) e_X10_yields_38 ?_
        exact m_iret F hQ e_X10_yields_39 (⟨h5980, _, rfl⟩)
      · refine m_aload_n F rfl e_X10_yields_28 ?_
        refine m_iload_n F rfl e_X10_yields_29 ?_
        refine m_iload_n F rfl e_X10_yields_30 ?_
        refine m_lload_n F rfl e_X10_yields_31 ?_
        refine r_callV F e_X10_yields_32 (q_X10_rateFor (x_l X) V c T Z u h P L _ _ n5982 n5983 x903 h5980.1 (hob) hP (by omega) (by omega) (by first | omega | assumption | decide)) cb_X10_rateFor ml_X10_226 im_X10_rateFor se_X10_rateFor h5980 rfl rfl (rest := []) rfl (Nat.le_of_ble_eq_true rfl) ⟨Nat.le_of_ble_eq_true rfl, Nat.le_of_ble_eq_true rfl⟩ ⟨Nat.le_of_ble_eq_true rfl, Nat.le_of_ble_eq_true rfl⟩ (fun r σ5996 hp => ?_)
        obtain ⟨h5997, c5999⟩ := hp
        have h5998 := HS.trans h5980 h5997 (by decide)
        rcases c5999 with rfl | ⟨n6000, hn6000, rfl⟩
        · refine m_goto F e_X10_yields_35 ?_
          exact m_iret F hQ e_X10_yields_39 (⟨h5998, _, rfl⟩)
        · refine m_goto F e_X10_yields_35 ?_
          exact m_iret F hQ e_X10_yields_39 (⟨h5998, _, rfl⟩)
set_option maxRecDepth 20000 in
theorem lq_X10_level_69 {V : VX} {X : MX} {N : Nat} {σ : Mem} {c T Z u h : Nat} {P : NP} {L : Nat → LQ}  {x902 : Int64} (F : Fx V X yX10_level cX10_level 9 (some .int) (rmd 2 0 0)) (hQ : Rt V X 0 0 N (fun r τ => HS V c (⟨T, Z, u, h, P, L⟩ : RG) [0, 2, 3, 4, 5, 6, 7, 8, 9, 10, 11, 12, 13, 14, 15, 16, 17, 18, 19, 20, 21, 22, 23] σ τ ∧ ∃ x : Int32, r = some (.int x))) (hob : OKB L) (hP : OKP P)   : ∀ (fuel : Nat) (d : Nat) (e : Nat) (a : Nat) (b : Nat) (τ : Mem), HS V c (⟨T, Z, u, h, P, L⟩ : RG) [0, 2, 3, 4, 5, 6, 7, 8, 9, 10, 11, 12, 13, 14, 15, 16, 17, 18, 19, 20, 21, 22, 23] σ τ → d ≤ 3 ∧ e ≤ 1000000 ∧ a ≤ b ∧ b ≤ 9999999 → b - a < fuel → Wm V X 9 N τ 0 0 69 [(0, .ref c), (1, .int (nI d)), (2, .long x902), (4, .long (lN e)), (6, .int (nI a)), (7, .int (nI b))] [] := by
  intro fuel
  induction fuel with
  | zero => intros; rename_i hm; exact absurd hm (Nat.not_lt_zero _)
  | succ fuel ih =>
    intro d e a b τ h1 hi hm
    have hPP := hP
    unfold OKP at hPP
    refine m_iload F rfl e_X10_level_69 ?_
    refine m_iload F rfl e_X10_level_71 ?_
    refine m_icmp_ge F e_X10_level_73 (fun q73 => ?_) (fun q73 => ?_)
    · have c73 : a ≥ b := (nI_leI (a := b) (b := a) (by omega) (by omega)).mp q73
      refine m_iload F rfl e_X10_level_117 ?_
      exact m_iret F hQ e_X10_level_119 (⟨h1, _, rfl⟩)
    · have c73 : a < b := by have hh := mt (nI_leI (a := b) (b := a) (by omega) (by omega)).mpr q73; omega
      refine m_iload F rfl e_X10_level_76 ?_
      refine m_iload F rfl e_X10_level_78 ?_
      refine m_iadd F e_X10_level_80 ?_
      refine Wm.topE (w := nI (a + b)) (nI_add a b) ?_
      refine m_iconst F (v := 2) (by decide) e_X10_level_81 ?_
      refine m_idiv F (by decide) e_X10_level_82 ?_
      refine Wm.topE (w := nI ((a + b) / 2)) (pk_div (a := a + b) (d := 2) (by omega) (by decide) (by decide)) ?_
      refine m_istore F (lv' := [(8, .int (nI ((a + b) / 2))), (0, .ref c), (1, .int (nI d)), (2, .long x902), (4, .long (lN e)), (6, .int (nI a)), (7, .int (nI b))]) e_X10_level_83 (by decide) rfl ?_
      refine m_aload_n F rfl e_X10_level_85 ?_
      refine m_iload_n F rfl e_X10_level_86 ?_
      refine m_iconst F (v := 1) (by decide) e_X10_level_87 ?_
      refine m_lload F rfl e_X10_level_88 ?_
      refine m_iload F rfl e_X10_level_90 ?_
      refine m_i2l F e_X10_level_92 ?_
      refine Wm.toplE (w := lN ((a + b) / 2)) (nI_l (by omega)) ?_
      refine r_callV F e_X10_level_93 (q_X10_worthBy (x_l X) V c T Z u h P L _ _ d 1 e (lN ((a + b) / 2)) h1.1 (hob) hP (by omega) (by omega) (by omega) (by first | omega | assumption | decide)) cb_X10_worthBy ml_X10_247 im_X10_worthBy se_X10_worthBy h1 rfl rfl (rest := []) rfl (Nat.le_of_ble_eq_true rfl) ⟨Nat.le_of_ble_eq_true rfl, Nat.le_of_ble_eq_true rfl⟩ ⟨Nat.le_of_ble_eq_true rfl, Nat.le_of_ble_eq_true rfl⟩ (fun r σ6001 hp => ?_)
      obtain ⟨h6002, x6004, rfl⟩ := hp
      have h6003 := HS.trans h1 h6002 (by decide)
      refine m_lload_n F rfl e_X10_level_96 ?_
      refine m_lcmp F e_X10_level_97 ?_
      refine Wm.top (fun x6005 _ => ?_)
      refine m_if_lt F e_X10_level_98 (fun q98 => ?_) (fun q98 => ?_)
      · refine m_iload F rfl e_X10_level_108 ?_
        refine m_iconst F (v := 1) (by decide) e_X10_level_110 ?_
        refine m_iadd F e_X10_level_111 ?_
        refine Wm.topE (w := nI ((a + b) / 2 + 1)) (nI_add ((a + b) / 2) 1) ?_
        refine m_istore F (lv' := [(6, .int (nI ((a + b) / 2 + 1))), (8, .int (nI ((a + b) / 2))), (0, .ref c), (1, .int (nI d)), (2, .long x902), (4, .long (lN e)), (7, .int (nI b))]) e_X10_level_112 (by decide) rfl ?_
        refine m_goto F e_X10_level_114 ?_
        refine Wm.lvsub (lv' := [(0, .ref c), (1, .int (nI d)), (2, .long x902), (4, .long (lN e)), (6, .int (nI ((a + b) / 2 + 1))), (7, .int (nI b))]) ?_ [2, 3, 4, 5, 0, 6] rfl
        exact ih d e ((a + b) / 2 + 1) b _ h6003 (by omega) (by omega)
      · obtain ⟨n6006, hn6006, rfl⟩ := nI_nn (x := x6005) (fun e => q98 (Int32.lt_of_lt_of_le e (by decide)))
        have c98 : n6006 ≥ 0 := by have hh := mt (nI_ltI (a := n6006) (b := 0) (by omega) (by omega)).mpr q98; omega
        refine m_iload F rfl e_X10_level_101 ?_
        refine m_istore F (lv' := [(7, .int (nI ((a + b) / 2))), (8, .int (nI ((a + b) / 2))), (0, .ref c), (1, .int (nI d)), (2, .long x902), (4, .long (lN e)), (6, .int (nI a))]) e_X10_level_103 (by decide) rfl ?_
        refine m_goto F e_X10_level_105 ?_
        refine m_goto F e_X10_level_114 ?_
        refine Wm.lvsub (lv' := [(0, .ref c), (1, .int (nI d)), (2, .long x902), (4, .long (lN e)), (6, .int (nI a)), (7, .int (nI ((a + b) / 2)))]) ?_ [2, 3, 4, 5, 6, 0] rfl
        exact ih d e a ((a + b) / 2) _ h6003 (by omega) (by omega)
set_option maxRecDepth 20000 in
theorem q_X10_level (l : Launch) (V : VX) (c T Z u h : Nat) (P : NP) (L : Nat → LQ) (N : Nat) (σ : Mem) (x901 : Int32) (x902 : Int64) (h0 : HR V c ⟨T, Z, u, h, P, L⟩ σ) (hob : OKB L) (hP : OKP P)  : Ct l V yX10_level cX10_level 9 (some .int) 2 0 0 N σ [.ref c, .int x901, .long x902] (fun r τ => HS V c (⟨T, Z, u, h, P, L⟩ : RG) [0, 2, 3, 4, 5, 6, 7, 8, 9, 10, 11, 12, 13, 14, 15, 16, 17, 18, 19, 20, 21, 22, 23] σ τ ∧ ∃ x : Int32, r = some (.int x)) := by
  refine Ct.of (by decide) (Nat.le_of_ble_eq_true rfl) [(0, .ref c), (1, .int x901), (2, .long x902)] rfl (fun X hX F hQ => ?_)
  have hPP := hP
  unfold OKP at hPP
  have h1 : HS V c ⟨T, Z, u, h, P, L⟩ [0, 2, 3, 4, 5, 6, 7, 8, 9, 10, 11, 12, 13, 14, 15, 16, 17, 18, 19, 20, 21, 22, 23] σ σ := HS.start h0
  refine m_aload_n F rfl e_X10_level_0 ?_
  refine m_iconst F (v := 0) (by decide) e_X10_level_1 ?_
  refine r_put F (g' := (⟨T, Z, u, h, P, L⟩ : RG)) e_X10_level_2 fp_X10_91 h1 (by decide) ⟨_, rfl⟩ (fun _ _ _ _ q => q) (fun _ _ _ q => q) rfl rfl (by decide) (fun σ6007 h6008 g6009 g6010 f6011 => ?_)
  refine m_aload_n F rfl e_X10_level_5 ?_
  refine m_iload_n F rfl e_X10_level_6 ?_
  refine r_callV F e_X10_level_7 (q_X10_isLease (x_l X) V c T Z u h P L _ _ x901 h6008.1 (hob) hP ) cb_X10_isLease ml_X10_292 im_X10_isLease se_X10_isLease h6008 rfl rfl (rest := []) rfl (Nat.le_of_ble_eq_true rfl) ⟨Nat.le_of_ble_eq_true rfl, Nat.le_of_ble_eq_true rfl⟩ ⟨Nat.le_of_ble_eq_true rfl, Nat.le_of_ble_eq_true rfl⟩ (fun r σ6012 hp => ?_)
  obtain ⟨h6013, c6015⟩ := hp
  have h6014 := HS.trans h6008 h6013 (by decide)
  rcases c6015 with rfl | ⟨n6016, h6017, e6018, rfl⟩
  · refine m_if_eq F e_X10_level_10 (fun _ => ?_) (fun q => absurd (by decide) q)
    refine m_iconst F (v := (-1)) (by decide) e_X10_level_27 ?_
    exact m_iret F hQ e_X10_level_28 (⟨h6014, _, rfl⟩)
  · subst e6018
    refine m_if_eq F e_X10_level_10 (fun q => absurd q (by decide)) (fun _ => ?_)
    refine m_lload_n F rfl e_X10_level_13 ?_
    refine m_lconst F (v := 1) (by decide) e_X10_level_14 ?_
    refine m_lcmp F e_X10_level_15 ?_
    refine Wm.top (fun x6019 _ => ?_)
    refine m_if_lt F e_X10_level_16 (fun q16 => ?_) (fun q16 => ?_)
    · refine m_iconst F (v := (-1)) (by decide) e_X10_level_27 ?_
      exact m_iret F hQ e_X10_level_28 (⟨h6014, _, rfl⟩)
    · obtain ⟨n6020, hn6020, rfl⟩ := nI_nn (x := x6019) (fun e => q16 (Int32.lt_of_lt_of_le e (by decide)))
      have c16 : n6020 ≥ 0 := by have hh := mt (nI_ltI (a := n6020) (b := 0) (by omega) (by omega)).mpr q16; omega
      refine m_lload_n F rfl e_X10_level_19 ?_
      refine m_ldc2 F kc_X10_349 e_X10_level_20 ?_
      refine m_lcmp F e_X10_level_23 ?_
      refine Wm.top (fun x6021 _ => ?_)
      refine m_if_le F e_X10_level_24 (fun q24 => ?_) (fun q24 => ?_)
      · refine m_aload_n F rfl e_X10_level_29 ?_
        refine r_get F e_X10_level_30 fl_X10_59 h6014 rfl (fun v hv f6022 => ?_)
        obtain rfl : v = .ref (c + 16) := hv
        refine m_sipush F (v := 160) (by decide) e_X10_level_33 ?_
        refine m_iload_n F rfl e_X10_level_36 ?_
        refine m_imul F e_X10_level_37 ?_
        refine Wm.topE (w := nI (160 * n6016)) (pk_mul 160 n6016) ?_
        refine m_iconst F (v := 2) (by decide) e_X10_level_38 ?_
        refine m_iadd F e_X10_level_39 ?_
        refine Wm.topE (w := nI (160 * n6016 + 2)) (nI_add (160 * n6016) 2) ?_
        refine r_sld F (j := 160 * n6016 + 2) e_X10_level_40 h6014 (nI_clamp (by omega)) (vp_in_nI (by omega) (by decide)) (fun x6023 h6024 f6025 => ?_)
        obtain ⟨n6026, hn6026, rfl⟩ : ∃ n : Nat, n ≤ 1000000 ∧ x6023 = lN n := (EJ_l (l := n6016) (r := 2) (by omega) (by decide)).mp h6024
        refine m_lstore F (lv' := [(4, .long (lN n6026)), (0, .ref c), (1, .int (nI n6016)), (2, .long x902)]) e_X10_level_41 (by decide) rfl ?_
        refine m_aload_n F rfl e_X10_level_43 ?_
        refine m_iload_n F rfl e_X10_level_44 ?_
        refine m_iconst F (v := 1) (by decide) e_X10_level_45 ?_
        refine m_lload F rfl e_X10_level_46 ?_
        refine m_ldc2 F kc_X10_351 e_X10_level_48 ?_
        refine r_callV F e_X10_level_51 (q_X10_worthBy (x_l X) V c T Z u h P L _ _ n6016 1 n6026 9999999 h6014.1 (hob) hP (by omega) (by omega) (by omega) (by first | omega | assumption | decide)) cb_X10_worthBy ml_X10_247 im_X10_worthBy se_X10_worthBy h6014 rfl rfl (rest := []) rfl (Nat.le_of_ble_eq_true rfl) ⟨Nat.le_of_ble_eq_true rfl, Nat.le_of_ble_eq_true rfl⟩ ⟨Nat.le_of_ble_eq_true rfl, Nat.le_of_ble_eq_true rfl⟩ (fun r σ6027 hp => ?_)
        obtain ⟨h6028, x6030, rfl⟩ := hp
        have h6029 := HS.trans h6014 h6028 (by decide)
        refine m_lload_n F rfl e_X10_level_54 ?_
        refine m_lcmp F e_X10_level_55 ?_
        refine Wm.top (fun x6031 _ => ?_)
        refine m_if_ge F e_X10_level_56 (fun q56 => ?_) (fun q56 => ?_)
        · obtain ⟨n6032, hn6032, rfl⟩ := nI_nn (x := x6031) (fun e => Int32.lt_irrefl (Int32.lt_of_lt_of_le e (Int32.le_trans (by decide) q56)))
          have c56 : n6032 ≥ 0 := (nI_leI (a := 0) (b := n6032) (by omega) (by omega)).mp q56
          refine m_iconst F (v := 0) (by decide) e_X10_level_62 ?_
          refine m_istore F (lv' := [(6, .int 0), (4, .long (lN n6026)), (0, .ref c), (1, .int (nI n6016)), (2, .long x902)]) e_X10_level_63 (by decide) rfl ?_
          refine m_ldc F kc_X10_129 e_X10_level_65 ?_
          refine m_istore F (lv' := [(7, .int 9999999), (6, .int 0), (4, .long (lN n6026)), (0, .ref c), (1, .int (nI n6016)), (2, .long x902)]) e_X10_level_67 (by decide) rfl ?_
          refine Wm.lvsub (lv' := [(0, .ref c), (1, .int (nI n6016)), (2, .long x902), (4, .long (lN n6026)), (6, .int 0), (7, .int 9999999)]) ?_ [3, 4, 5, 2, 1, 0] rfl
          exact lq_X10_level_69 F hQ hob hP  (9999999 - 0 + 1) n6016 n6026 0 9999999 _ h6029 (by omega) (Nat.lt_succ_self _)
        · refine m_bipush F (v := (-2)) (by decide) e_X10_level_59 ?_
          exact m_iret F hQ e_X10_level_61 (⟨h6029, _, rfl⟩)
      · obtain ⟨n6033, hn6033, rfl⟩ := nI_nn (x := x6021) (fun e => q24 (Int32.le_trans (Int32.le_of_lt e) (by decide)))
        have c24 : n6033 > 0 := by have hh := mt (nI_leI (a := n6033) (b := 0) (by omega) (by omega)).mpr q24; omega
        refine m_iconst F (v := (-1)) (by decide) e_X10_level_27 ?_
        exact m_iret F hQ e_X10_level_28 (⟨h6014, _, rfl⟩)
set_option maxRecDepth 20000 in
theorem lq_X10_owedAll_4 {V : VX} {X : MX} {N : Nat} {σ : Mem} {c T Z u h : Nat} {P : NP} {L : Nat → LQ}   (F : Fx V X yX10_owedAll cX10_owedAll 4 (some .long) (rmd 1 0 0)) (hQ : Rt V X 0 0 N (fun r τ => HS V c (⟨T, Z, u, h, P, L⟩ : RG) [0, 1, 2, 3, 4, 5, 6, 7, 8, 9, 10, 11, 12, 13, 14, 15, 16, 17, 18, 19, 20, 21, 22, 23] σ τ ∧ ∃ x : Int64, r = some (.long x))) (hob : OKB L) (hP : OKP P)   : ∀ (fuel : Nat) (w1 : Int64) (i : Nat) (τ : Mem), HS V c (⟨T, Z, u, h, P, L⟩ : RG) [0, 1, 2, 3, 4, 5, 6, 7, 8, 9, 10, 11, 12, 13, 14, 15, 16, 17, 18, 19, 20, 21, 22, 23] σ τ → i ≤ 4 → 4 - i < fuel → Wm V X 4 N τ 0 0 4 [(0, .ref c), (1, .long w1), (3, .int (nI i))] [] := by
  intro fuel
  induction fuel with
  | zero => intros; rename_i hm; exact absurd hm (Nat.not_lt_zero _)
  | succ fuel ih =>
    intro w1 i τ h1 hi hm
    have hPP := hP
    unfold OKP at hPP
    refine m_iload_n F rfl e_X10_owedAll_4 ?_
    refine m_aload_n F rfl e_X10_owedAll_5 ?_
    refine r_callV F e_X10_owedAll_6 (q_X10_leases (x_l X) V c T Z u h P L _ _  h1.1 (hob) hP ) cb_X10_leases ml_X10_221 im_X10_leases se_X10_leases h1 rfl rfl (rest := [.int (nI i)]) rfl (Nat.le_of_ble_eq_true rfl) ⟨Nat.le_of_ble_eq_true rfl, Nat.le_of_ble_eq_true rfl⟩ ⟨Nat.le_of_ble_eq_true rfl, Nat.le_of_ble_eq_true rfl⟩ (fun r σ6034 hp => ?_)
    obtain ⟨h6035, rfl⟩ := hp
    have h6036 := HS.trans h1 h6035 (by decide)
    refine m_icmp_ge F e_X10_owedAll_9 (fun q9 => ?_) (fun q9 => ?_)
    · have c9 : i ≥ P.n0 := (nI_leI (a := P.n0) (b := i) (by omega) (by omega)).mp q9
      refine m_lload_n F rfl e_X10_owedAll_34 ?_
      exact m_lret F hQ e_X10_owedAll_35 (⟨h6036, _, rfl⟩)
    · have c9 : i < P.n0 := by have hh := mt (nI_leI (a := P.n0) (b := i) (by omega) (by omega)).mpr q9; omega
      refine m_lload_n F rfl e_X10_owedAll_12 ?_
      refine m_aload_n F rfl e_X10_owedAll_13 ?_
      refine r_get F e_X10_owedAll_14 fl_X10_59 h6036 rfl (fun v hv f6037 => ?_)
      obtain rfl : v = .ref (c + 16) := hv
      refine m_sipush F (v := 160) (by decide) e_X10_owedAll_17 ?_
      refine m_iload_n F rfl e_X10_owedAll_20 ?_
      refine m_imul F e_X10_owedAll_21 ?_
      refine Wm.topE (w := nI (160 * i)) (pk_mul 160 i) ?_
      refine m_bipush F (v := 6) (by decide) e_X10_owedAll_22 ?_
      refine m_iadd F e_X10_owedAll_24 ?_
      refine Wm.topE (w := nI (160 * i + 6)) (nI_add (160 * i) 6) ?_
      refine r_sld F (j := 160 * i + 6) e_X10_owedAll_25 h6036 (nI_clamp (by omega)) (vp_in_nI (by omega) (by decide)) (fun x6038 h6039 f6040 => ?_)
      refine m_ladd F e_X10_owedAll_26 ?_
      refine Wm.topl (fun x6041 _ => ?_)
      refine m_lstore_n F (lv' := [(1, .long x6041), (0, .ref c), (3, .int (nI i))]) e_X10_owedAll_27 (by decide) rfl ?_
      refine m_iinc F (v := nI (i + 1)) (lv' := [(3, .int (nI (i + 1))), (1, .long x6041), (0, .ref c)]) e_X10_owedAll_28 rfl (nI_add i 1) (by decide) rfl ?_
      refine m_goto F e_X10_owedAll_31 ?_
      refine Wm.lvsub (lv' := [(0, .ref c), (1, .long x6041), (3, .int (nI (i + 1)))]) ?_ [2, 1, 0] rfl
      exact ih x6041 (i + 1) _ h6036 (by omega) (by omega)
set_option maxRecDepth 20000 in
theorem q_X10_owedAll (l : Launch) (V : VX) (c T Z u h : Nat) (P : NP) (L : Nat → LQ) (N : Nat) (σ : Mem)  (h0 : HR V c ⟨T, Z, u, h, P, L⟩ σ) (hob : OKB L) (hP : OKP P)  : Ct l V yX10_owedAll cX10_owedAll 4 (some .long) 1 0 0 N σ [.ref c] (fun r τ => HS V c (⟨T, Z, u, h, P, L⟩ : RG) [0, 1, 2, 3, 4, 5, 6, 7, 8, 9, 10, 11, 12, 13, 14, 15, 16, 17, 18, 19, 20, 21, 22, 23] σ τ ∧ ∃ x : Int64, r = some (.long x)) := by
  refine Ct.of (by decide) (Nat.le_of_ble_eq_true rfl) [(0, .ref c)] rfl (fun X hX F hQ => ?_)
  have hPP := hP
  unfold OKP at hPP
  have h1 : HS V c ⟨T, Z, u, h, P, L⟩ [0, 1, 2, 3, 4, 5, 6, 7, 8, 9, 10, 11, 12, 13, 14, 15, 16, 17, 18, 19, 20, 21, 22, 23] σ σ := HS.start h0
  refine m_lconst F (v := 0) (by decide) e_X10_owedAll_0 ?_
  refine m_lstore_n F (lv' := [(1, .long 0), (0, .ref c)]) e_X10_owedAll_1 (by decide) rfl ?_
  refine m_iconst F (v := 0) (by decide) e_X10_owedAll_2 ?_
  refine m_istore_n F (lv' := [(3, .int 0), (1, .long 0), (0, .ref c)]) e_X10_owedAll_3 (by decide) rfl ?_
  refine Wm.lvsub (lv' := [(0, .ref c), (1, .long 0), (3, .int 0)]) ?_ [2, 1, 0] rfl
  exact lq_X10_owedAll_4 F hQ hob hP  (4 - 0 + 1) 0 0 _ h1 (by omega) (Nat.lt_succ_self _)
set_option maxRecDepth 20000 in
theorem lq_X10_paidAll_4 {V : VX} {X : MX} {N : Nat} {σ : Mem} {c T Z u h : Nat} {P : NP} {L : Nat → LQ}   (F : Fx V X yX10_paidAll cX10_paidAll 4 (some .long) (rmd 1 0 0)) (hQ : Rt V X 0 0 N (fun r τ => HS V c (⟨T, Z, u, h, P, L⟩ : RG) [0, 1, 2, 3, 4, 5, 6, 7, 8, 9, 10, 11, 12, 13, 14, 15, 16, 17, 18, 19, 20, 21, 22, 23] σ τ ∧ ∃ x : Int64, r = some (.long x))) (hob : OKB L) (hP : OKP P)   : ∀ (fuel : Nat) (w1 : Int64) (i : Nat) (τ : Mem), HS V c (⟨T, Z, u, h, P, L⟩ : RG) [0, 1, 2, 3, 4, 5, 6, 7, 8, 9, 10, 11, 12, 13, 14, 15, 16, 17, 18, 19, 20, 21, 22, 23] σ τ → i ≤ 4 → 4 - i < fuel → Wm V X 4 N τ 0 0 4 [(0, .ref c), (1, .long w1), (3, .int (nI i))] [] := by
  intro fuel
  induction fuel with
  | zero => intros; rename_i hm; exact absurd hm (Nat.not_lt_zero _)
  | succ fuel ih =>
    intro w1 i τ h1 hi hm
    have hPP := hP
    unfold OKP at hPP
    refine m_iload_n F rfl e_X10_paidAll_4 ?_
    refine m_aload_n F rfl e_X10_paidAll_5 ?_
    refine r_callV F e_X10_paidAll_6 (q_X10_leases (x_l X) V c T Z u h P L _ _  h1.1 (hob) hP ) cb_X10_leases ml_X10_221 im_X10_leases se_X10_leases h1 rfl rfl (rest := [.int (nI i)]) rfl (Nat.le_of_ble_eq_true rfl) ⟨Nat.le_of_ble_eq_true rfl, Nat.le_of_ble_eq_true rfl⟩ ⟨Nat.le_of_ble_eq_true rfl, Nat.le_of_ble_eq_true rfl⟩ (fun r σ6042 hp => ?_)
    obtain ⟨h6043, rfl⟩ := hp
    have h6044 := HS.trans h1 h6043 (by decide)
    refine m_icmp_ge F e_X10_paidAll_9 (fun q9 => ?_) (fun q9 => ?_)
    · have c9 : i ≥ P.n0 := (nI_leI (a := P.n0) (b := i) (by omega) (by omega)).mp q9
      refine m_lload_n F rfl e_X10_paidAll_34 ?_
      exact m_lret F hQ e_X10_paidAll_35 (⟨h6044, _, rfl⟩)
    · have c9 : i < P.n0 := by have hh := mt (nI_leI (a := P.n0) (b := i) (by omega) (by omega)).mpr q9; omega
      refine m_lload_n F rfl e_X10_paidAll_12 ?_
      refine m_aload_n F rfl e_X10_paidAll_13 ?_
      refine r_get F e_X10_paidAll_14 fl_X10_59 h6044 rfl (fun v hv f6045 => ?_)
      obtain rfl : v = .ref (c + 16) := hv
      refine m_sipush F (v := 160) (by decide) e_X10_paidAll_17 ?_
      refine m_iload_n F rfl e_X10_paidAll_20 ?_
      refine m_imul F e_X10_paidAll_21 ?_
      refine Wm.topE (w := nI (160 * i)) (pk_mul 160 i) ?_
      refine m_bipush F (v := 10) (by decide) e_X10_paidAll_22 ?_
      refine m_iadd F e_X10_paidAll_24 ?_
      refine Wm.topE (w := nI (160 * i + 10)) (nI_add (160 * i) 10) ?_
      refine r_sld F (j := 160 * i + 10) e_X10_paidAll_25 h6044 (nI_clamp (by omega)) (vp_in_nI (by omega) (by decide)) (fun x6046 h6047 f6048 => ?_)
      refine m_ladd F e_X10_paidAll_26 ?_
      refine Wm.topl (fun x6049 _ => ?_)
      refine m_lstore_n F (lv' := [(1, .long x6049), (0, .ref c), (3, .int (nI i))]) e_X10_paidAll_27 (by decide) rfl ?_
      refine m_iinc F (v := nI (i + 1)) (lv' := [(3, .int (nI (i + 1))), (1, .long x6049), (0, .ref c)]) e_X10_paidAll_28 rfl (nI_add i 1) (by decide) rfl ?_
      refine m_goto F e_X10_paidAll_31 ?_
      refine Wm.lvsub (lv' := [(0, .ref c), (1, .long x6049), (3, .int (nI (i + 1)))]) ?_ [2, 1, 0] rfl
      exact ih x6049 (i + 1) _ h6044 (by omega) (by omega)
set_option maxRecDepth 20000 in
theorem q_X10_paidAll (l : Launch) (V : VX) (c T Z u h : Nat) (P : NP) (L : Nat → LQ) (N : Nat) (σ : Mem)  (h0 : HR V c ⟨T, Z, u, h, P, L⟩ σ) (hob : OKB L) (hP : OKP P)  : Ct l V yX10_paidAll cX10_paidAll 4 (some .long) 1 0 0 N σ [.ref c] (fun r τ => HS V c (⟨T, Z, u, h, P, L⟩ : RG) [0, 1, 2, 3, 4, 5, 6, 7, 8, 9, 10, 11, 12, 13, 14, 15, 16, 17, 18, 19, 20, 21, 22, 23] σ τ ∧ ∃ x : Int64, r = some (.long x)) := by
  refine Ct.of (by decide) (Nat.le_of_ble_eq_true rfl) [(0, .ref c)] rfl (fun X hX F hQ => ?_)
  have hPP := hP
  unfold OKP at hPP
  have h1 : HS V c ⟨T, Z, u, h, P, L⟩ [0, 1, 2, 3, 4, 5, 6, 7, 8, 9, 10, 11, 12, 13, 14, 15, 16, 17, 18, 19, 20, 21, 22, 23] σ σ := HS.start h0
  refine m_lconst F (v := 0) (by decide) e_X10_paidAll_0 ?_
  refine m_lstore_n F (lv' := [(1, .long 0), (0, .ref c)]) e_X10_paidAll_1 (by decide) rfl ?_
  refine m_iconst F (v := 0) (by decide) e_X10_paidAll_2 ?_
  refine m_istore_n F (lv' := [(3, .int 0), (1, .long 0), (0, .ref c)]) e_X10_paidAll_3 (by decide) rfl ?_
  refine Wm.lvsub (lv' := [(0, .ref c), (1, .long 0), (3, .int 0)]) ?_ [2, 1, 0] rfl
  exact lq_X10_paidAll_4 F hQ hob hP  (4 - 0 + 1) 0 0 _ h1 (by omega) (Nat.lt_succ_self _)
set_option maxRecDepth 20000 in
theorem lq_X10_running_4 {V : VX} {X : MX} {N : Nat} {σ : Mem} {c T Z u h : Nat} {P : NP} {L : Nat → LQ}   (F : Fx V X yX10_running cX10_running 3 (some .int) (rmd 1 0 0)) (hQ : Rt V X 0 0 N (fun r τ => HS V c (⟨T, Z, u, h, P, L⟩ : RG) [0, 1, 2, 3, 4, 5, 6, 7, 8, 9, 10, 11, 12, 13, 14, 15, 16, 17, 18, 19, 20, 21, 22, 23] σ τ ∧ ∃ x : Int32, r = some (.int x))) (hob : OKB L) (hP : OKP P)   : ∀ (fuel : Nat) (w1 : Int32) (i : Nat) (τ : Mem), HS V c (⟨T, Z, u, h, P, L⟩ : RG) [0, 1, 2, 3, 4, 5, 6, 7, 8, 9, 10, 11, 12, 13, 14, 15, 16, 17, 18, 19, 20, 21, 22, 23] σ τ → i ≤ 4 → 4 - i < fuel → Wm V X 3 N τ 0 0 4 [(0, .ref c), (1, .int w1), (2, .int (nI i))] [] := by
  intro fuel
  induction fuel with
  | zero => intros; rename_i hm; exact absurd hm (Nat.not_lt_zero _)
  | succ fuel ih =>
    intro w1 i τ h1 hi hm
    have hPP := hP
    unfold OKP at hPP
    refine m_iload_n F rfl e_X10_running_4 ?_
    refine m_aload_n F rfl e_X10_running_5 ?_
    refine r_callV F e_X10_running_6 (q_X10_leases (x_l X) V c T Z u h P L _ _  h1.1 (hob) hP ) cb_X10_leases ml_X10_221 im_X10_leases se_X10_leases h1 rfl rfl (rest := [.int (nI i)]) rfl (Nat.le_of_ble_eq_true rfl) ⟨Nat.le_of_ble_eq_true rfl, Nat.le_of_ble_eq_true rfl⟩ ⟨Nat.le_of_ble_eq_true rfl, Nat.le_of_ble_eq_true rfl⟩ (fun r σ6050 hp => ?_)
    obtain ⟨h6051, rfl⟩ := hp
    have h6052 := HS.trans h1 h6051 (by decide)
    refine m_icmp_ge F e_X10_running_9 (fun q9 => ?_) (fun q9 => ?_)
    · have c9 : i ≥ P.n0 := (nI_leI (a := P.n0) (b := i) (by omega) (by omega)).mp q9
      refine m_iload_n F rfl e_X10_running_34 ?_
      exact m_iret F hQ e_X10_running_35 (⟨h6052, _, rfl⟩)
    · have c9 : i < P.n0 := by have hh := mt (nI_leI (a := P.n0) (b := i) (by omega) (by omega)).mpr q9; omega
      refine m_iload_n F rfl e_X10_running_12 ?_
      refine m_aload_n F rfl e_X10_running_13 ?_
      refine m_iload_n F rfl e_X10_running_14 ?_
      refine r_callV F e_X10_running_15 (q_X10_isOn (x_l X) V c T Z u h P L _ _ i h6052.1 (hob) hP (by omega)) cb_X10_isOn ml_X10_267 im_X10_isOn se_X10_isOn h6052 rfl rfl (rest := [.int w1]) rfl (Nat.le_of_ble_eq_true rfl) ⟨Nat.le_of_ble_eq_true rfl, Nat.le_of_ble_eq_true rfl⟩ ⟨Nat.le_of_ble_eq_true rfl, Nat.le_of_ble_eq_true rfl⟩ (fun r σ6053 hp => ?_)
      obtain ⟨h6054, c6056⟩ := hp
      have h6055 := HS.trans h6052 h6054 (by decide)
      rcases c6056 with ⟨g6057, rfl⟩ | ⟨g6057, rfl⟩
      · refine m_if_eq F e_X10_running_18 (fun _ => ?_) (fun q => absurd (by decide) q)
        refine m_iconst F (v := 0) (by decide) e_X10_running_25 ?_
        refine m_iadd F e_X10_running_26 ?_
        refine Wm.top (fun x6058 _ => ?_)
        refine m_istore_n F (lv' := [(1, .int x6058), (0, .ref c), (2, .int (nI i))]) e_X10_running_27 (by decide) rfl ?_
        refine m_iinc F (v := nI (i + 1)) (lv' := [(2, .int (nI (i + 1))), (1, .int x6058), (0, .ref c)]) e_X10_running_28 rfl (nI_add i 1) (by decide) rfl ?_
        refine m_goto F e_X10_running_31 ?_
        refine Wm.lvsub (lv' := [(0, .ref c), (1, .int x6058), (2, .int (nI (i + 1)))]) ?_ [2, 1, 0] rfl
        exact ih x6058 (i + 1) _ h6055 (by omega) (by omega)
      · refine m_if_eq F e_X10_running_18 (fun q => absurd q (by decide)) (fun _ => ?_)
        refine m_iconst F (v := 1) (by decide) e_X10_running_21 ?_
        refine m_goto F e_X10_running_22 ?_
        refine m_iadd F e_X10_running_26 ?_
        refine Wm.top (fun x6059 _ => ?_)
        refine m_istore_n F (lv' := [(1, .int x6059), (0, .ref c), (2, .int (nI i))]) e_X10_running_27 (by decide) rfl ?_
        refine m_iinc F (v := nI (i + 1)) (lv' := [(2, .int (nI (i + 1))), (1, .int x6059), (0, .ref c)]) e_X10_running_28 rfl (nI_add i 1) (by decide) rfl ?_
        refine m_goto F e_X10_running_31 ?_
        refine Wm.lvsub (lv' := [(0, .ref c), (1, .int x6059), (2, .int (nI (i + 1)))]) ?_ [2, 1, 0] rfl
        exact ih x6059 (i + 1) _ h6055 (by omega) (by omega)
set_option maxRecDepth 20000 in
theorem q_X10_running (l : Launch) (V : VX) (c T Z u h : Nat) (P : NP) (L : Nat → LQ) (N : Nat) (σ : Mem)  (h0 : HR V c ⟨T, Z, u, h, P, L⟩ σ) (hob : OKB L) (hP : OKP P)  : Ct l V yX10_running cX10_running 3 (some .int) 1 0 0 N σ [.ref c] (fun r τ => HS V c (⟨T, Z, u, h, P, L⟩ : RG) [0, 1, 2, 3, 4, 5, 6, 7, 8, 9, 10, 11, 12, 13, 14, 15, 16, 17, 18, 19, 20, 21, 22, 23] σ τ ∧ ∃ x : Int32, r = some (.int x)) := by
  refine Ct.of (by decide) (Nat.le_of_ble_eq_true rfl) [(0, .ref c)] rfl (fun X hX F hQ => ?_)
  have hPP := hP
  unfold OKP at hPP
  have h1 : HS V c ⟨T, Z, u, h, P, L⟩ [0, 1, 2, 3, 4, 5, 6, 7, 8, 9, 10, 11, 12, 13, 14, 15, 16, 17, 18, 19, 20, 21, 22, 23] σ σ := HS.start h0
  refine m_iconst F (v := 0) (by decide) e_X10_running_0 ?_
  refine m_istore_n F (lv' := [(1, .int 0), (0, .ref c)]) e_X10_running_1 (by decide) rfl ?_
  refine m_iconst F (v := 0) (by decide) e_X10_running_2 ?_
  refine m_istore_n F (lv' := [(2, .int 0), (1, .int 0), (0, .ref c)]) e_X10_running_3 (by decide) rfl ?_
  refine Wm.lvsub (lv' := [(0, .ref c), (1, .int 0), (2, .int 0)]) ?_ [2, 1, 0] rfl
  exact lq_X10_running_4 F hQ hob hP  (4 - 0 + 1) 0 0 _ h1 (by omega) (Nat.lt_succ_self _)
set_option maxRecDepth 20000 in
theorem q_X10_count (l : Launch) (V : VX) (c T Z u h : Nat) (P : NP) (L : Nat → LQ) (N : Nat) (σ : Mem) (x901 : Int32) (h0 : HR V c ⟨T, Z, u, h, P, L⟩ σ) (hob : OKB L) (hP : OKP P)  : Ct l V yX10_count cX10_count 2 (some .int) 2 0 0 N σ [.ref c, .int x901] (fun r τ => HS V c (⟨T, Z, u, h, P, L⟩ : RG) [0, 2, 3, 4, 5, 6, 7, 8, 9, 10, 11, 12, 13, 14, 15, 16, 17, 18, 19, 20, 21, 22, 23] σ τ ∧ ∃ x : Int32, r = some (.int x)) := by
  refine Ct.of (by decide) (Nat.le_of_ble_eq_true rfl) [(0, .ref c), (1, .int x901)] rfl (fun X hX F hQ => ?_)
  have hPP := hP
  unfold OKP at hPP
  have h1 : HS V c ⟨T, Z, u, h, P, L⟩ [0, 2, 3, 4, 5, 6, 7, 8, 9, 10, 11, 12, 13, 14, 15, 16, 17, 18, 19, 20, 21, 22, 23] σ σ := HS.start h0
  refine m_aload_n F rfl e_X10_count_0 ?_
  refine m_iconst F (v := 0) (by decide) e_X10_count_1 ?_
  refine r_put F (g' := (⟨T, Z, u, h, P, L⟩ : RG)) e_X10_count_2 fp_X10_91 h1 (by decide) ⟨_, rfl⟩ (fun _ _ _ _ q => q) (fun _ _ _ q => q) rfl rfl (by decide) (fun σ6060 h6061 g6062 g6063 f6064 => ?_)
  refine m_iload_n F rfl e_X10_count_5 ?_
  by_cases ho6 : (x901 : Int32).toInt < 0 ∨ 7 < (x901 : Int32).toInt
  · refine m_tableOut F e_X10_count_6 ho6 (tgt := 109) (by decide) ?_
    refine m_iconst F (v := (-1)) (by decide) e_X10_count_109 ?_
    exact m_iret F hQ e_X10_count_110 (⟨h6061, _, rfl⟩)
  have hs6 : (x901 : Int32).toInt = 0 ∨ (x901 : Int32).toInt = 1 ∨ (x901 : Int32).toInt = 2 ∨ (x901 : Int32).toInt = 3 ∨ (x901 : Int32).toInt = 4 ∨ (x901 : Int32).toInt = 5 ∨ (x901 : Int32).toInt = 6 ∨ (x901 : Int32).toInt = 7 := by omega
  rcases hs6 with hv | hv | hv | hv | hv | hv | hv | hv
  · refine m_tableIn F e_X10_count_6 (by omega) (by omega) (off := 46) (tgt := 52) (by rw [hv]; rfl) (by decide) ?_
    refine m_aload_n F rfl e_X10_count_52 ?_
    refine r_callV F e_X10_count_53 (q_X10_leases (x_l X) V c T Z u h P L _ _  h6061.1 (hob) hP ) cb_X10_leases ml_X10_221 im_X10_leases se_X10_leases h6061 rfl rfl (rest := []) rfl (Nat.le_of_ble_eq_true rfl) ⟨Nat.le_of_ble_eq_true rfl, Nat.le_of_ble_eq_true rfl⟩ ⟨Nat.le_of_ble_eq_true rfl, Nat.le_of_ble_eq_true rfl⟩ (fun r σ6065 hp => ?_)
    obtain ⟨h6066, rfl⟩ := hp
    have h6067 := HS.trans h6061 h6066 (by decide)
    exact m_iret F hQ e_X10_count_56 (⟨h6067, _, rfl⟩)
  · refine m_tableIn F e_X10_count_6 (by omega) (by omega) (off := 51) (tgt := 57) (by rw [hv]; rfl) (by decide) ?_
    refine m_aload_n F rfl e_X10_count_57 ?_
    refine r_get F e_X10_count_58 fl_X10_13 h6061 rfl (fun v hv f6068 => ?_)
    obtain rfl : v = .ref (c + 2) := hv
    refine m_iconst F (v := 3) (by decide) e_X10_count_61 ?_
    refine r_iald F (len := 10) (j := 3) e_X10_count_62 h6061 (fun _ h => h) (by decide) (by decide) (by unfold vp_in; decide) (fun x6069 h6070 f6071 => ?_)
    obtain ⟨n6072, hn6072, rfl⟩ := h6070.2.2.2.2.1 rfl
    exact m_iret F hQ e_X10_count_63 (⟨h6061, _, rfl⟩)
  · refine m_tableIn F e_X10_count_6 (by omega) (by omega) (off := 58) (tgt := 64) (by rw [hv]; rfl) (by decide) ?_
    refine m_aload_n F rfl e_X10_count_64 ?_
    refine r_get F e_X10_count_65 fl_X10_59 h6061 rfl (fun v hv f6073 => ?_)
    obtain rfl : v = .ref (c + 16) := hv
    refine m_sipush F (v := 744) (by decide) e_X10_count_68 ?_
    refine r_sld F (j := 744) e_X10_count_71 h6061 (by decide) (by unfold vp_in; decide) (fun x6074 h6075 f6076 => ?_)
    have hl6077 := hob.1
    obtain rfl : x6074 = lN (L 4).1 := EJ_p.mp h6075
    refine m_l2i F e_X10_count_72 ?_
    refine Wm.topE (w := nI ((L 4).1)) (lN_i ((L 4).1)) ?_
    exact m_iret F hQ e_X10_count_73 (⟨h6061, _, rfl⟩)
  · refine m_tableIn F e_X10_count_6 (by omega) (by omega) (off := 68) (tgt := 74) (by rw [hv]; rfl) (by decide) ?_
    refine m_aload_n F rfl e_X10_count_74 ?_
    refine r_get F e_X10_count_75 fl_X10_59 h6061 rfl (fun v hv f6078 => ?_)
    obtain rfl : v = .ref (c + 16) := hv
    refine m_sipush F (v := 751) (by decide) e_X10_count_78 ?_
    refine r_sld F (j := 751) e_X10_count_81 h6061 (by decide) (by unfold vp_in; decide) (fun x6079 h6080 f6081 => ?_)
    obtain ⟨n6082, hn6082, rfl⟩ := EJ_m.mp h6080
    refine m_l2i F e_X10_count_82 ?_
    refine Wm.topE (w := nI n6082) (lN_i n6082) ?_
    exact m_iret F hQ e_X10_count_83 (⟨h6061, _, rfl⟩)
  · refine m_tableIn F e_X10_count_6 (by omega) (by omega) (off := 78) (tgt := 84) (by rw [hv]; rfl) (by decide) ?_
    refine m_aload_n F rfl e_X10_count_84 ?_
    refine r_get F e_X10_count_85 fl_X10_59 h6061 rfl (fun v hv f6083 => ?_)
    obtain rfl : v = .ref (c + 16) := hv
    refine m_sipush F (v := 752) (by decide) e_X10_count_88 ?_
    refine r_sld F (j := 752) e_X10_count_91 h6061 (by decide) (by unfold vp_in; decide) (fun x6084 h6085 f6086 => ?_)
    refine m_l2i F e_X10_count_92 ?_
    refine Wm.top (fun x6087 _ => ?_)
    exact m_iret F hQ e_X10_count_93 (⟨h6061, _, rfl⟩)
  · refine m_tableIn F e_X10_count_6 (by omega) (by omega) (off := 88) (tgt := 94) (by rw [hv]; rfl) (by decide) ?_
    refine m_aload_n F rfl e_X10_count_94 ?_
    refine r_callV F e_X10_count_95 (q_X10_running (x_l X) V c T Z u h P L _ _  h6061.1 (hob) hP ) cb_X10_running ml_X10_373 im_X10_running se_X10_running h6061 rfl rfl (rest := []) rfl (Nat.le_of_ble_eq_true rfl) ⟨Nat.le_of_ble_eq_true rfl, Nat.le_of_ble_eq_true rfl⟩ ⟨Nat.le_of_ble_eq_true rfl, Nat.le_of_ble_eq_true rfl⟩ (fun r σ6088 hp => ?_)
    obtain ⟨h6089, x6091, rfl⟩ := hp
    have h6090 := HS.trans h6061 h6089 (by decide)
    exact m_iret F hQ e_X10_count_98 (⟨h6090, _, rfl⟩)
  · refine m_tableIn F e_X10_count_6 (by omega) (by omega) (off := 93) (tgt := 99) (by rw [hv]; rfl) (by decide) ?_
    refine m_aload_n F rfl e_X10_count_99 ?_
    refine r_get F e_X10_count_100 fl_X10_214 h6061 rfl (fun v hv f6092 => ?_)
    obtain rfl : v = .int (nI (u)) := hv
    exact m_iret F hQ e_X10_count_103 (⟨h6061, _, rfl⟩)
  · refine m_tableIn F e_X10_count_6 (by omega) (by omega) (off := 98) (tgt := 104) (by rw [hv]; rfl) (by decide) ?_
    refine m_aload_n F rfl e_X10_count_104 ?_
    refine r_get F e_X10_count_105 fl_X10_94 h6061 rfl (fun v hv f6093 => ?_)
    obtain rfl : v = .int (nI (T)) := hv
    exact m_iret F hQ e_X10_count_108 (⟨h6061, _, rfl⟩)
set_option maxRecDepth 20000 in
theorem q_X10_fault (l : Launch) (V : VX) (c T Z u h : Nat) (P : NP) (L : Nat → LQ) (N : Nat) (σ : Mem) (x901 : Int32) (h0 : HR V c ⟨T, Z, u, h, P, L⟩ σ) (hob : OKB L) (hP : OKP P)  : Ct l V yX10_fault cX10_fault 2 (some .int) 0 0 0 N σ [.ref c, .int x901] (fun r τ => HS V c (⟨T, Z, u, h, P, L⟩ : RG) [0, 2, 3, 4, 5, 6, 7, 8, 9, 10, 11, 12, 13, 14, 15, 16, 17, 18, 19, 20, 21, 22, 23] σ τ ∧ ∃ x : Int32, r = some (.int x)) := by
  refine Ct.of (by decide) (Nat.le_of_ble_eq_true rfl) [(0, .ref c), (1, .int x901)] rfl (fun X hX F hQ => ?_)
  have hPP := hP
  unfold OKP at hPP
  have h1 : HS V c ⟨T, Z, u, h, P, L⟩ [0, 2, 3, 4, 5, 6, 7, 8, 9, 10, 11, 12, 13, 14, 15, 16, 17, 18, 19, 20, 21, 22, 23] σ σ := HS.start h0
  refine m_aload_n F rfl e_X10_fault_0 ?_
  refine m_iconst F (v := 0) (by decide) e_X10_fault_1 ?_
  refine r_put F (g' := (⟨T, Z, u, h, P, L⟩ : RG)) e_X10_fault_2 fp_X10_91 h1 (by decide) ⟨_, rfl⟩ (fun _ _ _ _ q => q) (fun _ _ _ q => q) rfl rfl (by decide) (fun σ6094 h6095 g6096 g6097 f6098 => ?_)
  refine m_iload_n F rfl e_X10_fault_5 ?_
  refine m_if_ne F e_X10_fault_6 (fun q6 => ?_) (fun q6 => ?_)
  · refine m_iload_n F rfl e_X10_fault_16 ?_
    refine m_iconst F (v := 1) (by decide) e_X10_fault_17 ?_
    refine m_icmp_ne F e_X10_fault_18 (fun q18 => ?_) (fun q18 => ?_)
    · refine m_iconst F (v := (-1)) (by decide) e_X10_fault_28 ?_
      exact m_iret F hQ e_X10_fault_29 (⟨h6095, _, rfl⟩)
    · subst q18
      refine m_aload_n F rfl e_X10_fault_21 ?_
      refine r_get F e_X10_fault_22 fl_X10_55 h6095 rfl (fun v hv f6099 => ?_)
      obtain ⟨x6100, rfl⟩ := hv
      refine m_goto F e_X10_fault_25 ?_
      exact m_iret F hQ e_X10_fault_29 (⟨h6095, _, rfl⟩)
  · subst q6
    refine m_aload_n F rfl e_X10_fault_9 ?_
    refine r_get F e_X10_fault_10 fl_X10_211 h6095 rfl (fun v hv f6101 => ?_)
    obtain ⟨x6102, rfl⟩ := hv
    refine m_goto F e_X10_fault_13 ?_
    exact m_iret F hQ e_X10_fault_29 (⟨h6095, _, rfl⟩)
set_option maxRecDepth 20000 in
theorem lq_X10_namedAt_3 {V : VX} {X : MX} {N : Nat} {σ : Mem} {c T Z u h : Nat} {P : NP} {L : Nat → LQ}  {n901 : Nat} {n902 : Nat} {x903 : Int32} (F : Fx V X yX10_namedAt cX10_namedAt 5 (some .int) (rmd 0 0 0)) (hQ : Rt V X 0 0 N (fun r τ => HS V c (⟨T, Z, u, h, P, L⟩ : RG) [0, 1, 2, 3, 4, 5, 6, 7, 8, 9, 10, 11, 12, 13, 14, 15, 16, 17, 18, 19, 20, 21, 22, 23] σ τ ∧ (r = some (.int (-1)) ∨ ∃ n : Nat, n < n902 ∧ r = some (.int (nI n))))) (hob : OKB L) (hP : OKP P) (hn901 : n901 ≤ 4) (hn902 : n902 ≤ 4)  : ∀ (fuel : Nat) (i : Nat) (τ : Mem), HS V c (⟨T, Z, u, h, P, L⟩ : RG) [0, 1, 2, 3, 4, 5, 6, 7, 8, 9, 10, 11, 12, 13, 14, 15, 16, 17, 18, 19, 20, 21, 22, 23] σ τ → i ≤ n902 → n902 - i < fuel → Wm V X 5 N τ 0 0 3 [(0, .ref c), (1, .int (nI n901)), (2, .int (nI n902)), (3, .int x903), (4, .int (nI i))] [] := by
  intro fuel
  induction fuel with
  | zero => intros; rename_i hm; exact absurd hm (Nat.not_lt_zero _)
  | succ fuel ih =>
    intro i τ h1 hi hm
    have hPP := hP
    unfold OKP at hPP
    refine m_iload F rfl e_X10_namedAt_3 ?_
    refine m_iload_n F rfl e_X10_namedAt_5 ?_
    refine m_icmp_ge F e_X10_namedAt_6 (fun q6 => ?_) (fun q6 => ?_)
    · have c6 : i ≥ n902 := (nI_leI (a := n902) (b := i) (by omega) (by omega)).mp q6
      refine m_iconst F (v := (-1)) (by decide) e_X10_namedAt_31 ?_
      exact m_iret F hQ e_X10_namedAt_32 (⟨h1, Or.inl rfl⟩)
    · have c6 : i < n902 := by have hh := mt (nI_leI (a := n902) (b := i) (by omega) (by omega)).mpr q6; omega
      refine m_aload_n F rfl e_X10_namedAt_9 ?_
      refine r_get F e_X10_namedAt_10 fl_X10_16 h1 rfl (fun v hv f6103 => ?_)
      obtain rfl : v = .ref (c + 3) := hv
      refine m_iload_n F rfl e_X10_namedAt_13 ?_
      refine m_iload F rfl e_X10_namedAt_14 ?_
      refine m_iadd F e_X10_namedAt_16 ?_
      refine Wm.topE (w := nI (n901 + i)) (nI_add n901 i) ?_
      refine r_iald F (len := 8) (j := n901 + i) e_X10_namedAt_17 h1 (fun _ h => h) (by decide) (nI_clamp (by omega)) (vp_in_nI (by omega) (by decide)) (fun x6104 h6105 f6106 => ?_)
      refine m_iload_n F rfl e_X10_namedAt_18 ?_
      refine m_icmp_ne F e_X10_namedAt_19 (fun q19 => ?_) (fun q19 => ?_)
      · refine m_iinc F (v := nI (i + 1)) (lv' := [(4, .int (nI (i + 1))), (0, .ref c), (1, .int (nI n901)), (2, .int (nI n902)), (3, .int x903)]) e_X10_namedAt_25 rfl (nI_add i 1) (by decide) rfl ?_
        refine m_goto F e_X10_namedAt_28 ?_
        refine Wm.lvsub (lv' := [(0, .ref c), (1, .int (nI n901)), (2, .int (nI n902)), (3, .int x903), (4, .int (nI (i + 1)))]) ?_ [1, 2, 3, 4, 0] rfl
        exact ih (i + 1) _ h1 (by omega) (by omega)
      · refine m_iload F rfl e_X10_namedAt_22 ?_
        exact m_iret F hQ e_X10_namedAt_24 (⟨h1, Or.inr ⟨i, by omega, rfl⟩⟩)
set_option maxRecDepth 20000 in
theorem q_X10_namedAt (l : Launch) (V : VX) (c T Z u h : Nat) (P : NP) (L : Nat → LQ) (N : Nat) (σ : Mem) (n901 : Nat) (n902 : Nat) (x903 : Int32) (h0 : HR V c ⟨T, Z, u, h, P, L⟩ σ) (hob : OKB L) (hP : OKP P) (hn901 : n901 ≤ 4) (hn902 : n902 ≤ 4) : Ct l V yX10_namedAt cX10_namedAt 5 (some .int) 0 0 0 N σ [.ref c, .int (nI n901), .int (nI n902), .int x903] (fun r τ => HS V c (⟨T, Z, u, h, P, L⟩ : RG) [0, 1, 2, 3, 4, 5, 6, 7, 8, 9, 10, 11, 12, 13, 14, 15, 16, 17, 18, 19, 20, 21, 22, 23] σ τ ∧ (r = some (.int (-1)) ∨ ∃ n : Nat, n < n902 ∧ r = some (.int (nI n)))) := by
  refine Ct.of (by decide) (Nat.le_of_ble_eq_true rfl) [(0, .ref c), (1, .int (nI n901)), (2, .int (nI n902)), (3, .int x903)] rfl (fun X hX F hQ => ?_)
  have hPP := hP
  unfold OKP at hPP
  have h1 : HS V c ⟨T, Z, u, h, P, L⟩ [0, 1, 2, 3, 4, 5, 6, 7, 8, 9, 10, 11, 12, 13, 14, 15, 16, 17, 18, 19, 20, 21, 22, 23] σ σ := HS.start h0
  refine m_iconst F (v := 0) (by decide) e_X10_namedAt_0 ?_
  refine m_istore F (lv' := [(4, .int 0), (0, .ref c), (1, .int (nI n901)), (2, .int (nI n902)), (3, .int x903)]) e_X10_namedAt_1 (by decide) rfl ?_
  refine Wm.lvsub (lv' := [(0, .ref c), (1, .int (nI n901)), (2, .int (nI n902)), (3, .int x903), (4, .int 0)]) ?_ [1, 2, 3, 4, 0] rfl
  exact lq_X10_namedAt_3 F hQ hob hP hn901 hn902 (n902 - 0 + 1) 0 _ h1 (by omega) (Nat.lt_succ_self _)
set_option maxRecDepth 20000 in
theorem q_X10_named (l : Launch) (V : VX) (c T Z u h : Nat) (P : NP) (L : Nat → LQ) (N : Nat) (σ : Mem) (x901 : Int32) (h0 : HR V c ⟨T, Z, u, h, P, L⟩ σ) (hob : OKB L) (hP : OKP P)  : Ct l V yX10_named cX10_named 2 (some .int) 1 0 0 N σ [.ref c, .int x901] (fun r τ => HS V c (⟨T, Z, u, h, P, L⟩ : RG) [0, 2, 3, 4, 5, 6, 7, 8, 9, 10, 11, 12, 13, 14, 15, 16, 17, 18, 19, 20, 21, 22, 23] σ τ ∧ ∃ x : Int32, r = some (.int x)) := by
  refine Ct.of (by decide) (Nat.le_of_ble_eq_true rfl) [(0, .ref c), (1, .int x901)] rfl (fun X hX F hQ => ?_)
  have hPP := hP
  unfold OKP at hPP
  have h1 : HS V c ⟨T, Z, u, h, P, L⟩ [0, 2, 3, 4, 5, 6, 7, 8, 9, 10, 11, 12, 13, 14, 15, 16, 17, 18, 19, 20, 21, 22, 23] σ σ := HS.start h0
  refine m_aload_n F rfl e_X10_named_0 ?_
  refine m_iconst F (v := 0) (by decide) e_X10_named_1 ?_
  refine r_put F (g' := (⟨T, Z, u, h, P, L⟩ : RG)) e_X10_named_2 fp_X10_91 h1 (by decide) ⟨_, rfl⟩ (fun _ _ _ _ q => q) (fun _ _ _ q => q) rfl rfl (by decide) (fun σ6107 h6108 g6109 g6110 f6111 => ?_)
  refine m_aload_n F rfl e_X10_named_5 ?_
  refine m_iconst F (v := 0) (by decide) e_X10_named_6 ?_
  refine m_aload_n F rfl e_X10_named_7 ?_
  refine r_callV F e_X10_named_8 (q_X10_leases (x_l X) V c T Z u h P L _ _  h6108.1 (hob) hP ) cb_X10_leases ml_X10_221 im_X10_leases se_X10_leases h6108 rfl rfl (rest := [.int 0, .ref c]) rfl (Nat.le_of_ble_eq_true rfl) ⟨Nat.le_of_ble_eq_true rfl, Nat.le_of_ble_eq_true rfl⟩ ⟨Nat.le_of_ble_eq_true rfl, Nat.le_of_ble_eq_true rfl⟩ (fun r σ6112 hp => ?_)
  obtain ⟨h6113, rfl⟩ := hp
  have h6114 := HS.trans h6108 h6113 (by decide)
  refine m_iload_n F rfl e_X10_named_11 ?_
  refine r_callV F e_X10_named_12 (q_X10_namedAt (x_l X) V c T Z u h P L _ _ 0 P.n0 x901 h6114.1 (hob) hP (by omega) (by omega)) cb_X10_namedAt ml_X10_161 im_X10_namedAt se_X10_namedAt h6114 rfl rfl (rest := []) rfl (Nat.le_of_ble_eq_true rfl) ⟨Nat.le_of_ble_eq_true rfl, Nat.le_of_ble_eq_true rfl⟩ ⟨Nat.le_of_ble_eq_true rfl, Nat.le_of_ble_eq_true rfl⟩ (fun r σ6115 hp => ?_)
  obtain ⟨h6116, c6118⟩ := hp
  have h6117 := HS.trans h6114 h6116 (by decide)
  rcases c6118 with rfl | ⟨n6119, hn6119, rfl⟩
  · exact m_iret F hQ e_X10_named_15 (⟨h6117, _, rfl⟩)
  · exact m_iret F hQ e_X10_named_15 (⟨h6117, _, rfl⟩)
set_option maxRecDepth 20000 in
theorem lq_X10_heaviest_10 {V : VX} {X : MX} {N : Nat} {σ : Mem} {c T Z u h : Nat} {P : NP} {L : Nat → LQ}   (F : Fx V X yX10_heaviest cX10_heaviest 3 (some .int) (rmd 1 0 0)) (hQ : Rt V X 0 0 N (fun r τ => HS V c (⟨T, Z, u, h, P, L⟩ : RG) [0, 2, 3, 4, 5, 6, 7, 8, 9, 10, 11, 12, 13, 14, 15, 16, 17, 18, 19, 20, 21, 22, 23] σ τ ∧ ∃ x : Int32, r = some (.int x))) (hob : OKB L) (hP : OKP P)   : ∀ (fuel : Nat) (b1 : Int32) (i : Nat) (τ : Mem), HS V c (⟨T, Z, u, h, P, L⟩ : RG) [0, 2, 3, 4, 5, 6, 7, 8, 9, 10, 11, 12, 13, 14, 15, 16, 17, 18, 19, 20, 21, 22, 23] σ τ → i ≤ 4 ∧ (b1 = -2 ∨ ∃ n : Nat, n < P.n0 ∧ b1 = nI n) → 4 - i < fuel → Wm V X 3 N τ 0 0 10 [(0, .ref c), (1, .int b1), (2, .int (nI i))] [] := by
  intro fuel
  induction fuel with
  | zero => intros; rename_i hm; exact absurd hm (Nat.not_lt_zero _)
  | succ fuel ih =>
    intro b1 i τ h1 hi hm
    have hPP := hP
    unfold OKP at hPP
    refine m_iload_n F rfl e_X10_heaviest_10 ?_
    refine m_aload_n F rfl e_X10_heaviest_11 ?_
    refine r_callV F e_X10_heaviest_12 (q_X10_leases (x_l X) V c T Z u h P L _ _  h1.1 (hob) hP ) cb_X10_leases ml_X10_221 im_X10_leases se_X10_leases h1 rfl rfl (rest := [.int (nI i)]) rfl (Nat.le_of_ble_eq_true rfl) ⟨Nat.le_of_ble_eq_true rfl, Nat.le_of_ble_eq_true rfl⟩ ⟨Nat.le_of_ble_eq_true rfl, Nat.le_of_ble_eq_true rfl⟩ (fun r σ6120 hp => ?_)
    obtain ⟨h6121, rfl⟩ := hp
    have h6122 := HS.trans h1 h6121 (by decide)
    refine m_icmp_ge F e_X10_heaviest_15 (fun q15 => ?_) (fun q15 => ?_)
    · have c15 : i ≥ P.n0 := (nI_leI (a := P.n0) (b := i) (by omega) (by omega)).mp q15
      refine m_iload_n F rfl e_X10_heaviest_87 ?_
      exact m_iret F hQ e_X10_heaviest_88 (⟨h6122, _, rfl⟩)
    · have c15 : i < P.n0 := by have hh := mt (nI_leI (a := P.n0) (b := i) (by omega) (by omega)).mpr q15; omega
      refine m_aload_n F rfl e_X10_heaviest_18 ?_
      refine m_iload_n F rfl e_X10_heaviest_19 ?_
      refine r_callV F e_X10_heaviest_20 (q_X10_isOn (x_l X) V c T Z u h P L _ _ i h6122.1 (hob) hP (by omega)) cb_X10_isOn ml_X10_267 im_X10_isOn se_X10_isOn h6122 rfl rfl (rest := []) rfl (Nat.le_of_ble_eq_true rfl) ⟨Nat.le_of_ble_eq_true rfl, Nat.le_of_ble_eq_true rfl⟩ ⟨Nat.le_of_ble_eq_true rfl, Nat.le_of_ble_eq_true rfl⟩ (fun r σ6123 hp => ?_)
      obtain ⟨h6124, c6126⟩ := hp
      have h6125 := HS.trans h6122 h6124 (by decide)
      rcases c6126 with ⟨g6127, rfl⟩ | ⟨g6127, rfl⟩
      · refine m_if_ne F e_X10_heaviest_23 (fun q => absurd (by decide) q) (fun _ => ?_)
        refine m_goto F e_X10_heaviest_26 ?_
        refine m_iinc F (v := nI (i + 1)) (lv' := [(2, .int (nI (i + 1))), (0, .ref c), (1, .int b1)]) e_X10_heaviest_81 rfl (nI_add i 1) (by decide) rfl ?_
        refine m_goto F e_X10_heaviest_84 ?_
        refine Wm.lvsub (lv' := [(0, .ref c), (1, .int b1), (2, .int (nI (i + 1)))]) ?_ [1, 2, 0] rfl
        exact ih b1 (i + 1) _ h6125 ⟨by omega, by first | exact Or.inl rfl | exact Or.inr ⟨_, by omega, rfl⟩ | exact hi.2⟩ (by omega)
      · refine m_if_ne F e_X10_heaviest_23 (fun _ => ?_) (fun q => absurd q (by decide))
        refine m_iload_n F rfl e_X10_heaviest_29 ?_
        refine m_bipush F (v := (-2)) (by decide) e_X10_heaviest_30 ?_
        refine m_icmp_eq F e_X10_heaviest_32 (fun q32 => ?_) (fun q32 => ?_)
        · subst q32
          refine m_iload_n F rfl e_X10_heaviest_79 ?_
          refine m_istore_n F (lv' := [(1, .int (nI i)), (0, .ref c), (2, .int (nI i))]) e_X10_heaviest_80 (by decide) rfl ?_
          refine m_iinc F (v := nI (i + 1)) (lv' := [(2, .int (nI (i + 1))), (1, .int (nI i)), (0, .ref c)]) e_X10_heaviest_81 rfl (nI_add i 1) (by decide) rfl ?_
          refine m_goto F e_X10_heaviest_84 ?_
          refine Wm.lvsub (lv' := [(0, .ref c), (1, .int (nI i)), (2, .int (nI (i + 1)))]) ?_ [2, 1, 0] rfl
          exact ih (nI i) (i + 1) _ h6125 ⟨by omega, by first | exact Or.inl rfl | exact Or.inr ⟨_, by omega, rfl⟩ | exact hi.2⟩ (by omega)
        · rcases hi.2 with e9 | ⟨n6128, hn6128, rfl⟩
          · exact absurd e9 q32
          refine m_aload_n F rfl e_X10_heaviest_35 ?_
          refine r_get F e_X10_heaviest_36 fl_X10_59 h6125 rfl (fun v hv f6129 => ?_)
          obtain rfl : v = .ref (c + 16) := hv
          refine m_sipush F (v := 160) (by decide) e_X10_heaviest_39 ?_
          refine m_iload_n F rfl e_X10_heaviest_42 ?_
          refine m_imul F e_X10_heaviest_43 ?_
          refine Wm.topE (w := nI (160 * i)) (pk_mul 160 i) ?_
          refine m_bipush F (v := 6) (by decide) e_X10_heaviest_44 ?_
          refine m_iadd F e_X10_heaviest_46 ?_
          refine Wm.topE (w := nI (160 * i + 6)) (nI_add (160 * i) 6) ?_
          refine r_sld F (j := 160 * i + 6) e_X10_heaviest_47 h6125 (nI_clamp (by omega)) (vp_in_nI (by omega) (by decide)) (fun x6130 h6131 f6132 => ?_)
          refine m_aload_n F rfl e_X10_heaviest_48 ?_
          refine m_iload_n F rfl e_X10_heaviest_49 ?_
          refine r_callV F e_X10_heaviest_50 (q_X10_left (x_l X) V c T Z u h P L _ _ n6128 h6125.1 (hob) hP (by omega)) cb_X10_left ml_X10_257 im_X10_left se_X10_left h6125 rfl rfl (rest := [.long x6130]) rfl (Nat.le_of_ble_eq_true rfl) ⟨Nat.le_of_ble_eq_true rfl, Nat.le_of_ble_eq_true rfl⟩ ⟨Nat.le_of_ble_eq_true rfl, Nat.le_of_ble_eq_true rfl⟩ (fun r σ6133 hp => ?_)
          obtain ⟨h6134, x6136, rfl⟩ := hp
          have h6135 := HS.trans h6125 h6134 (by decide)
          refine m_i2l F e_X10_heaviest_53 ?_
          refine Wm.topl (fun x6137 _ => ?_)
          refine m_lmul F e_X10_heaviest_54 ?_
          refine Wm.topl (fun x6138 _ => ?_)
          refine m_aload_n F rfl e_X10_heaviest_55 ?_
          refine r_getC F e_X10_heaviest_56 fl_X10_59 h6135 ((fld_eq (h6134.2 c (by rw [show kC c c = 1 from kC_at (k := 0) (by decide)]; decide))).trans f6129) ?_
          refine m_sipush F (v := 160) (by decide) e_X10_heaviest_59 ?_
          refine m_iload_n F rfl e_X10_heaviest_62 ?_
          refine m_imul F e_X10_heaviest_63 ?_
          refine Wm.topE (w := nI (160 * n6128)) (pk_mul 160 n6128) ?_
          refine m_bipush F (v := 6) (by decide) e_X10_heaviest_64 ?_
          refine m_iadd F e_X10_heaviest_66 ?_
          refine Wm.topE (w := nI (160 * n6128 + 6)) (nI_add (160 * n6128) 6) ?_
          refine r_sld F (j := 160 * n6128 + 6) e_X10_heaviest_67 h6135 (nI_clamp (by omega)) (vp_in_nI (by omega) (by decide)) (fun x6139 h6140 f6141 => ?_)
          refine m_aload_n F rfl e_X10_heaviest_68 ?_
          refine m_iload_n F rfl e_X10_heaviest_69 ?_
          refine r_callV F e_X10_heaviest_70 (q_X10_left (x_l X) V c T Z u h P L _ _ i h6135.1 (hob) hP (by omega)) cb_X10_left ml_X10_257 im_X10_left se_X10_left h6135 rfl rfl (rest := [.long x6139, .long x6138]) rfl (Nat.le_of_ble_eq_true rfl) ⟨Nat.le_of_ble_eq_true rfl, Nat.le_of_ble_eq_true rfl⟩ ⟨Nat.le_of_ble_eq_true rfl, Nat.le_of_ble_eq_true rfl⟩ (fun r σ6142 hp => ?_)
          obtain ⟨h6143, x6145, rfl⟩ := hp
          have h6144 := HS.trans h6135 h6143 (by decide)
          refine m_i2l F e_X10_heaviest_73 ?_
          refine Wm.topl (fun x6146 _ => ?_)
          refine m_lmul F e_X10_heaviest_74 ?_
          refine Wm.topl (fun x6147 _ => ?_)
          refine m_lcmp F e_X10_heaviest_75 ?_
          refine Wm.top (fun x6148 _ => ?_)
          refine m_if_le F e_X10_heaviest_76 (fun q76 => ?_) (fun q76 => ?_)
          · refine m_iinc F (v := nI (i + 1)) (lv' := [(2, .int (nI (i + 1))), (0, .ref c), (1, .int (nI n6128))]) e_X10_heaviest_81 rfl (nI_add i 1) (by decide) rfl ?_
            refine m_goto F e_X10_heaviest_84 ?_
            refine Wm.lvsub (lv' := [(0, .ref c), (1, .int (nI n6128)), (2, .int (nI (i + 1)))]) ?_ [1, 2, 0] rfl
            exact ih (nI n6128) (i + 1) _ h6144 ⟨by omega, by first | exact Or.inl rfl | exact Or.inr ⟨_, by omega, rfl⟩ | exact hi.2⟩ (by omega)
          · obtain ⟨n6149, hn6149, rfl⟩ := nI_nn (x := x6148) (fun e => q76 (Int32.le_trans (Int32.le_of_lt e) (by decide)))
            have c76 : n6149 > 0 := by have hh := mt (nI_leI (a := n6149) (b := 0) (by omega) (by omega)).mpr q76; omega
            refine m_iload_n F rfl e_X10_heaviest_79 ?_
            refine m_istore_n F (lv' := [(1, .int (nI i)), (0, .ref c), (2, .int (nI i))]) e_X10_heaviest_80 (by decide) rfl ?_
            refine m_iinc F (v := nI (i + 1)) (lv' := [(2, .int (nI (i + 1))), (1, .int (nI i)), (0, .ref c)]) e_X10_heaviest_81 rfl (nI_add i 1) (by decide) rfl ?_
            refine m_goto F e_X10_heaviest_84 ?_
            refine Wm.lvsub (lv' := [(0, .ref c), (1, .int (nI i)), (2, .int (nI (i + 1)))]) ?_ [2, 1, 0] rfl
            exact ih (nI i) (i + 1) _ h6144 ⟨by omega, by first | exact Or.inl rfl | exact Or.inr ⟨_, by omega, rfl⟩ | exact hi.2⟩ (by omega)
set_option maxRecDepth 20000 in
theorem q_X10_heaviest (l : Launch) (V : VX) (c T Z u h : Nat) (P : NP) (L : Nat → LQ) (N : Nat) (σ : Mem)  (h0 : HR V c ⟨T, Z, u, h, P, L⟩ σ) (hob : OKB L) (hP : OKP P)  : Ct l V yX10_heaviest cX10_heaviest 3 (some .int) 1 0 0 N σ [.ref c] (fun r τ => HS V c (⟨T, Z, u, h, P, L⟩ : RG) [0, 2, 3, 4, 5, 6, 7, 8, 9, 10, 11, 12, 13, 14, 15, 16, 17, 18, 19, 20, 21, 22, 23] σ τ ∧ ∃ x : Int32, r = some (.int x)) := by
  refine Ct.of (by decide) (Nat.le_of_ble_eq_true rfl) [(0, .ref c)] rfl (fun X hX F hQ => ?_)
  have hPP := hP
  unfold OKP at hPP
  have h1 : HS V c ⟨T, Z, u, h, P, L⟩ [0, 2, 3, 4, 5, 6, 7, 8, 9, 10, 11, 12, 13, 14, 15, 16, 17, 18, 19, 20, 21, 22, 23] σ σ := HS.start h0
  refine m_aload_n F rfl e_X10_heaviest_0 ?_
  refine m_iconst F (v := 0) (by decide) e_X10_heaviest_1 ?_
  refine r_put F (g' := (⟨T, Z, u, h, P, L⟩ : RG)) e_X10_heaviest_2 fp_X10_91 h1 (by decide) ⟨_, rfl⟩ (fun _ _ _ _ q => q) (fun _ _ _ q => q) rfl rfl (by decide) (fun σ6150 h6151 g6152 g6153 f6154 => ?_)
  refine m_bipush F (v := (-2)) (by decide) e_X10_heaviest_5 ?_
  refine m_istore_n F (lv' := [(1, .int (-2)), (0, .ref c)]) e_X10_heaviest_7 (by decide) rfl ?_
  refine m_iconst F (v := 0) (by decide) e_X10_heaviest_8 ?_
  refine m_istore_n F (lv' := [(2, .int 0), (1, .int (-2)), (0, .ref c)]) e_X10_heaviest_9 (by decide) rfl ?_
  refine Wm.lvsub (lv' := [(0, .ref c), (1, .int (-2)), (2, .int 0)]) ?_ [2, 1, 0] rfl
  exact lq_X10_heaviest_10 F hQ hob hP  (4 - 0 + 1) (-2) 0 _ h6151 ⟨by omega, Or.inl rfl⟩ (Nat.lt_succ_self _)
