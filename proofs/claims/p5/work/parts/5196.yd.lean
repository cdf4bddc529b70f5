set_option maxRecDepth 20000 in
theorem lq_X10_namedAtF_3 {V : VX} {X : MX} {N : Nat} {σ : Mem} {c T Z u h : Nat} {P : NP} {L : Nat → LQ}  {n902 : Nat} {x903 : Int32} (F : Fx V X yX10_namedAt cX10_namedAt 5 (some .int) (rmd 0 0 0)) (hQ : Rt V X 0 0 N (fun r τ => HS V c (⟨T, Z, u, h, P, L⟩ : RG) [0, 1, 2, 3, 4, 5, 6, 7, 8, 9, 10, 11, 12, 13, 14, 15, 16, 17, 18, 19, 20, 21, 22, 23] σ τ ∧ r = some (.int (fnd (fun i => nI (bsel P i)) x903 0 n902)))) (hob : OKB L) (hP : OKP P) (hn902 : n902 ≤ 4)  : ∀ (fuel : Nat) (i : Nat) (τ : Mem), HS V c (⟨T, Z, u, h, P, L⟩ : RG) [0, 1, 2, 3, 4, 5, 6, 7, 8, 9, 10, 11, 12, 13, 14, 15, 16, 17, 18, 19, 20, 21, 22, 23] σ τ → i ≤ n902 ∧ fnd (fun i => nI (bsel P i)) x903 0 n902 = fnd (fun i => nI (bsel P i)) x903 i (n902 - i) → n902 - i < fuel → Wm V X 5 N τ 0 0 3 [(0, .ref c), (1, .int 0), (2, .int (nI n902)), (3, .int x903), (4, .int (nI i))] [] := by
  intro fuel
  induction fuel with
  | zero => intros; rename_i hm; exact absurd hm (Nat.not_lt_zero _)
  | succ fuel ih =>
    intro i τ h1 hi hm
    have hPP := hP
    unfold OKP at hPP
    obtain ⟨i1, i2⟩ := hi
    refine m_iload F rfl e_X10_namedAt_3 ?_
    refine m_iload_n F rfl e_X10_namedAt_5 ?_
    refine m_icmp_ge F e_X10_namedAt_6 (fun q6 => ?_) (fun q6 => ?_)
    · have c6 : i ≥ n902 := (nI_leI (a := n902) (b := i) (by omega) (by omega)).mp q6
      refine m_iconst F (v := (-1)) (by decide) e_X10_namedAt_31 ?_
      exact m_iret F hQ e_X10_namedAt_32 (⟨h1, congrArg (fun x => some (Value.int x)) (i2.trans (fnd_end (by omega))).symm⟩)
    · have c6 : i < n902 := by have hh := mt (nI_leI (a := n902) (b := i) (by omega) (by omega)).mpr q6; omega
      refine m_aload_n F rfl e_X10_namedAt_9 ?_
      refine r_get F e_X10_namedAt_10 fl_X10_16 h1 rfl (fun v hv f17471 => ?_)
      obtain rfl : v = .ref (c + 3) := hv
      refine m_iload_n F rfl e_X10_namedAt_13 ?_
      refine m_iload F rfl e_X10_namedAt_14 ?_
      refine m_iadd F e_X10_namedAt_16 ?_
      refine Wm.topE (w := nI (0 + i)) (nI_add 0 i) ?_
      refine r_iald F (len := 8) (j := 0 + i) e_X10_namedAt_17 h1 (fun _ h => h) (by decide) (nI_clamp (by omega)) (vp_in_nI (by omega) (by decide)) (fun x17472 h17473 f17474 => ?_)
      obtain rfl : x17472 = nI (bsel P (0 + i)) := h17473 (by omega)
      refine m_iload_n F rfl e_X10_namedAt_18 ?_
      refine m_icmp_ne F e_X10_namedAt_19 (fun q19 => ?_) (fun q19 => ?_)
      · refine m_iinc F (v := nI (i + 1)) (lv' := [(4, .int (nI (i + 1))), (0, .ref c), (1, .int 0), (2, .int (nI n902)), (3, .int x903)]) e_X10_namedAt_25 rfl (nI_add i 1) (by decide) rfl ?_
        refine m_goto F e_X10_namedAt_28 ?_
        refine Wm.lvsub (lv' := [(0, .ref c), (1, .int 0), (2, .int (nI n902)), (3, .int x903), (4, .int (nI (i + 1)))]) ?_ [1, 2, 3, 4, 0] rfl
        exact ih (i + 1) _ h1 ⟨by omega, i2.trans (fnd_go (by omega) (fun e9 => q19 (by rw [Nat.zero_add]; exact e9)))⟩ (by omega)
      · refine m_iload F rfl e_X10_namedAt_22 ?_
        exact m_iret F hQ e_X10_namedAt_24 (⟨h1, congrArg (fun x => some (Value.int x)) (i2.trans (fnd_hit (by omega) (by rw [Nat.zero_add] at q19; exact q19))).symm⟩)
set_option maxRecDepth 20000 in
theorem q_X10_namedAtF (l : Launch) (V : VX) (c T Z u h : Nat) (P : NP) (L : Nat → LQ) (N : Nat) (σ : Mem) (n902 : Nat) (x903 : Int32) (h0 : HR V c ⟨T, Z, u, h, P, L⟩ σ) (hob : OKB L) (hP : OKP P) (hn902 : n902 ≤ 4) : Ct l V yX10_namedAt cX10_namedAt 5 (some .int) 0 0 0 N σ [.ref c, .int 0, .int (nI n902), .int x903] (fun r τ => HS V c (⟨T, Z, u, h, P, L⟩ : RG) [0, 1, 2, 3, 4, 5, 6, 7, 8, 9, 10, 11, 12, 13, 14, 15, 16, 17, 18, 19, 20, 21, 22, 23] σ τ ∧ r = some (.int (fnd (fun i => nI (bsel P i)) x903 0 n902))) := by
  refine Ct.of (by decide) (Nat.le_of_ble_eq_true rfl) [(0, .ref c), (1, .int 0), (2, .int (nI n902)), (3, .int x903)] rfl (fun X hX F hQ => ?_)
  have hPP := hP
  unfold OKP at hPP
  have h1 : HS V c ⟨T, Z, u, h, P, L⟩ [0, 1, 2, 3, 4, 5, 6, 7, 8, 9, 10, 11, 12, 13, 14, 15, 16, 17, 18, 19, 20, 21, 22, 23] σ σ := HS.start h0
  refine m_iconst F (v := 0) (by decide) e_X10_namedAt_0 ?_
  refine m_istore F (lv' := [(4, .int 0), (0, .ref c), (1, .int 0), (2, .int (nI n902)), (3, .int x903)]) e_X10_namedAt_1 (by decide) rfl ?_
  refine Wm.lvsub (lv' := [(0, .ref c), (1, .int 0), (2, .int (nI n902)), (3, .int x903), (4, .int 0)]) ?_ [1, 2, 3, 4, 0] rfl
  exact lq_X10_namedAtF_3 F hQ hob hP hn902 (n902 - 0 + 1) 0 _ h1 ⟨by omega, rfl⟩ (Nat.lt_succ_self _)
set_option maxRecDepth 20000 in
theorem q_X10_namedE (l : Launch) (V : VX) (c T Z u h : Nat) (P : NP) (L : Nat → LQ) (N : Nat) (σ : Mem) (x901 : Int32) (h0 : HR V c ⟨T, Z, u, h, P, L⟩ σ) (hob : OKB L) (hP : OKP P)  : Ct l V yX10_named cX10_named 2 (some .int) 1 0 0 N σ [.ref c, .int x901] (fun r τ => HS V c (⟨T, Z, u, h, P, L⟩ : RG) [0, 2, 3, 4, 5, 6, 7, 8, 9, 10, 11, 12, 13, 14, 15, 16, 17, 18, 19, 20, 21, 22, 23] σ τ ∧ r = some (.int (fnd (fun i => nI (bsel P i)) x901 0 P.n0))) := by
  refine Ct.of (by decide) (Nat.le_of_ble_eq_true rfl) [(0, .ref c), (1, .int x901)] rfl (fun X hX F hQ => ?_)
  have hPP := hP
  unfold OKP at hPP
  have h1 : HS V c ⟨T, Z, u, h, P, L⟩ [0, 2, 3, 4, 5, 6, 7, 8, 9, 10, 11, 12, 13, 14, 15, 16, 17, 18, 19, 20, 21, 22, 23] σ σ := HS.start h0
  refine m_aload_n F rfl e_X10_named_0 ?_
  refine m_iconst F (v := 0) (by decide) e_X10_named_1 ?_
  refine r_put F (g' := (⟨T, Z, u, h, P, L⟩ : RG)) e_X10_named_2 fp_X10_91 h1 (by decide) ⟨_, rfl⟩ (fun _ _ _ _ q => q) (fun _ _ _ q => q) rfl rfl (by decide) (fun σ17475 h17476 g17477 g17478 f17479 => ?_)
  refine m_aload_n F rfl e_X10_named_5 ?_
  refine m_iconst F (v := 0) (by decide) e_X10_named_6 ?_
  refine m_aload_n F rfl e_X10_named_7 ?_
  refine r_callV F e_X10_named_8 (q_X10_leases (x_l X) V c T Z u h P L _ _  h17476.1 (hob) hP ) cb_X10_leases ml_X10_221 im_X10_leases se_X10_leases h17476 rfl rfl (rest := [.int 0, .ref c]) rfl (Nat.le_of_ble_eq_true rfl) ⟨Nat.le_of_ble_eq_true rfl, Nat.le_of_ble_eq_true rfl⟩ ⟨Nat.le_of_ble_eq_true rfl, Nat.le_of_ble_eq_true rfl⟩ (fun r σ17480 hp => ?_)
  obtain ⟨h17481, rfl⟩ := hp
  have h17482 := HS.trans h17476 h17481 (by decide)
  refine m_iload_n F rfl e_X10_named_11 ?_
  refine r_callV F e_X10_named_12 (q_X10_namedAtF (x_l X) V c T Z u h P L _ _ P.n0 x901  h17482.1 (hob) hP (by omega) ) cb_X10_namedAt ml_X10_161 im_X10_namedAt se_X10_namedAt h17482 rfl rfl (rest := []) rfl (Nat.le_of_ble_eq_true rfl) ⟨Nat.le_of_ble_eq_true rfl, Nat.le_of_ble_eq_true rfl⟩ ⟨Nat.le_of_ble_eq_true rfl, Nat.le_of_ble_eq_true rfl⟩ (fun r σ17483 hp => ?_)
  obtain ⟨h17484, hp⟩ := hp
  have h17485 := HS.trans h17482 h17484 (by decide)
  obtain rfl := hp
  exact m_iret F hQ e_X10_named_15 (⟨h17485, rfl⟩)
