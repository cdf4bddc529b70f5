set_option maxRecDepth 20000 in
theorem q_X10_isSmall (l : Launch) (V : VX) (N : Nat) (σ : Mem) (x901 : Int32)  : Ct l V yX10_isSmall cX10_isSmall 1 (some .boolean) 0 0 0 N σ [.int x901] (fun r τ => τ = σ ∧ ∃ n : Nat, n ≤ 1 ∧ r = some (.int (nI n))) := by
  refine Ct.of (by decide) (Nat.le_of_ble_eq_true rfl) [(0, .int x901)] rfl (fun X hX F hQ => ?_)
  refine m_iload_n F rfl e_X10_isSmall_0 ?_
  refine m_bipush F (v := 97) (by decide) e_X10_isSmall_1 ?_
  refine m_icmp_lt F e_X10_isSmall_3 (fun q3 => ?_) (fun q3 => ?_)
  · refine m_iconst F (v := 0) (by decide) e_X10_isSmall_16 ?_
    exact m_zret F hQ e_X10_isSmall_17 (by decide) (⟨rfl, 0, by omega, rfl⟩)
  · obtain ⟨n4314, hn4314, rfl⟩ := nI_nn (x := x901) (fun e => q3 (Int32.lt_of_lt_of_le e (by decide)))
    have c3 : n4314 ≥ 97 := by have hh := mt (nI_ltI (a := n4314) (b := 97) (by omega) (by omega)).mpr q3; omega
    refine m_iload_n F rfl e_X10_isSmall_6 ?_
    refine m_bipush F (v := 122) (by decide) e_X10_isSmall_7 ?_
    refine m_icmp_gt F e_X10_isSmall_9 (fun q9 => ?_) (fun q9 => ?_)
    · have c9 : n4314 > 122 := (nI_ltI (a := 122) (b := n4314) (by omega) (by omega)).mp q9
      refine m_iconst F (v := 0) (by decide) e_X10_isSmall_16 ?_
      exact m_zret F hQ e_X10_isSmall_17 (by decide) (⟨rfl, 0, by omega, rfl⟩)
    · have c9 : n4314 ≤ 122 := by have hh := mt (nI_ltI (a := 122) (b := n4314) (by omega) (by omega)).mpr q9; omega
      refine m_iconst F (v := 1) (by decide) e_X10_isSmall_12 ?_
      refine m_goto F e_X10_isSmall_13 ?_
      exact m_zret F hQ e_X10_isSmall_17 (by decide) (⟨rfl, 1, by omega, rfl⟩)
set_option maxRecDepth 20000 in
theorem q_X10_isDigit (l : Launch) (V : VX) (N : Nat) (σ : Mem) (x901 : Int32)  : Ct l V yX10_isDigit cX10_isDigit 1 (some .boolean) 0 0 0 N σ [.int x901] (fun r τ => τ = σ ∧ ∃ n : Nat, n ≤ 1 ∧ r = some (.int (nI n))) := by
  refine Ct.of (by decide) (Nat.le_of_ble_eq_true rfl) [(0, .int x901)] rfl (fun X hX F hQ => ?_)
  refine m_iload_n F rfl e_X10_isDigit_0 ?_
  refine m_bipush F (v := 48) (by decide) e_X10_isDigit_1 ?_
  refine m_icmp_lt F e_X10_isDigit_3 (fun q3 => ?_) (fun q3 => ?_)
  · refine m_iconst F (v := 0) (by decide) e_X10_isDigit_16 ?_
    exact m_zret F hQ e_X10_isDigit_17 (by decide) (⟨rfl, 0, by omega, rfl⟩)
  · obtain ⟨n4315, hn4315, rfl⟩ := nI_nn (x := x901) (fun e => q3 (Int32.lt_of_lt_of_le e (by decide)))
    have c3 : n4315 ≥ 48 := by have hh := mt (nI_ltI (a := n4315) (b := 48) (by omega) (by omega)).mpr q3; omega
    refine m_iload_n F rfl e_X10_isDigit_6 ?_
    refine m_bipush F (v := 57) (by decide) e_X10_isDigit_7 ?_
    refine m_icmp_gt F e_X10_isDigit_9 (fun q9 => ?_) (fun q9 => ?_)
    · have c9 : n4315 > 57 := (nI_ltI (a := 57) (b := n4315) (by omega) (by omega)).mp q9
      refine m_iconst F (v := 0) (by decide) e_X10_isDigit_16 ?_
      exact m_zret F hQ e_X10_isDigit_17 (by decide) (⟨rfl, 0, by omega, rfl⟩)
    · have c9 : n4315 ≤ 57 := by have hh := mt (nI_ltI (a := 57) (b := n4315) (by omega) (by omega)).mpr q9; omega
      refine m_iconst F (v := 1) (by decide) e_X10_isDigit_12 ?_
      refine m_goto F e_X10_isDigit_13 ?_
      exact m_zret F hQ e_X10_isDigit_17 (by decide) (⟨rfl, 1, by omega, rfl⟩)
set_option maxRecDepth 20000 in
theorem q_X10_areAhead (l : Launch) (V : VX) (N : Nat) (σ : Mem) (x901 : Int32)  : Ct l V yX10_areAhead cX10_areAhead 1 (some .boolean) 0 0 0 N σ [.int x901] (fun r τ => τ = σ ∧ ∃ n : Nat, n ≤ 1 ∧ r = some (.int (nI n))) := by
  refine Ct.of (by decide) (Nat.le_of_ble_eq_true rfl) [(0, .int x901)] rfl (fun X hX F hQ => ?_)
  refine m_iload_n F rfl e_X10_areAhead_0 ?_
  refine m_if_lt F e_X10_areAhead_1 (fun q1 => ?_) (fun q1 => ?_)
  · refine m_iconst F (v := 0) (by decide) e_X10_areAhead_14 ?_
    exact m_zret F hQ e_X10_areAhead_15 (by decide) (⟨rfl, 0, by omega, rfl⟩)
  · obtain ⟨n4316, hn4316, rfl⟩ := nI_nn (x := x901) (fun e => q1 (Int32.lt_of_lt_of_le e (by decide)))
    have c1 : n4316 ≥ 0 := by have hh := mt (nI_ltI (a := n4316) (b := 0) (by omega) (by omega)).mpr q1; omega
    refine m_iload_n F rfl e_X10_areAhead_4 ?_
    refine m_bipush F (v := 72) (by decide) e_X10_areAhead_5 ?_
    refine m_icmp_gt F e_X10_areAhead_7 (fun q7 => ?_) (fun q7 => ?_)
    · have c7 : n4316 > 72 := (nI_ltI (a := 72) (b := n4316) (by omega) (by omega)).mp q7
      refine m_iconst F (v := 0) (by decide) e_X10_areAhead_14 ?_
      exact m_zret F hQ e_X10_areAhead_15 (by decide) (⟨rfl, 0, by omega, rfl⟩)
    · have c7 : n4316 ≤ 72 := by have hh := mt (nI_ltI (a := 72) (b := n4316) (by omega) (by omega)).mpr q7; omega
      refine m_iconst F (v := 1) (by decide) e_X10_areAhead_10 ?_
      refine m_goto F e_X10_areAhead_11 ?_
      exact m_zret F hQ e_X10_areAhead_15 (by decide) (⟨rfl, 1, by omega, rfl⟩)
set_option maxRecDepth 20000 in
theorem q_X10_rounded (l : Launch) (V : VX) (N : Nat) (σ : Mem) (x901 : Int64) (n902 : Nat) (hn902 : n902 ≤ 2000000) (hp0 : n902 ≠ 0) : Ct l V yX10_rounded cX10_rounded 8 (some .long) 0 0 0 N σ [.long x901, .long (lN n902)] (fun r τ => τ = σ ∧ ∃ x : Int64, r = some (.long x)) := by
  refine Ct.of (by decide) (Nat.le_of_ble_eq_true rfl) [(0, .long x901), (2, .long (lN n902))] rfl (fun X hX F hQ => ?_)
  refine m_lload_n F rfl e_X10_rounded_0 ?_
  refine m_lload_n F rfl e_X10_rounded_1 ?_
  refine m_ldiv F (lN_ne0 (by omega) hp0) e_X10_rounded_2 ?_
  refine Wm.topl (fun x4317 _ => ?_)
  refine m_lstore F (lv' := [(4, .long x4317), (0, .long x901), (2, .long (lN n902))]) e_X10_rounded_3 (by decide) rfl ?_
  refine m_lload_n F rfl e_X10_rounded_5 ?_
  refine m_lload F rfl e_X10_rounded_6 ?_
  refine m_lload_n F rfl e_X10_rounded_8 ?_
  refine m_lmul F e_X10_rounded_9 ?_
  refine Wm.topl (fun x4318 _ => ?_)
  refine m_lsub F e_X10_rounded_10 ?_
  refine Wm.topl (fun x4319 _ => ?_)
  refine m_lstore F (lv' := [(6, .long x4319), (4, .long x4317), (0, .long x901), (2, .long (lN n902))]) e_X10_rounded_11 (by decide) rfl ?_
  refine m_ldc2 F kc_X10_234 e_X10_rounded_13 ?_
  refine m_lload F rfl e_X10_rounded_16 ?_
  refine m_lmul F e_X10_rounded_18 ?_
  refine Wm.topl (fun x4320 _ => ?_)
  refine m_lload_n F rfl e_X10_rounded_19 ?_
  refine m_lcmp F e_X10_rounded_20 ?_
  refine Wm.top (fun x4321 _ => ?_)
  refine m_if_lt F e_X10_rounded_21 (fun q21 => ?_) (fun q21 => ?_)
  · refine m_lload F rfl e_X10_rounded_31 ?_
    exact m_lret F hQ e_X10_rounded_33 (⟨rfl, _, rfl⟩)
  · obtain ⟨n4322, hn4322, rfl⟩ := nI_nn (x := x4321) (fun e => q21 (Int32.lt_of_lt_of_le e (by decide)))
    have c21 : n4322 ≥ 0 := by have hh := mt (nI_ltI (a := n4322) (b := 0) (by omega) (by omega)).mpr q21; omega
    refine m_lload F rfl e_X10_rounded_24 ?_
    refine m_lconst F (v := 1) (by decide) e_X10_rounded_26 ?_
    refine m_ladd F e_X10_rounded_27 ?_
    refine Wm.topl (fun x4323 _ => ?_)
    refine m_goto F e_X10_rounded_28 ?_
    exact m_lret F hQ e_X10_rounded_33 (⟨rfl, _, rfl⟩)
set_option maxRecDepth 20000 in
theorem q_X10_leases (l : Launch) (V : VX) (c T Z u h : Nat) (P : NP) (L : Nat → LQ) (N : Nat) (σ : Mem)  (h0 : HR V c ⟨T, Z, u, h, P, L⟩ σ) (hob : OKB L) (hP : OKP P)  : Ct l V yX10_leases cX10_leases 1 (some .int) 0 0 0 N σ [.ref c] (fun r τ => HS V c (⟨T, Z, u, h, P, L⟩ : RG) [0, 1, 2, 3, 4, 5, 6, 7, 8, 9, 10, 11, 12, 13, 14, 15, 16, 17, 18, 19, 20, 21, 22, 23] σ τ ∧ r = some (.int (nI P.n0))) := by
  refine Ct.of (by decide) (Nat.le_of_ble_eq_true rfl) [(0, .ref c)] rfl (fun X hX F hQ => ?_)
  have hPP := hP
  unfold OKP at hPP
  have h1 : HS V c ⟨T, Z, u, h, P, L⟩ [0, 1, 2, 3, 4, 5, 6, 7, 8, 9, 10, 11, 12, 13, 14, 15, 16, 17, 18, 19, 20, 21, 22, 23] σ σ := HS.start h0
  refine m_aload_n F rfl e_X10_leases_0 ?_
  refine r_get F e_X10_leases_1 fl_X10_13 h1 rfl (fun v hv f4324 => ?_)
  obtain rfl : v = .ref (c + 2) := hv
  refine m_iconst F (v := 0) (by decide) e_X10_leases_4 ?_
  refine r_iald F (len := 10) (j := 0) e_X10_leases_5 h1 (fun _ h => h) (by decide) (by decide) (by unfold vp_in; decide) (fun x4325 h4326 f4327 => ?_)
  obtain rfl : x4325 = nI P.n0 := h4326.1 rfl
  exact m_iret F hQ e_X10_leases_6 (⟨h1, rfl⟩)
set_option maxRecDepth 20000 in
theorem q_X10_isLease (l : Launch) (V : VX) (c T Z u h : Nat) (P : NP) (L : Nat → LQ) (N : Nat) (σ : Mem) (x901 : Int32) (h0 : HR V c ⟨T, Z, u, h, P, L⟩ σ) (hob : OKB L) (hP : OKP P)  : Ct l V yX10_isLease cX10_isLease 2 (some .boolean) 1 0 0 N σ [.ref c, .int x901] (fun r τ => HS V c (⟨T, Z, u, h, P, L⟩ : RG) [0, 1, 2, 3, 4, 5, 6, 7, 8, 9, 10, 11, 12, 13, 14, 15, 16, 17, 18, 19, 20, 21, 22, 23] σ τ ∧ (r = some (.int 0) ∨ ∃ j : Nat, j < P.n0 ∧ x901 = nI j ∧ r = some (.int 1))) := by
  refine Ct.of (by decide) (Nat.le_of_ble_eq_true rfl) [(0, .ref c), (1, .int x901)] rfl (fun X hX F hQ => ?_)
  have hPP := hP
  unfold OKP at hPP
  have h1 : HS V c ⟨T, Z, u, h, P, L⟩ [0, 1, 2, 3, 4, 5, 6, 7, 8, 9, 10, 11, 12, 13, 14, 15, 16, 17, 18, 19, 20, 21, 22, 23] σ σ := HS.start h0
  refine m_iload_n F rfl e_X10_isLease_0 ?_
  refine m_if_lt F e_X10_isLease_1 (fun q1 => ?_) (fun q1 => ?_)
  · refine m_iconst F (v := 0) (by decide) e_X10_isLease_16 ?_
    exact m_zret F hQ e_X10_isLease_17 (by decide) (⟨h1, Or.inl rfl⟩)
  · obtain ⟨n4328, hn4328, rfl⟩ := nI_nn (x := x901) (fun e => q1 (Int32.lt_of_lt_of_le e (by decide)))
    have c1 : n4328 ≥ 0 := by have hh := mt (nI_ltI (a := n4328) (b := 0) (by omega) (by omega)).mpr q1; omega
    refine m_iload_n F rfl e_X10_isLease_4 ?_
    refine m_aload_n F rfl e_X10_isLease_5 ?_
    refine r_callV F e_X10_isLease_6 (q_X10_leases (x_l X) V c T Z u h P L _ _  h1.1 (hob) hP ) cb_X10_leases ml_X10_221 im_X10_leases se_X10_leases h1 rfl rfl (rest := [.int (nI n4328)]) rfl (Nat.le_of_ble_eq_true rfl) ⟨Nat.le_of_ble_eq_true rfl, Nat.le_of_ble_eq_true rfl⟩ ⟨Nat.le_of_ble_eq_true rfl, Nat.le_of_ble_eq_true rfl⟩ (fun r σ4329 hp => ?_)
    obtain ⟨h4330, rfl⟩ := hp
    have h4331 := HS.trans h1 h4330 (by decide)
    refine m_icmp_ge F e_X10_isLease_9 (fun q9 => ?_) (fun q9 => ?_)
    · have c9 : n4328 ≥ P.n0 := (nI_leI (a := P.n0) (b := n4328) (by omega) (by omega)).mp q9
      refine m_iconst F (v := 0) (by decide) e_X10_isLease_16 ?_
      exact m_zret F hQ e_X10_isLease_17 (by decide) (⟨h4331, Or.inl rfl⟩)
    · have c9 : n4328 < P.n0 := by have hh := mt (nI_leI (a := P.n0) (b := n4328) (by omega) (by omega)).mpr q9; omega
      refine m_iconst F (v := 1) (by decide) e_X10_isLease_12 ?_
      refine m_goto F e_X10_isLease_13 ?_
      exact m_zret F hQ e_X10_isLease_17 (by decide) (⟨h4331, Or.inr ⟨n4328, by omega, rfl, rfl⟩⟩)
set_option maxRecDepth 20000 in
theorem q_X10_isEarly (l : Launch) (V : VX) (c T Z u h : Nat) (P : NP) (L : Nat → LQ) (N : Nat) (σ : Mem) (n901 : Nat) (h0 : HR V c ⟨T, Z, u, h, P, L⟩ σ) (hob : OKB L) (hP : OKP P) (hn901 : n901 ≤ 3) : Ct l V yX10_isEarly cX10_isEarly 2 (some .boolean) 0 0 0 N σ [.ref c, .int (nI n901)] (fun r τ => HS V c (⟨T, Z, u, h, P, L⟩ : RG) [0, 1, 2, 3, 4, 5, 6, 7, 8, 9, 10, 11, 12, 13, 14, 15, 16, 17, 18, 19, 20, 21, 22, 23] σ τ ∧ ∃ n : Nat, n ≤ 1 ∧ r = some (.int (nI n))) := by
  refine Ct.of (by decide) (Nat.le_of_ble_eq_true rfl) [(0, .ref c), (1, .int (nI n901))] rfl (fun X hX F hQ => ?_)
  have hPP := hP
  unfold OKP at hPP
  have h1 : HS V c ⟨T, Z, u, h, P, L⟩ [0, 1, 2, 3, 4, 5, 6, 7, 8, 9, 10, 11, 12, 13, 14, 15, 16, 17, 18, 19, 20, 21, 22, 23] σ σ := HS.start h0
  refine m_aload_n F rfl e_X10_isEarly_0 ?_
  refine r_get F e_X10_isEarly_1 fl_X10_28 h1 rfl (fun v hv f4332 => ?_)
  obtain rfl : v = .ref (c + 7) := hv
  refine m_iload_n F rfl e_X10_isEarly_4 ?_
  refine r_iald F (len := 8) (j := n901) e_X10_isEarly_5 h1 (fun _ h => h) (by decide) (nI_clamp (by omega)) (vp_in_nI (by omega) (by decide)) (fun x4333 h4334 f4335 => ?_)
  refine m_iconst F (v := 1) (by decide) e_X10_isEarly_6 ?_
  refine m_iand F e_X10_isEarly_7 ?_
  refine Wm.top (fun x4336 _ => ?_)
  refine m_if_eq F e_X10_isEarly_8 (fun q8 => ?_) (fun q8 => ?_)
  · subst q8
    refine m_iconst F (v := 0) (by decide) e_X10_isEarly_15 ?_
    exact m_zret F hQ e_X10_isEarly_16 (by decide) (⟨h1, 0, by omega, rfl⟩)
  · refine m_iconst F (v := 1) (by decide) e_X10_isEarly_11 ?_
    refine m_goto F e_X10_isEarly_12 ?_
    exact m_zret F hQ e_X10_isEarly_16 (by decide) (⟨h1, 1, by omega, rfl⟩)
set_option maxRecDepth 20000 in
theorem q_X10_isTied (l : Launch) (V : VX) (c T Z u h : Nat) (P : NP) (L : Nat → LQ) (N : Nat) (σ : Mem) (n901 : Nat) (h0 : HR V c ⟨T, Z, u, h, P, L⟩ σ) (hob : OKB L) (hP : OKP P) (hn901 : n901 ≤ 3) : Ct l V yX10_isTied cX10_isTied 2 (some .boolean) 0 0 0 N σ [.ref c, .int (nI n901)] (fun r τ => HS V c (⟨T, Z, u, h, P, L⟩ : RG) [0, 1, 2, 3, 4, 5, 6, 7, 8, 9, 10, 11, 12, 13, 14, 15, 16, 17, 18, 19, 20, 21, 22, 23] σ τ ∧ ∃ n : Nat, n ≤ 1 ∧ r = some (.int (nI n))) := by
  refine Ct.of (by decide) (Nat.le_of_ble_eq_true rfl) [(0, .ref c), (1, .int (nI n901))] rfl (fun X hX F hQ => ?_)
  have hPP := hP
  unfold OKP at hPP
  have h1 : HS V c ⟨T, Z, u, h, P, L⟩ [0, 1, 2, 3, 4, 5, 6, 7, 8, 9, 10, 11, 12, 13, 14, 15, 16, 17, 18, 19, 20, 21, 22, 23] σ σ := HS.start h0
  refine m_aload_n F rfl e_X10_isTied_0 ?_
  refine r_get F e_X10_isTied_1 fl_X10_28 h1 rfl (fun v hv f4337 => ?_)
  obtain rfl : v = .ref (c + 7) := hv
  refine m_iload_n F rfl e_X10_isTied_4 ?_
  refine r_iald F (len := 8) (j := n901) e_X10_isTied_5 h1 (fun _ h => h) (by decide) (nI_clamp (by omega)) (vp_in_nI (by omega) (by decide)) (fun x4338 h4339 f4340 => ?_)
  refine m_iconst F (v := 2) (by decide) e_X10_isTied_6 ?_
  refine m_iand F e_X10_isTied_7 ?_
  refine Wm.top (fun x4341 _ => ?_)
  refine m_if_eq F e_X10_isTied_8 (fun q8 => ?_) (fun q8 => ?_)
  · subst q8
    refine m_iconst F (v := 0) (by decide) e_X10_isTied_15 ?_
    exact m_zret F hQ e_X10_isTied_16 (by decide) (⟨h1, 0, by omega, rfl⟩)
  · refine m_iconst F (v := 1) (by decide) e_X10_isTied_11 ?_
    refine m_goto F e_X10_isTied_12 ?_
    exact m_zret F hQ e_X10_isTied_16 (by decide) (⟨h1, 1, by omega, rfl⟩)
set_option maxRecDepth 20000 in
theorem q_X10_isOn (l : Launch) (V : VX) (c T Z u h : Nat) (P : NP) (L : Nat → LQ) (N : Nat) (σ : Mem) (n901 : Nat) (h0 : HR V c ⟨T, Z, u, h, P, L⟩ σ) (hob : OKB L) (hP : OKP P) (hn901 : n901 ≤ 3) : Ct l V yX10_isOn cX10_isOn 2 (some .boolean) 0 0 0 N σ [.ref c, .int (nI n901)] (fun r τ => HS V c (⟨T, Z, u, h, P, L⟩ : RG) [0, 1, 2, 3, 4, 5, 6, 7, 8, 9, 10, 11, 12, 13, 14, 15, 16, 17, 18, 19, 20, 21, 22, 23] σ τ ∧ ((L n901).1 ≠ 1 ∧ r = some (.int 0) ∨ (L n901).1 = 1 ∧ r = some (.int 1))) := by
  refine Ct.of (by decide) (Nat.le_of_ble_eq_true rfl) [(0, .ref c), (1, .int (nI n901))] rfl (fun X hX F hQ => ?_)
  have hPP := hP
  unfold OKP at hPP
  have h1 : HS V c ⟨T, Z, u, h, P, L⟩ [0, 1, 2, 3, 4, 5, 6, 7, 8, 9, 10, 11, 12, 13, 14, 15, 16, 17, 18, 19, 20, 21, 22, 23] σ σ := HS.start h0
  have hl := hob.2 n901 (by omega)
  refine m_aload_n F rfl e_X10_isOn_0 ?_
  refine r_get F e_X10_isOn_1 fl_X10_59 h1 rfl (fun v hv f4342 => ?_)
  obtain rfl : v = .ref (c + 16) := hv
  refine m_sipush F (v := 160) (by decide) e_X10_isOn_4 ?_
  refine m_iload_n F rfl e_X10_isOn_7 ?_
  refine m_imul F e_X10_isOn_8 ?_
  refine Wm.topE (w := nI (160 * n901)) (pk_mul 160 n901) ?_
  refine m_iconst F (v := 0) (by decide) e_X10_isOn_9 ?_
  refine m_iadd F e_X10_isOn_10 ?_
  refine Wm.topE (w := nI (160 * n901)) (nI_add (160 * n901) 0) ?_
  refine r_sld F (j := 160 * n901) e_X10_isOn_11 h1 (nI_clamp (by omega)) (vp_in_nI (by omega) (by decide)) (fun x4343 h4344 f4345 => ?_)
  have hl4346 := hob.2 n901 (by omega)
  obtain rfl : x4343 = lN (L n901).1 := (EJ_l (l := n901) (r := 0) (by omega) (by decide)).mp h4344
  refine m_lconst F (v := 1) (by decide) e_X10_isOn_12 ?_
  refine m_lcmp F e_X10_isOn_13 ?_
  refine m_if_ne F e_X10_isOn_14 (fun q14 => ?_) (fun q14 => ?_)
  · have c14 : ((L n901).1) ≠ 1 := by have hh := mt (fun h9 => (lg_cmp_eq (lN ((L n901).1)) (lN 1)).mpr ((lN_eq (a := ((L n901).1)) (b := 1) (by omega) (by omega)).mpr h9)) q14; omega
    refine m_iconst F (v := 0) (by decide) e_X10_isOn_21 ?_
    exact m_zret F hQ e_X10_isOn_22 (by decide) (⟨h1, Or.inl ⟨by omega, rfl⟩⟩)
  · have c14 : ((L n901).1) = 1 := (lN_eq (a := ((L n901).1)) (b := 1) (by omega) (by omega)).mp ((lg_cmp_eq _ _).mp q14)
    refine m_iconst F (v := 1) (by decide) e_X10_isOn_17 ?_
    refine m_goto F e_X10_isOn_18 ?_
    exact m_zret F hQ e_X10_isOn_22 (by decide) (⟨h1, Or.inr ⟨by omega, rfl⟩⟩)
set_option maxRecDepth 20000 in
theorem q_X10_index (l : Launch) (V : VX) (c T Z u h : Nat) (P : NP) (L : Nat → LQ) (N : Nat) (σ : Mem) (x901 : Int32) (h0 : HR V c ⟨T, Z, u, h, P, L⟩ σ) (hob : OKB L) (hP : OKP P)  : Ct l V yX10_index cX10_index 2 (some .int) 0 0 0 N σ [.ref c, .int x901] (fun r τ => HS V c (⟨T, Z, u, h, P, L⟩ : RG) [0, 2, 3, 4, 5, 6, 7, 8, 9, 10, 11, 12, 13, 14, 15, 16, 17, 18, 19, 20, 21, 22, 23] σ τ ∧ ∃ x : Int32, r = some (.int x)) := by
  refine Ct.of (by decide) (Nat.le_of_ble_eq_true rfl) [(0, .ref c), (1, .int x901)] rfl (fun X hX F hQ => ?_)
  have hPP := hP
  unfold OKP at hPP
  have h1 : HS V c ⟨T, Z, u, h, P, L⟩ [0, 2, 3, 4, 5, 6, 7, 8, 9, 10, 11, 12, 13, 14, 15, 16, 17, 18, 19, 20, 21, 22, 23] σ σ := HS.start h0
  refine m_aload_n F rfl e_X10_index_0 ?_
  refine m_iconst F (v := 0) (by decide) e_X10_index_1 ?_
  refine r_put F (g' := (⟨T, Z, u, h, P, L⟩ : RG)) e_X10_index_2 fp_X10_91 h1 (by decide) ⟨_, rfl⟩ (fun _ _ _ _ q => q) (fun _ _ _ q => q) rfl rfl (by decide) (fun σ4347 h4348 g4349 g4350 f4351 => ?_)
  refine m_iload_n F rfl e_X10_index_5 ?_
  refine m_if_lt F e_X10_index_6 (fun q6 => ?_) (fun q6 => ?_)
  · refine m_iconst F (v := (-1)) (by decide) e_X10_index_29 ?_
    exact m_iret F hQ e_X10_index_30 (⟨h4348, _, rfl⟩)
  · obtain ⟨n4352, hn4352, rfl⟩ := nI_nn (x := x901) (fun e => q6 (Int32.lt_of_lt_of_le e (by decide)))
    have c6 : n4352 ≥ 0 := by have hh := mt (nI_ltI (a := n4352) (b := 0) (by omega) (by omega)).mpr q6; omega
    refine m_iload_n F rfl e_X10_index_9 ?_
    refine m_bipush F (v := 99) (by decide) e_X10_index_10 ?_
    refine m_icmp_gt F e_X10_index_12 (fun q12 => ?_) (fun q12 => ?_)
    · have c12 : n4352 > 99 := (nI_ltI (a := 99) (b := n4352) (by omega) (by omega)).mp q12
      refine m_iconst F (v := (-1)) (by decide) e_X10_index_29 ?_
      exact m_iret F hQ e_X10_index_30 (⟨h4348, _, rfl⟩)
    · have c12 : n4352 ≤ 99 := by have hh := mt (nI_ltI (a := 99) (b := n4352) (by omega) (by omega)).mpr q12; omega
      refine m_aload_n F rfl e_X10_index_15 ?_
      refine r_get F e_X10_index_16 fl_X10_59 h4348 rfl (fun v hv f4353 => ?_)
      obtain rfl : v = .ref (c + 16) := hv
      refine m_sipush F (v := 644) (by decide) e_X10_index_19 ?_
      refine m_iload_n F rfl e_X10_index_22 ?_
      refine m_iadd F e_X10_index_23 ?_
      refine Wm.topE (w := nI (644 + n4352)) (nI_add 644 n4352) ?_
      refine r_sld F (j := 644 + n4352) e_X10_index_24 h4348 (nI_clamp (by omega)) (vp_in_nI (by omega) (by decide)) (fun x4354 h4355 f4356 => ?_)
      obtain ⟨n4357, gn4357, hn4357, rfl⟩ := (EJ_i (p := n4352) (by omega)).mp h4355
      refine m_l2i F e_X10_index_25 ?_
      refine Wm.topE (w := nI n4357) (lN_i n4357) ?_
      refine m_goto F e_X10_index_26 ?_
      exact m_iret F hQ e_X10_index_30 (⟨h4348, _, rfl⟩)
set_option maxRecDepth 20000 in
theorem q_X10_account (l : Launch) (V : VX) (c T Z u h : Nat) (P : NP) (L : Nat → LQ) (N : Nat) (σ : Mem) (x901 : Int32) (h0 : HR V c ⟨T, Z, u, h, P, L⟩ σ) (hob : OKB L) (hP : OKP P)  : Ct l V yX10_account cX10_account 2 (some .long) 0 0 0 N σ [.ref c, .int x901] (fun r τ => HS V c (⟨T, Z, u, h, P, L⟩ : RG) [0, 2, 3, 4, 5, 6, 7, 8, 9, 10, 11, 12, 13, 14, 15, 16, 17, 18, 19, 20, 21, 22, 23] σ τ ∧ ∃ x : Int64, r = some (.long x)) := by
  refine Ct.of (by decide) (Nat.le_of_ble_eq_true rfl) [(0, .ref c), (1, .int x901)] rfl (fun X hX F hQ => ?_)
  have hPP := hP
  unfold OKP at hPP
  have h1 : HS V c ⟨T, Z, u, h, P, L⟩ [0, 2, 3, 4, 5, 6, 7, 8, 9, 10, 11, 12, 13, 14, 15, 16, 17, 18, 19, 20, 21, 22, 23] σ σ := HS.start h0
  refine m_aload_n F rfl e_X10_account_0 ?_
  refine m_iconst F (v := 0) (by decide) e_X10_account_1 ?_
  refine r_put F (g' := (⟨T, Z, u, h, P, L⟩ : RG)) e_X10_account_2 fp_X10_91 h1 (by decide) ⟨_, rfl⟩ (fun _ _ _ _ q => q) (fun _ _ _ q => q) rfl rfl (by decide) (fun σ4358 h4359 g4360 g4361 f4362 => ?_)
  refine m_iload_n F rfl e_X10_account_5 ?_
  refine m_if_lt F e_X10_account_6 (fun q6 => ?_) (fun q6 => ?_)
  · refine m_ldc2 F kc_X10_299 e_X10_account_28 ?_
    exact m_lret F hQ e_X10_account_31 (⟨h4359, _, rfl⟩)
  · obtain ⟨n4363, hn4363, rfl⟩ := nI_nn (x := x901) (fun e => q6 (Int32.lt_of_lt_of_le e (by decide)))
    have c6 : n4363 ≥ 0 := by have hh := mt (nI_ltI (a := n4363) (b := 0) (by omega) (by omega)).mpr q6; omega
    refine m_iload_n F rfl e_X10_account_9 ?_
    refine m_bipush F (v := 6) (by decide) e_X10_account_10 ?_
    refine m_icmp_ge F e_X10_account_12 (fun q12 => ?_) (fun q12 => ?_)
    · have c12 : n4363 ≥ 6 := (nI_leI (a := 6) (b := n4363) (by omega) (by omega)).mp q12
      refine m_ldc2 F kc_X10_299 e_X10_account_28 ?_
      exact m_lret F hQ e_X10_account_31 (⟨h4359, _, rfl⟩)
    · have c12 : n4363 < 6 := by have hh := mt (nI_leI (a := 6) (b := n4363) (by omega) (by omega)).mpr q12; omega
      refine m_aload_n F rfl e_X10_account_15 ?_
      refine r_get F e_X10_account_16 fl_X10_59 h4359 rfl (fun v hv f4364 => ?_)
      obtain rfl : v = .ref (c + 16) := hv
      refine m_sipush F (v := 745) (by decide) e_X10_account_19 ?_
      refine m_iload_n F rfl e_X10_account_22 ?_
      refine m_iadd F e_X10_account_23 ?_
      refine Wm.topE (w := nI (745 + n4363)) (nI_add 745 n4363) ?_
      refine r_sld F (j := 745 + n4363) e_X10_account_24 h4359 (nI_clamp (by omega)) (vp_in_nI (by omega) (by decide)) (fun x4365 h4366 f4367 => ?_)
      refine m_goto F e_X10_account_25 ?_
      exact m_lret F hQ e_X10_account_31 (⟨h4359, _, rfl⟩)
set_option maxRecDepth 20000 in
theorem q_X10_moved (l : Launch) (V : VX) (c T Z u h : Nat) (P : NP) (L : Nat → LQ) (N : Nat) (σ : Mem) (x901 : Int32) (x902 : Int32) (h0 : HR V c ⟨T, Z, u, h, P, L⟩ σ) (hob : OKB L) (hP : OKP P)  : Ct l V yX10_moved cX10_moved 3 (some .long) 2 0 0 N σ [.ref c, .int x901, .int x902] (fun r τ => HS V c (⟨T, Z, u, h, P, L⟩ : RG) [0, 2, 3, 4, 5, 6, 7, 8, 9, 10, 11, 12, 13, 14, 15, 16, 17, 18, 19, 20, 21, 22, 23] σ τ ∧ ∃ x : Int64, r = some (.long x)) := by
  refine Ct.of (by decide) (Nat.le_of_ble_eq_true rfl) [(0, .ref c), (1, .int x901), (2, .int x902)] rfl (fun X hX F hQ => ?_)
  have hPP := hP
  unfold OKP at hPP
  have h1 : HS V c ⟨T, Z, u, h, P, L⟩ [0, 2, 3, 4, 5, 6, 7, 8, 9, 10, 11, 12, 13, 14, 15, 16, 17, 18, 19, 20, 21, 22, 23] σ σ := HS.start h0
  refine m_aload_n F rfl e_X10_moved_0 ?_
  refine m_iconst F (v := 0) (by decide) e_X10_moved_1 ?_
  refine r_put F (g' := (⟨T, Z, u, h, P, L⟩ : RG)) e_X10_moved_2 fp_X10_91 h1 (by decide) ⟨_, rfl⟩ (fun _ _ _ _ q => q) (fun _ _ _ q => q) rfl rfl (by decide) (fun σ4368 h4369 g4370 g4371 f4372 => ?_)
  refine m_aload_n F rfl e_X10_moved_5 ?_
  refine m_iload_n F rfl e_X10_moved_6 ?_
  refine r_callV F e_X10_moved_7 (q_X10_isLease (x_l X) V c T Z u h P L _ _ x901 h4369.1 (hob) hP ) cb_X10_isLease ml_X10_292 im_X10_isLease se_X10_isLease h4369 rfl rfl (rest := []) rfl (Nat.le_of_ble_eq_true rfl) ⟨Nat.le_of_ble_eq_true rfl, Nat.le_of_ble_eq_true rfl⟩ ⟨Nat.le_of_ble_eq_true rfl, Nat.le_of_ble_eq_true rfl⟩ (fun r σ4373 hp => ?_)
  obtain ⟨h4374, c4376⟩ := hp
  have h4375 := HS.trans h4369 h4374 (by decide)
  rcases c4376 with rfl | ⟨n4377, h4378, e4379, rfl⟩
  · refine m_if_eq F e_X10_moved_10 (fun _ => ?_) (fun q => absurd (by decide) q)
    refine m_ldc2 F kc_X10_299 e_X10_moved_40 ?_
    exact m_lret F hQ e_X10_moved_43 (⟨h4375, _, rfl⟩)
  · subst e4379
    refine m_if_eq F e_X10_moved_10 (fun q => absurd q (by decide)) (fun _ => ?_)
    refine m_iload_n F rfl e_X10_moved_13 ?_
    refine m_if_lt F e_X10_moved_14 (fun q14 => ?_) (fun q14 => ?_)
    · refine m_ldc2 F kc_X10_299 e_X10_moved_40 ?_
      exact m_lret F hQ e_X10_moved_43 (⟨h4375, _, rfl⟩)
    · obtain ⟨n4380, hn4380, rfl⟩ := nI_nn (x := x902) (fun e => q14 (Int32.lt_of_lt_of_le e (by decide)))
      have c14 : n4380 ≥ 0 := by have hh := mt (nI_ltI (a := n4380) (b := 0) (by omega) (by omega)).mpr q14; omega
      refine m_iload_n F rfl e_X10_moved_17 ?_
      refine m_iconst F (v := 5) (by decide) e_X10_moved_18 ?_
      refine m_icmp_ge F e_X10_moved_19 (fun q19 => ?_) (fun q19 => ?_)
      · have c19 : n4380 ≥ 5 := (nI_leI (a := 5) (b := n4380) (by omega) (by omega)).mp q19
        refine m_ldc2 F kc_X10_299 e_X10_moved_40 ?_
        exact m_lret F hQ e_X10_moved_43 (⟨h4375, _, rfl⟩)
      · have c19 : n4380 < 5 := by have hh := mt (nI_leI (a := 5) (b := n4380) (by omega) (by omega)).mpr q19; omega
        refine m_aload_n F rfl e_X10_moved_22 ?_
        refine r_get F e_X10_moved_23 fl_X10_59 h4375 rfl (fun v hv f4381 => ?_)
        obtain rfl : v = .ref (c + 16) := hv
        refine m_sipush F (v := 160) (by decide) e_X10_moved_26 ?_
        refine m_iload_n F rfl e_X10_moved_29 ?_
        refine m_imul F e_X10_moved_30 ?_
        refine Wm.topE (w := nI (160 * n4377)) (pk_mul 160 n4377) ?_
        refine m_bipush F (v := 8) (by decide) e_X10_moved_31 ?_
        refine m_iadd F e_X10_moved_33 ?_
        refine Wm.topE (w := nI (160 * n4377 + 8)) (nI_add (160 * n4377) 8) ?_
        refine m_iload_n F rfl e_X10_moved_34 ?_
        refine m_iadd F e_X10_moved_35 ?_
        refine Wm.topE (w := nI ((160 * n4377 + 8) + n4380)) (nI_add (160 * n4377 + 8) n4380) ?_
        refine r_sld F (j := (160 * n4377 + 8) + n4380) e_X10_moved_36 h4375 (nI_clamp (by omega)) (vp_in_nI (by omega) (by decide)) (fun x4382 h4383 f4384 => ?_)
        refine m_goto F e_X10_moved_37 ?_
        exact m_lret F hQ e_X10_moved_43 (⟨h4375, _, rfl⟩)
set_option maxRecDepth 20000 in
theorem q_X10_amount (l : Launch) (V : VX) (c T Z u h : Nat) (P : NP) (L : Nat → LQ) (N : Nat) (σ : Mem) (x901 : Int32) (x902 : Int32) (h0 : HR V c ⟨T, Z, u, h, P, L⟩ σ) (hob : OKB L) (hP : OKP P)  : Ct l V yX10_amount cX10_amount 3 (some .long) 2 0 0 N σ [.ref c, .int x901, .int x902] (fun r τ => HS V c (⟨T, Z, u, h, P, L⟩ : RG) [0, 2, 3, 4, 5, 6, 7, 8, 9, 10, 11, 12, 13, 14, 15, 16, 17, 18, 19, 20, 21, 22, 23] σ τ ∧ ∃ x : Int64, r = some (.long x)) := by
  refine Ct.of (by decide) (Nat.le_of_ble_eq_true rfl) [(0, .ref c), (1, .int x901), (2, .int x902)] rfl (fun X hX F hQ => ?_)
  have hPP := hP
  unfold OKP at hPP
  have h1 : HS V c ⟨T, Z, u, h, P, L⟩ [0, 2, 3, 4, 5, 6, 7, 8, 9, 10, 11, 12, 13, 14, 15, 16, 17, 18, 19, 20, 21, 22, 23] σ σ := HS.start h0
  refine m_aload_n F rfl e_X10_amount_0 ?_
  refine m_iconst F (v := 0) (by decide) e_X10_amount_1 ?_
  refine r_put F (g' := (⟨T, Z, u, h, P, L⟩ : RG)) e_X10_amount_2 fp_X10_91 h1 (by decide) ⟨_, rfl⟩ (fun _ _ _ _ q => q) (fun _ _ _ q => q) rfl rfl (by decide) (fun σ4385 h4386 g4387 g4388 f4389 => ?_)
  refine m_aload_n F rfl e_X10_amount_5 ?_
  refine m_iload_n F rfl e_X10_amount_6 ?_
  refine r_callV F e_X10_amount_7 (q_X10_isLease (x_l X) V c T Z u h P L _ _ x901 h4386.1 (hob) hP ) cb_X10_isLease ml_X10_292 im_X10_isLease se_X10_isLease h4386 rfl rfl (rest := []) rfl (Nat.le_of_ble_eq_true rfl) ⟨Nat.le_of_ble_eq_true rfl, Nat.le_of_ble_eq_true rfl⟩ ⟨Nat.le_of_ble_eq_true rfl, Nat.le_of_ble_eq_true rfl⟩ (fun r σ4390 hp => ?_)
  obtain ⟨h4391, c4393⟩ := hp
  have h4392 := HS.trans h4386 h4391 (by decide)
  rcases c4393 with rfl | ⟨n4394, h4395, e4396, rfl⟩
  · refine m_if_eq F e_X10_amount_10 (fun _ => ?_) (fun q => absurd (by decide) q)
    refine m_ldc2 F kc_X10_245 e_X10_amount_40 ?_
    exact m_lret F hQ e_X10_amount_43 (⟨h4392, _, rfl⟩)
  · subst e4396
    refine m_if_eq F e_X10_amount_10 (fun q => absurd q (by decide)) (fun _ => ?_)
    refine m_iload_n F rfl e_X10_amount_13 ?_
    refine m_if_eq F e_X10_amount_14 (fun q14 => ?_) (fun q14 => ?_)
    · subst q14
      refine m_aload_n F rfl e_X10_amount_22 ?_
      refine r_get F e_X10_amount_23 fl_X10_59 h4392 rfl (fun v hv f4397 => ?_)
      obtain rfl : v = .ref (c + 16) := hv
      refine m_sipush F (v := 160) (by decide) e_X10_amount_26 ?_
      refine m_iload_n F rfl e_X10_amount_29 ?_
      refine m_imul F e_X10_amount_30 ?_
      refine Wm.topE (w := nI (160 * n4394)) (pk_mul 160 n4394) ?_
      refine m_bipush F (v := 6) (by decide) e_X10_amount_31 ?_
      refine m_iadd F e_X10_amount_33 ?_
      refine Wm.topE (w := nI (160 * n4394 + 6)) (nI_add (160 * n4394) 6) ?_
      refine m_iload_n F rfl e_X10_amount_34 ?_
      refine m_iadd F e_X10_amount_35 ?_
      refine Wm.topE (w := nI (160 * n4394 + 6)) (nI_add (160 * n4394 + 6) 0) ?_
      refine r_sld F (j := 160 * n4394 + 6) e_X10_amount_36 h4392 (nI_clamp (by omega)) (vp_in_nI (by omega) (by decide)) (fun x4398 h4399 f4400 => ?_)
      refine m_goto F e_X10_amount_37 ?_
      exact m_lret F hQ e_X10_amount_43 (⟨h4392, _, rfl⟩)
    · refine m_iload_n F rfl e_X10_amount_17 ?_
      refine m_iconst F (v := 1) (by decide) e_X10_amount_18 ?_
      refine m_icmp_ne F e_X10_amount_19 (fun q19 => ?_) (fun q19 => ?_)
      · refine m_ldc2 F kc_X10_245 e_X10_amount_40 ?_
        exact m_lret F hQ e_X10_amount_43 (⟨h4392, _, rfl⟩)
      · subst q19
        refine m_aload_n F rfl e_X10_amount_22 ?_
        refine r_get F e_X10_amount_23 fl_X10_59 h4392 rfl (fun v hv f4401 => ?_)
        obtain rfl : v = .ref (c + 16) := hv
        refine m_sipush F (v := 160) (by decide) e_X10_amount_26 ?_
        refine m_iload_n F rfl e_X10_amount_29 ?_
        refine m_imul F e_X10_amount_30 ?_
        refine Wm.topE (w := nI (160 * n4394)) (pk_mul 160 n4394) ?_
        refine m_bipush F (v := 6) (by decide) e_X10_amount_31 ?_
        refine m_iadd F e_X10_amount_33 ?_
        refine Wm.topE (w := nI (160 * n4394 + 6)) (nI_add (160 * n4394) 6) ?_
        refine m_iload_n F rfl e_X10_amount_34 ?_
        refine m_iadd F e_X10_amount_35 ?_
        refine Wm.topE (w := nI (160 * n4394 + 7)) (nI_add (160 * n4394 + 6) 1) ?_
        refine r_sld F (j := 160 * n4394 + 7) e_X10_amount_36 h4392 (nI_clamp (by omega)) (vp_in_nI (by omega) (by decide)) (fun x4402 h4403 f4404 => ?_)
        refine m_goto F e_X10_amount_37 ?_
        exact m_lret F hQ e_X10_amount_43 (⟨h4392, _, rfl⟩)
set_option maxRecDepth 20000 in
theorem q_X10_isRunning (l : Launch) (V : VX) (c T Z u h : Nat) (P : NP) (L : Nat → LQ) (N : Nat) (σ : Mem) (x901 : Int32) (h0 : HR V c ⟨T, Z, u, h, P, L⟩ σ) (hob : OKB L) (hP : OKP P)  : Ct l V yX10_isRunning cX10_isRunning 2 (some .boolean) 2 0 0 N σ [.ref c, .int x901] (fun r τ => HS V c (⟨T, Z, u, h, P, L⟩ : RG) [0, 1, 2, 3, 4, 5, 6, 7, 8, 9, 10, 11, 12, 13, 14, 15, 16, 17, 18, 19, 20, 21, 22, 23] σ τ ∧ (r = some (.int 0) ∨ ∃ j : Nat, j < P.n0 ∧ (L j).1 = 1 ∧ x901 = nI j ∧ r = some (.int 1))) := by
  refine Ct.of (by decide) (Nat.le_of_ble_eq_true rfl) [(0, .ref c), (1, .int x901)] rfl (fun X hX F hQ => ?_)
  have hPP := hP
  unfold OKP at hPP
  have h1 : HS V c ⟨T, Z, u, h, P, L⟩ [0, 1, 2, 3, 4, 5, 6, 7, 8, 9, 10, 11, 12, 13, 14, 15, 16, 17, 18, 19, 20, 21, 22, 23] σ σ := HS.start h0
  refine m_aload_n F rfl e_X10_isRunning_0 ?_
  refine m_iload_n F rfl e_X10_isRunning_1 ?_
  refine r_callV F e_X10_isRunning_2 (q_X10_isLease (x_l X) V c T Z u h P L _ _ x901 h1.1 (hob) hP ) cb_X10_isLease ml_X10_292 im_X10_isLease se_X10_isLease h1 rfl rfl (rest := []) rfl (Nat.le_of_ble_eq_true rfl) ⟨Nat.le_of_ble_eq_true rfl, Nat.le_of_ble_eq_true rfl⟩ ⟨Nat.le_of_ble_eq_true rfl, Nat.le_of_ble_eq_true rfl⟩ (fun r σ4405 hp => ?_)
  obtain ⟨h4406, c4408⟩ := hp
  have h4407 := HS.trans h1 h4406 (by decide)
  rcases c4408 with rfl | ⟨n4409, h4410, e4411, rfl⟩
  · refine m_if_eq F e_X10_isRunning_5 (fun _ => ?_) (fun q => absurd (by decide) q)
    refine m_iconst F (v := 0) (by decide) e_X10_isRunning_20 ?_
    exact m_zret F hQ e_X10_isRunning_21 (by decide) (⟨h4407, Or.inl rfl⟩)
  · subst e4411
    refine m_if_eq F e_X10_isRunning_5 (fun q => absurd q (by decide)) (fun _ => ?_)
    refine m_aload_n F rfl e_X10_isRunning_8 ?_
    refine m_iload_n F rfl e_X10_isRunning_9 ?_
    refine r_callV F e_X10_isRunning_10 (q_X10_isOn (x_l X) V c T Z u h P L _ _ n4409 h4407.1 (hob) hP (by omega)) cb_X10_isOn ml_X10_267 im_X10_isOn se_X10_isOn h4407 rfl rfl (rest := []) rfl (Nat.le_of_ble_eq_true rfl) ⟨Nat.le_of_ble_eq_true rfl, Nat.le_of_ble_eq_true rfl⟩ ⟨Nat.le_of_ble_eq_true rfl, Nat.le_of_ble_eq_true rfl⟩ (fun r σ4412 hp => ?_)
    obtain ⟨h4413, c4415⟩ := hp
    have h4414 := HS.trans h4407 h4413 (by decide)
    rcases c4415 with ⟨g4416, rfl⟩ | ⟨g4416, rfl⟩
    · refine m_if_eq F e_X10_isRunning_13 (fun _ => ?_) (fun q => absurd (by decide) q)
      refine m_iconst F (v := 0) (by decide) e_X10_isRunning_20 ?_
      exact m_zret F hQ e_X10_isRunning_21 (by decide) (⟨h4414, Or.inl rfl⟩)
    · refine m_if_eq F e_X10_isRunning_13 (fun q => absurd q (by decide)) (fun _ => ?_)
      refine m_iconst F (v := 1) (by decide) e_X10_isRunning_16 ?_
      refine m_goto F e_X10_isRunning_17 ?_
      exact m_zret F hQ e_X10_isRunning_21 (by decide) (⟨h4414, Or.inr ⟨n4409, by omega, by omega, rfl, rfl⟩⟩)
set_option maxRecDepth 20000 in
theorem q_X10_isOwn (l : Launch) (V : VX) (c T Z u h : Nat) (P : NP) (L : Nat → LQ) (N : Nat) (σ : Mem) (x901 : Int32) (x902 : Int32) (h0 : HR V c ⟨T, Z, u, h, P, L⟩ σ) (hob : OKB L) (hP : OKP P)  : Ct l V yX10_isOwn cX10_isOwn 3 (some .boolean) 2 0 0 N σ [.ref c, .int x901, .int x902] (fun r τ => HS V c (⟨T, Z, u, h, P, L⟩ : RG) [0, 1, 2, 3, 4, 5, 6, 7, 8, 9, 10, 11, 12, 13, 14, 15, 16, 17, 18, 19, 20, 21, 22, 23] σ τ ∧ (r = some (.int 0) ∨ ∃ j k : Nat, j < P.n0 ∧ 1 ≤ k ∧ k ≤ (L j).2.1 ∧ x901 = nI j ∧ x902 = nI k ∧ r = some (.int 1))) := by
  refine Ct.of (by decide) (Nat.le_of_ble_eq_true rfl) [(0, .ref c), (1, .int x901), (2, .int x902)] rfl (fun X hX F hQ => ?_)
  have hPP := hP
  unfold OKP at hPP
  have h1 : HS V c ⟨T, Z, u, h, P, L⟩ [0, 1, 2, 3, 4, 5, 6, 7, 8, 9, 10, 11, 12, 13, 14, 15, 16, 17, 18, 19, 20, 21, 22, 23] σ σ := HS.start h0
  refine m_aload_n F rfl e_X10_isOwn_0 ?_
  refine m_iload_n F rfl e_X10_isOwn_1 ?_
  refine r_callV F e_X10_isOwn_2 (q_X10_isLease (x_l X) V c T Z u h P L _ _ x901 h1.1 (hob) hP ) cb_X10_isLease ml_X10_292 im_X10_isLease se_X10_isLease h1 rfl rfl (rest := []) rfl (Nat.le_of_ble_eq_true rfl) ⟨Nat.le_of_ble_eq_true rfl, Nat.le_of_ble_eq_true rfl⟩ ⟨Nat.le_of_ble_eq_true rfl, Nat.le_of_ble_eq_true rfl⟩ (fun r σ4417 hp => ?_)
  obtain ⟨h4418, c4420⟩ := hp
  have h4419 := HS.trans h1 h4418 (by decide)
  rcases c4420 with rfl | ⟨n4421, h4422, e4423, rfl⟩
  · refine m_if_eq F e_X10_isOwn_5 (fun _ => ?_) (fun q => absurd (by decide) q)
    refine m_iconst F (v := 0) (by decide) e_X10_isOwn_35 ?_
    exact m_zret F hQ e_X10_isOwn_36 (by decide) (⟨h4419, Or.inl rfl⟩)
  · subst e4423
    refine m_if_eq F e_X10_isOwn_5 (fun q => absurd q (by decide)) (fun _ => ?_)
    refine m_iload_n F rfl e_X10_isOwn_8 ?_
    refine m_iconst F (v := 1) (by decide) e_X10_isOwn_9 ?_
    refine m_icmp_lt F e_X10_isOwn_10 (fun q10 => ?_) (fun q10 => ?_)
    · refine m_iconst F (v := 0) (by decide) e_X10_isOwn_35 ?_
      exact m_zret F hQ e_X10_isOwn_36 (by decide) (⟨h4419, Or.inl rfl⟩)
    · obtain ⟨n4424, hn4424, rfl⟩ := nI_nn (x := x902) (fun e => q10 (Int32.lt_of_lt_of_le e (by decide)))
      have c10 : n4424 ≥ 1 := by have hh := mt (nI_ltI (a := n4424) (b := 1) (by omega) (by omega)).mpr q10; omega
      refine m_iload_n F rfl e_X10_isOwn_13 ?_
      refine m_i2l F e_X10_isOwn_14 ?_
      refine Wm.toplE (w := lN n4424) (nI_l (by omega)) ?_
      refine m_aload_n F rfl e_X10_isOwn_15 ?_
      refine r_get F e_X10_isOwn_16 fl_X10_59 h4419 rfl (fun v hv f4425 => ?_)
      obtain rfl : v = .ref (c + 16) := hv
      refine m_sipush F (v := 160) (by decide) e_X10_isOwn_19 ?_
      refine m_iload_n F rfl e_X10_isOwn_22 ?_
      refine m_imul F e_X10_isOwn_23 ?_
      refine Wm.topE (w := nI (160 * n4421)) (pk_mul 160 n4421) ?_
      refine m_iconst F (v := 1) (by decide) e_X10_isOwn_24 ?_
      refine m_iadd F e_X10_isOwn_25 ?_
      refine Wm.topE (w := nI (160 * n4421 + 1)) (nI_add (160 * n4421) 1) ?_
      refine r_sld F (j := 160 * n4421 + 1) e_X10_isOwn_26 h4419 (nI_clamp (by omega)) (vp_in_nI (by omega) (by decide)) (fun x4426 h4427 f4428 => ?_)
      have hl4429 := hob.2 n4421 (by omega)
      obtain rfl : x4426 = lN (L n4421).2.1 := (EJ_l (l := n4421) (r := 1) (by omega) (by decide)).mp h4427
      refine m_lcmp F e_X10_isOwn_27 ?_
      refine m_if_gt F e_X10_isOwn_28 (fun q28 => ?_) (fun q28 => ?_)
      · have c28 : n4424 > ((L n4421).2.1) := (lN_lt (a := ((L n4421).2.1)) (b := n4424) (by omega) (by omega)).mp ((lg_cmp_gt _ _).mp q28)
        refine m_iconst F (v := 0) (by decide) e_X10_isOwn_35 ?_
        exact m_zret F hQ e_X10_isOwn_36 (by decide) (⟨h4419, Or.inl rfl⟩)
      · have c28 : n4424 ≤ ((L n4421).2.1) := by have hh := mt (fun h9 => (lg_cmp_gt (lN n4424) (lN ((L n4421).2.1))).mpr ((lN_lt (a := ((L n4421).2.1)) (b := n4424) (by omega) (by omega)).mpr h9)) q28; omega
        refine m_iconst F (v := 1) (by decide) e_X10_isOwn_31 ?_
        refine m_goto F e_X10_isOwn_32 ?_
        exact m_zret F hQ e_X10_isOwn_36 (by decide) (⟨h4419, Or.inr ⟨n4421, n4424, by omega, by omega, by omega, rfl, rfl, rfl⟩⟩)
set_option maxRecDepth 20000 in
theorem lq_X10_worthBy_22 {V : VX} {X : MX} {N : Nat} {σ : Mem} {c T Z u h : Nat} {P : NP} {L : Nat → LQ}  {n901 : Nat} {n902 : Nat} {n903 : Nat} {x904 : Int64} (F : Fx V X yX10_worthBy cX10_worthBy 13 (some .long) (rmd 1 0 0)) (hQ : Rt V X 0 0 N (fun r τ => HS V c (⟨T, Z, u, h, P, L⟩ : RG) [0, 1, 2, 3, 4, 5, 6, 7, 8, 9, 10, 11, 12, 13, 14, 15, 16, 17, 18, 19, 20, 21, 22, 23] σ τ ∧ ∃ x : Int64, r = some (.long x))) (hob : OKB L) (hP : OKP P) (hn901 : n901 ≤ 3) (hn902 : n902 ≤ 100) (hn903 : n903 ≤ 1000000) (hp0 : 1 ≤ n902)  : ∀ (fuel : Nat) (i : Nat) (u1 : Int64) (τ : Mem), HS V c (⟨T, Z, u, h, P, L⟩ : RG) [0, 1, 2, 3, 4, 5, 6, 7, 8, 9, 10, 11, 12, 13, 14, 15, 16, 17, 18, 19, 20, 21, 22, 23] σ τ → i ≤ 72 → i < fuel → Wm V X 13 N τ 0 0 22 [(10, .int (nI i)), (8, .long u1), (7, .int (nI (160 * n901))), (0, .ref c), (1, .int (nI n901)), (2, .int (nI n902)), (3, .long (lN n903)), (5, .long x904)] [] := by
  intro fuel
  induction fuel with
  | zero => intros; rename_i hm; exact absurd hm (Nat.not_lt_zero _)
  | succ fuel ih =>
    intro i u1 τ h1 hi hm
    have hPP := hP
    unfold OKP at hPP
    refine m_iload F rfl e_X10_worthBy_22 ?_
    refine m_iload_n F rfl e_X10_worthBy_24 ?_
    refine m_icmp_lt F e_X10_worthBy_25 (fun q25 => ?_) (fun q25 => ?_)
    · have c25 : i < n902 := (nI_ltI (a := i) (b := n902) (by omega) (by omega)).mp q25
      refine m_lload F rfl e_X10_worthBy_110 ?_
      exact m_lret F hQ e_X10_worthBy_112 (⟨h1, _, rfl⟩)
    · have c25 : i ≥ n902 := by have hh := mt (nI_ltI (a := i) (b := n902) (by omega) (by omega)).mpr q25; omega
      refine m_lload F rfl e_X10_worthBy_28 ?_
      refine m_lconst F (v := 0) (by decide) e_X10_worthBy_30 ?_
      refine m_lcmp F e_X10_worthBy_31 ?_
      refine Wm.top (fun x4430 _ => ?_)
      refine m_if_ge F e_X10_worthBy_32 (fun q32 => ?_) (fun q32 => ?_)
      · obtain ⟨n4431, hn4431, rfl⟩ := nI_nn (x := x4430) (fun e => Int32.lt_irrefl (Int32.lt_of_lt_of_le e (Int32.le_trans (by decide) q32)))
        have c32 : n4431 ≥ 0 := (nI_leI (a := 0) (b := n4431) (by omega) (by omega)).mp q32
        refine m_lload F rfl e_X10_worthBy_53 ?_
        refine m_lstore F (lv' := [(11, .long x904), (10, .int (nI i)), (8, .long u1), (7, .int (nI (160 * n901))), (0, .ref c), (1, .int (nI n901)), (2, .int (nI n902)), (3, .long (lN n903)), (5, .long x904)]) e_X10_worthBy_55 (by decide) rfl ?_
        refine m_aload_n F rfl e_X10_worthBy_57 ?_
        refine m_iload_n F rfl e_X10_worthBy_58 ?_
        refine r_callV F e_X10_worthBy_59 (q_X10_isEarly (x_l X) V c T Z u h P L _ _ n901 h1.1 (hob) hP (by omega)) cb_X10_isEarly ml_X10_236 im_X10_isEarly se_X10_isEarly h1 rfl rfl (rest := []) rfl (Nat.le_of_ble_eq_true rfl) ⟨Nat.le_of_ble_eq_true rfl, Nat.le_of_ble_eq_true rfl⟩ ⟨Nat.le_of_ble_eq_true rfl, Nat.le_of_ble_eq_true rfl⟩ (fun r σ4432 hp => ?_)
        obtain ⟨h4433, n4435, hn4435, rfl⟩ := hp
        have h4434 := HS.trans h1 h4433 (by decide)
        refine m_if_eq F e_X10_worthBy_62 (fun q62 => ?_) (fun q62 => ?_)
        · have c62 : n4435 = 0 := (nI_eq (a := n4435) (b := 0) (by omega) (by omega)).mp q62
          refine m_lload F rfl e_X10_worthBy_85 ?_
          refine m_lload F rfl e_X10_worthBy_87 ?_
          refine m_ladd F e_X10_worthBy_89 ?_
          refine Wm.topl (fun x4436 _ => ?_)
          refine m_ldc2 F kc_X10_239 e_X10_worthBy_90 ?_
          refine m_lmul F e_X10_worthBy_93 ?_
          refine Wm.topl (fun x4437 _ => ?_)
          refine m_ldc2 F kc_X10_239 e_X10_worthBy_94 ?_
          refine m_lload_n F rfl e_X10_worthBy_97 ?_
          refine m_ladd F e_X10_worthBy_98 ?_
          refine Wm.toplE (w := lN (1000000 + n903)) (lN_add 1000000 n903) ?_
          refine m_callS F e_X10_worthBy_99 (q_X10_rounded (x_l X) V _ _ x4437 (1000000 + n903) (by omega) (by first | omega | assumption | decide)) cb_X10_rounded ml_X10_241 sm_X10_rounded rfl (rest := []) rfl (Nat.le_of_ble_eq_true rfl) ⟨Nat.le_of_ble_eq_true rfl, Nat.le_of_ble_eq_true rfl⟩ ⟨Nat.le_of_ble_eq_true rfl, Nat.le_of_ble_eq_true rfl⟩ (k' := 0) (z' := 0) (N' := N) rfl rfl rfl (fun r σ4438 hp => ?_)
          obtain ⟨rfl, x4441, rfl⟩ := hp
          refine m_lstore F (lv' := [(8, .long x4441), (11, .long x904), (10, .int (nI i)), (7, .int (nI (160 * n901))), (0, .ref c), (1, .int (nI n901)), (2, .int (nI n902)), (3, .long (lN n903)), (5, .long x904)]) e_X10_worthBy_102 (by decide) rfl ?_
          refine m_iinc F (v := nI (i - 1)) (lv' := [(10, .int (nI (i - 1))), (8, .long x4441), (11, .long x904), (7, .int (nI (160 * n901))), (0, .ref c), (1, .int (nI n901)), (2, .int (nI n902)), (3, .long (lN n903)), (5, .long x904)]) e_X10_worthBy_104 rfl (nI_dec (by omega)) (by decide) rfl ?_
          refine m_goto F e_X10_worthBy_107 ?_
          refine Wm.lvsub (lv' := [(10, .int (nI (i - 1))), (8, .long x4441), (7, .int (nI (160 * n901))), (0, .ref c), (1, .int (nI n901)), (2, .int (nI n902)), (3, .long (lN n903)), (5, .long x904)]) ?_ [0, 1, 3, 4, 5, 6, 7, 8] rfl
          exact ih (i - 1) x4441 _ h4434 (by omega) (by omega)
        · have c62 : n4435 ≠ 0 := by have hh := mt (nI_eq (a := n4435) (b := 0) (by omega) (by omega)).mpr q62; omega
          refine m_lload F rfl e_X10_worthBy_65 ?_
          refine m_lload F rfl e_X10_worthBy_67 ?_
          refine m_ldc2 F kc_X10_239 e_X10_worthBy_69 ?_
          refine m_lmul F e_X10_worthBy_72 ?_
          refine Wm.topl (fun x4442 _ => ?_)
          refine m_ldc2 F kc_X10_239 e_X10_worthBy_73 ?_
          refine m_lload_n F rfl e_X10_worthBy_76 ?_
          refine m_ladd F e_X10_worthBy_77 ?_
          refine Wm.toplE (w := lN (1000000 + n903)) (lN_add 1000000 n903) ?_
          refine m_callS F e_X10_worthBy_78 (q_X10_rounded (x_l X) V _ _ x4442 (1000000 + n903) (by omega) (by first | omega | assumption | decide)) cb_X10_rounded ml_X10_241 sm_X10_rounded rfl (rest := [.long x904]) rfl (Nat.le_of_ble_eq_true rfl) ⟨Nat.le_of_ble_eq_true rfl, Nat.le_of_ble_eq_true rfl⟩ ⟨Nat.le_of_ble_eq_true rfl, Nat.le_of_ble_eq_true rfl⟩ (k' := 0) (z' := 0) (N' := N) rfl rfl rfl (fun r σ4443 hp => ?_)
          obtain ⟨rfl, x4446, rfl⟩ := hp
          refine m_ladd F e_X10_worthBy_81 ?_
          refine Wm.topl (fun x4447 _ => ?_)
          refine m_goto F e_X10_worthBy_82 ?_
          refine m_lstore F (lv' := [(8, .long x4447), (11, .long x904), (10, .int (nI i)), (7, .int (nI (160 * n901))), (0, .ref c), (1, .int (nI n901)), (2, .int (nI n902)), (3, .long (lN n903)), (5, .long x904)]) e_X10_worthBy_102 (by decide) rfl ?_
          refine m_iinc F (v := nI (i - 1)) (lv' := [(10, .int (nI (i - 1))), (8, .long x4447), (11, .long x904), (7, .int (nI (160 * n901))), (0, .ref c), (1, .int (nI n901)), (2, .int (nI n902)), (3, .long (lN n903)), (5, .long x904)]) e_X10_worthBy_104 rfl (nI_dec (by omega)) (by decide) rfl ?_
          refine m_goto F e_X10_worthBy_107 ?_
          refine Wm.lvsub (lv' := [(10, .int (nI (i - 1))), (8, .long x4447), (7, .int (nI (160 * n901))), (0, .ref c), (1, .int (nI n901)), (2, .int (nI n902)), (3, .long (lN n903)), (5, .long x904)]) ?_ [0, 1, 3, 4, 5, 6, 7, 8] rfl
          exact ih (i - 1) x4447 _ h4434 (by omega) (by omega)
      · refine m_aload_n F rfl e_X10_worthBy_35 ?_
        refine r_get F e_X10_worthBy_36 fl_X10_59 h1 rfl (fun v hv f4448 => ?_)
        obtain rfl : v = .ref (c + 16) := hv
        refine m_iload F rfl e_X10_worthBy_39 ?_
        refine m_bipush F (v := 13) (by decide) e_X10_worthBy_41 ?_
        refine m_iadd F e_X10_worthBy_43 ?_
        refine Wm.topE (w := nI (160 * n901 + 13)) (nI_add (160 * n901) 13) ?_
        refine m_iload F rfl e_X10_worthBy_44 ?_
        refine m_iadd F e_X10_worthBy_46 ?_
        refine Wm.topE (w := nI ((160 * n901 + 13) + i)) (nI_add (160 * n901 + 13) i) ?_
        refine m_iconst F (v := 1) (by decide) e_X10_worthBy_47 ?_
        refine m_isub F e_X10_worthBy_48 ?_
        refine Wm.topE (w := nI (((160 * n901 + 13) + i) - 1)) (pk_sub (a := (160 * n901 + 13) + i) (b := 1) (by omega)) ?_
        refine r_sld F (j := ((160 * n901 + 13) + i) - 1) e_X10_worthBy_49 h1 (nI_clamp (by omega)) (vp_in_nI (by omega) (by decide)) (fun x4449 h4450 f4451 => ?_)
        refine m_goto F e_X10_worthBy_50 ?_
        refine m_lstore F (lv' := [(11, .long x4449), (10, .int (nI i)), (8, .long u1), (7, .int (nI (160 * n901))), (0, .ref c), (1, .int (nI n901)), (2, .int (nI n902)), (3, .long (lN n903)), (5, .long x904)]) e_X10_worthBy_55 (by decide) rfl ?_
        refine m_aload_n F rfl e_X10_worthBy_57 ?_
        refine m_iload_n F rfl e_X10_worthBy_58 ?_
        refine r_callV F e_X10_worthBy_59 (q_X10_isEarly (x_l X) V c T Z u h P L _ _ n901 h1.1 (hob) hP (by omega)) cb_X10_isEarly ml_X10_236 im_X10_isEarly se_X10_isEarly h1 rfl rfl (rest := []) rfl (Nat.le_of_ble_eq_true rfl) ⟨Nat.le_of_ble_eq_true rfl, Nat.le_of_ble_eq_true rfl⟩ ⟨Nat.le_of_ble_eq_true rfl, Nat.le_of_ble_eq_true rfl⟩ (fun r σ4452 hp => ?_)
        obtain ⟨h4453, n4455, hn4455, rfl⟩ := hp
        have h4454 := HS.trans h1 h4453 (by decide)
        refine m_if_eq F e_X10_worthBy_62 (fun q62 => ?_) (fun q62 => ?_)
        · have c62 : n4455 = 0 := (nI_eq (a := n4455) (b := 0) (by omega) (by omega)).mp q62
          refine m_lload F rfl e_X10_worthBy_85 ?_
          refine m_lload F rfl e_X10_worthBy_87 ?_
          refine m_ladd F e_X10_worthBy_89 ?_
          refine Wm.topl (fun x4456 _ => ?_)
          refine m_ldc2 F kc_X10_239 e_X10_worthBy_90 ?_
          refine m_lmul F e_X10_worthBy_93 ?_
          refine Wm.topl (fun x4457 _ => ?_)
          refine m_ldc2 F kc_X10_239 e_X10_worthBy_94 ?_
          refine m_lload_n F rfl e_X10_worthBy_97 ?_
          refine m_ladd F e_X10_worthBy_98 ?_
          refine Wm.toplE (w := lN (1000000 + n903)) (lN_add 1000000 n903) ?_
          refine m_callS F e_X10_worthBy_99 (q_X10_rounded (x_l X) V _ _ x4457 (1000000 + n903) (by omega) (by first | omega | assumption | decide)) cb_X10_rounded ml_X10_241 sm_X10_rounded rfl (rest := []) rfl (Nat.le_of_ble_eq_true rfl) ⟨Nat.le_of_ble_eq_true rfl, Nat.le_of_ble_eq_true rfl⟩ ⟨Nat.le_of_ble_eq_true rfl, Nat.le_of_ble_eq_true rfl⟩ (k' := 0) (z' := 0) (N' := N) rfl rfl rfl (fun r σ4458 hp => ?_)
          obtain ⟨rfl, x4461, rfl⟩ := hp
          refine m_lstore F (lv' := [(8, .long x4461), (11, .long x4449), (10, .int (nI i)), (7, .int (nI (160 * n901))), (0, .ref c), (1, .int (nI n901)), (2, .int (nI n902)), (3, .long (lN n903)), (5, .long x904)]) e_X10_worthBy_102 (by decide) rfl ?_
          refine m_iinc F (v := nI (i - 1)) (lv' := [(10, .int (nI (i - 1))), (8, .long x4461), (11, .long x4449), (7, .int (nI (160 * n901))), (0, .ref c), (1, .int (nI n901)), (2, .int (nI n902)), (3, .long (lN n903)), (5, .long x904)]) e_X10_worthBy_104 rfl (nI_dec (by omega)) (by decide) rfl ?_
          refine m_goto F e_X10_worthBy_107 ?_
          refine Wm.lvsub (lv' := [(10, .int (nI (i - 1))), (8, .long x4461), (7, .int (nI (160 * n901))), (0, .ref c), (1, .int (nI n901)), (2, .int (nI n902)), (3, .long (lN n903)), (5, .long x904)]) ?_ [0, 1, 3, 4, 5, 6, 7, 8] rfl
          exact ih (i - 1) x4461 _ h4454 (by omega) (by omega)
        · have c62 : n4455 ≠ 0 := by have hh := mt (nI_eq (a := n4455) (b := 0) (by omega) (by omega)).mpr q62; omega
          refine m_lload F rfl e_X10_worthBy_65 ?_
          refine m_lload F rfl e_X10_worthBy_67 ?_
          refine m_ldc2 F kc_X10_239 e_X10_worthBy_69 ?_
          refine m_lmul F e_X10_worthBy_72 ?_
          refine Wm.topl (fun x4462 _ => ?_)
          refine m_ldc2 F kc_X10_239 e_X10_worthBy_73 ?_
          refine m_lload_n F rfl e_X10_worthBy_76 ?_
          refine m_ladd F e_X10_worthBy_77 ?_
          refine Wm.toplE (w := lN (1000000 + n903)) (lN_add 1000000 n903) ?_
          refine m_callS F e_X10_worthBy_78 (q_X10_rounded (x_l X) V _ _ x4462 (1000000 + n903) (by omega) (by first | omega | assumption | decide)) cb_X10_rounded ml_X10_241 sm_X10_rounded rfl (rest := [.long x4449]) rfl (Nat.le_of_ble_eq_true rfl) ⟨Nat.le_of_ble_eq_true rfl, Nat.le_of_ble_eq_true rfl⟩ ⟨Nat.le_of_ble_eq_true rfl, Nat.le_of_ble_eq_true rfl⟩ (k' := 0) (z' := 0) (N' := N) rfl rfl rfl (fun r σ4463 hp => ?_)
          obtain ⟨rfl, x4466, rfl⟩ := hp
          refine m_ladd F e_X10_worthBy_81 ?_
          refine Wm.topl (fun x4467 _ => ?_)
          refine m_goto F e_X10_worthBy_82 ?_
          refine m_lstore F (lv' := [(8, .long x4467), (11, .long x4449), (10, .int (nI i)), (7, .int (nI (160 * n901))), (0, .ref c), (1, .int (nI n901)), (2, .int (nI n902)), (3, .long (lN n903)), (5, .long x904)]) e_X10_worthBy_102 (by decide) rfl ?_
          refine m_iinc F (v := nI (i - 1)) (lv' := [(10, .int (nI (i - 1))), (8, .long x4467), (11, .long x4449), (7, .int (nI (160 * n901))), (0, .ref c), (1, .int (nI n901)), (2, .int (nI n902)), (3, .long (lN n903)), (5, .long x904)]) e_X10_worthBy_104 rfl (nI_dec (by omega)) (by decide) rfl ?_
          refine m_goto F e_X10_worthBy_107 ?_
          refine Wm.lvsub (lv' := [(10, .int (nI (i - 1))), (8, .long x4467), (7, .int (nI (160 * n901))), (0, .ref c), (1, .int (nI n901)), (2, .int (nI n902)), (3, .long (lN n903)), (5, .long x904)]) ?_ [0, 1, 3, 4, 5, 6, 7, 8] rfl
          exact ih (i - 1) x4467 _ h4454 (by omega) (by omega)
set_option maxRecDepth 20000 in
theorem q_X10_worthBy (l : Launch) (V : VX) (c T Z u h : Nat) (P : NP) (L : Nat → LQ) (N : Nat) (σ : Mem) (n901 : Nat) (n902 : Nat) (n903 : Nat) (x904 : Int64) (h0 : HR V c ⟨T, Z, u, h, P, L⟩ σ) (hob : OKB L) (hP : OKP P) (hn901 : n901 ≤ 3) (hn902 : n902 ≤ 100) (hn903 : n903 ≤ 1000000) (hp0 : 1 ≤ n902) : Ct l V yX10_worthBy cX10_worthBy 13 (some .long) 1 0 0 N σ [.ref c, .int (nI n901), .int (nI n902), .long (lN n903), .long x904] (fun r τ => HS V c (⟨T, Z, u, h, P, L⟩ : RG) [0, 1, 2, 3, 4, 5, 6, 7, 8, 9, 10, 11, 12, 13, 14, 15, 16, 17, 18, 19, 20, 21, 22, 23] σ τ ∧ ∃ x : Int64, r = some (.long x)) := by
  refine Ct.of (by decide) (Nat.le_of_ble_eq_true rfl) [(0, .ref c), (1, .int (nI n901)), (2, .int (nI n902)), (3, .long (lN n903)), (5, .long x904)] rfl (fun X hX F hQ => ?_)
  have hPP := hP
  unfold OKP at hPP
  have h1 : HS V c ⟨T, Z, u, h, P, L⟩ [0, 1, 2, 3, 4, 5, 6, 7, 8, 9, 10, 11, 12, 13, 14, 15, 16, 17, 18, 19, 20, 21, 22, 23] σ σ := HS.start h0
  refine m_sipush F (v := 160) (by decide) e_X10_worthBy_0 ?_
  refine m_iload_n F rfl e_X10_worthBy_3 ?_
  refine m_imul F e_X10_worthBy_4 ?_
  refine Wm.topE (w := nI (160 * n901)) (pk_mul 160 n901) ?_
  refine m_istore F (lv' := [(7, .int (nI (160 * n901))), (0, .ref c), (1, .int (nI n901)), (2, .int (nI n902)), (3, .long (lN n903)), (5, .long x904)]) e_X10_worthBy_5 (by decide) rfl ?_
  refine m_lconst F (v := 0) (by decide) e_X10_worthBy_7 ?_
  refine m_lstore F (lv' := [(8, .long 0), (7, .int (nI (160 * n901))), (0, .ref c), (1, .int (nI n901)), (2, .int (nI n902)), (3, .long (lN n903)), (5, .long x904)]) e_X10_worthBy_8 (by decide) rfl ?_
  refine m_aload_n F rfl e_X10_worthBy_10 ?_
  refine r_get F e_X10_worthBy_11 fl_X10_59 h1 rfl (fun v hv f4468 => ?_)
  obtain rfl : v = .ref (c + 16) := hv
  refine m_iload F rfl e_X10_worthBy_14 ?_
  refine m_iconst F (v := 1) (by decide) e_X10_worthBy_16 ?_
  refine m_iadd F e_X10_worthBy_17 ?_
  refine Wm.topE (w := nI (160 * n901 + 1)) (nI_add (160 * n901) 1) ?_
  refine r_sld F (j := 160 * n901 + 1) e_X10_worthBy_18 h1 (nI_clamp (by omega)) (vp_in_nI (by omega) (by decide)) (fun x4469 h4470 f4471 => ?_)
  have hl4472 := hob.2 n901 (by omega)
  obtain rfl : x4469 = lN (L n901).2.1 := (EJ_l (l := n901) (r := 1) (by omega) (by decide)).mp h4470
  refine m_l2i F e_X10_worthBy_19 ?_
  refine Wm.topE (w := nI ((L n901).2.1)) (lN_i ((L n901).2.1)) ?_
  refine m_istore F (lv' := [(10, .int (nI ((L n901).2.1))), (8, .long 0), (7, .int (nI (160 * n901))), (0, .ref c), (1, .int (nI n901)), (2, .int (nI n902)), (3, .long (lN n903)), (5, .long x904)]) e_X10_worthBy_20 (by decide) rfl ?_
  exact lq_X10_worthBy_22 F hQ hob hP hn901 hn902 hn903 hp0 (((L n901).2.1) + 1) ((L n901).2.1) 0 _ h1 (by omega) (Nat.lt_succ_self _)
set_option maxRecDepth 20000 in
theorem q_X10_left (l : Launch) (V : VX) (c T Z u h : Nat) (P : NP) (L : Nat → LQ) (N : Nat) (σ : Mem) (n901 : Nat) (h0 : HR V c ⟨T, Z, u, h, P, L⟩ σ) (hob : OKB L) (hP : OKP P) (hn901 : n901 ≤ 3) : Ct l V yX10_left cX10_left 2 (some .int) 0 0 0 N σ [.ref c, .int (nI n901)] (fun r τ => HS V c (⟨T, Z, u, h, P, L⟩ : RG) [0, 1, 2, 3, 4, 5, 6, 7, 8, 9, 10, 11, 12, 13, 14, 15, 16, 17, 18, 19, 20, 21, 22, 23] σ τ ∧ ∃ x : Int32, r = some (.int x)) := by
  refine Ct.of (by decide) (Nat.le_of_ble_eq_true rfl) [(0, .ref c), (1, .int (nI n901))] rfl (fun X hX F hQ => ?_)
  have hPP := hP
  unfold OKP at hPP
  have h1 : HS V c ⟨T, Z, u, h, P, L⟩ [0, 1, 2, 3, 4, 5, 6, 7, 8, 9, 10, 11, 12, 13, 14, 15, 16, 17, 18, 19, 20, 21, 22, 23] σ σ := HS.start h0
  refine m_aload_n F rfl e_X10_left_0 ?_
  refine r_get F e_X10_left_1 fl_X10_59 h1 rfl (fun v hv f4473 => ?_)
  obtain rfl : v = .ref (c + 16) := hv
  refine m_sipush F (v := 160) (by decide) e_X10_left_4 ?_
  refine m_iload_n F rfl e_X10_left_7 ?_
  refine m_imul F e_X10_left_8 ?_
  refine Wm.topE (w := nI (160 * n901)) (pk_mul 160 n901) ?_
  refine m_iconst F (v := 1) (by decide) e_X10_left_9 ?_
  refine m_iadd F e_X10_left_10 ?_
  refine Wm.topE (w := nI (160 * n901 + 1)) (nI_add (160 * n901) 1) ?_
  refine r_sld F (j := 160 * n901 + 1) e_X10_left_11 h1 (nI_clamp (by omega)) (vp_in_nI (by omega) (by decide)) (fun x4474 h4475 f4476 => ?_)
  have hl4477 := hob.2 n901 (by omega)
  obtain rfl : x4474 = lN (L n901).2.1 := (EJ_l (l := n901) (r := 1) (by omega) (by decide)).mp h4475
  refine m_aload_n F rfl e_X10_left_12 ?_
  refine r_getC F e_X10_left_13 fl_X10_59 h1 (f4473) ?_
  refine m_sipush F (v := 160) (by decide) e_X10_left_16 ?_
  refine m_iload_n F rfl e_X10_left_19 ?_
  refine m_imul F e_X10_left_20 ?_
  refine Wm.topE (w := nI (160 * n901)) (pk_mul 160 n901) ?_
  refine m_iconst F (v := 5) (by decide) e_X10_left_21 ?_
  refine m_iadd F e_X10_left_22 ?_
  refine Wm.topE (w := nI (160 * n901 + 5)) (nI_add (160 * n901) 5) ?_
  refine r_sld F (j := 160 * n901 + 5) e_X10_left_23 h1 (nI_clamp (by omega)) (vp_in_nI (by omega) (by decide)) (fun x4478 h4479 f4480 => ?_)
  have hl4481 := hob.2 n901 (by omega)
  obtain rfl : x4478 = lN (L n901).2.2.2 := (EJ_l (l := n901) (r := 5) (by omega) (by decide)).mp h4479
  refine m_lsub F e_X10_left_24 ?_
  refine Wm.topl (fun x4482 _ => ?_)
  refine m_l2i F e_X10_left_25 ?_
  refine Wm.top (fun x4483 _ => ?_)
  exact m_iret F hQ e_X10_left_26 (⟨h1, _, rfl⟩)
set_option maxRecDepth 20000 in
theorem q_X10_leftOn (l : Launch) (V : VX) (c T Z u h : Nat) (P : NP) (L : Nat → LQ) (N : Nat) (σ : Mem) (n901 : Nat) (h0 : HR V c ⟨T, Z, u, h, P, L⟩ σ) (hob : OKB L) (hP : OKP P) (hn901 : n901 ≤ 3) (hp0 : (L n901).2.2.2 ≤ (L n901).2.1) : Ct l V yX10_left cX10_left 2 (some .int) 0 0 0 N σ [.ref c, .int (nI n901)] (fun r τ => HS V c (⟨T, Z, u, h, P, L⟩ : RG) [0, 1, 2, 3, 4, 5, 6, 7, 8, 9, 10, 11, 12, 13, 14, 15, 16, 17, 18, 19, 20, 21, 22, 23] σ τ ∧ r = some (.int (nI ((L n901).2.1 - (L n901).2.2.2)))) := by
  refine Ct.of (by decide) (Nat.le_of_ble_eq_true rfl) [(0, .ref c), (1, .int (nI n901))] rfl (fun X hX F hQ => ?_)
  have hPP := hP
  unfold OKP at hPP
  have h1 : HS V c ⟨T, Z, u, h, P, L⟩ [0, 1, 2, 3, 4, 5, 6, 7, 8, 9, 10, 11, 12, 13, 14, 15, 16, 17, 18, 19, 20, 21, 22, 23] σ σ := HS.start h0
  refine m_aload_n F rfl e_X10_left_0 ?_
  refine r_get F e_X10_left_1 fl_X10_59 h1 rfl (fun v hv f4484 => ?_)
  obtain rfl : v = .ref (c + 16) := hv
  refine m_sipush F (v := 160) (by decide) e_X10_left_4 ?_
  refine m_iload_n F rfl e_X10_left_7 ?_
  refine m_imul F e_X10_left_8 ?_
  refine Wm.topE (w := nI (160 * n901)) (pk_mul 160 n901) ?_
  refine m_iconst F (v := 1) (by decide) e_X10_left_9 ?_
  refine m_iadd F e_X10_left_10 ?_
  refine Wm.topE (w := nI (160 * n901 + 1)) (nI_add (160 * n901) 1) ?_
  refine r_sld F (j := 160 * n901 + 1) e_X10_left_11 h1 (nI_clamp (by omega)) (vp_in_nI (by omega) (by decide)) (fun x4485 h4486 f4487 => ?_)
  have hl4488 := hob.2 n901 (by omega)
  obtain rfl : x4485 = lN (L n901).2.1 := (EJ_l (l := n901) (r := 1) (by omega) (by decide)).mp h4486
  refine m_aload_n F rfl e_X10_left_12 ?_
  refine r_getC F e_X10_left_13 fl_X10_59 h1 (f4484) ?_
  refine m_sipush F (v := 160) (by decide) e_X10_left_16 ?_
  refine m_iload_n F rfl e_X10_left_19 ?_
  refine m_imul F e_X10_left_20 ?_
  refine Wm.topE (w := nI (160 * n901)) (pk_mul 160 n901) ?_
  refine m_iconst F (v := 5) (by decide) e_X10_left_21 ?_
  refine m_iadd F e_X10_left_22 ?_
  refine Wm.topE (w := nI (160 * n901 + 5)) (nI_add (160 * n901) 5) ?_
  refine r_sld F (j := 160 * n901 + 5) e_X10_left_23 h1 (nI_clamp (by omega)) (vp_in_nI (by omega) (by decide)) (fun x4489 h4490 f4491 => ?_)
  have hl4492 := hob.2 n901 (by omega)
  obtain rfl : x4489 = lN (L n901).2.2.2 := (EJ_l (l := n901) (r := 5) (by omega) (by decide)).mp h4490
  refine m_lsub F e_X10_left_24 ?_
  refine Wm.toplE (w := lN (((L n901).2.1) - ((L n901).2.2.2))) (lN_sub (a := (L n901).2.1) (b := (L n901).2.2.2) (by omega)) ?_
  refine m_l2i F e_X10_left_25 ?_
  refine Wm.topE (w := nI (((L n901).2.1) - ((L n901).2.2.2))) (lN_i (((L n901).2.1) - ((L n901).2.2.2))) ?_
  exact m_iret F hQ e_X10_left_26 (⟨h1, rfl⟩)
set_option maxRecDepth 20000 in
theorem lq_X10_entry_129 {V : VX} {X : MX} {N : Nat} {σ : Mem} {c T Z u h : Nat} {P : NP} {L : Nat → LQ}  {x901 : Int32} {x902 : Int32} {x903 : Int64} {x904 : Int64} {x905 : Int64} {x906 : Int64} {x907 : Int64} {x908 : Int64} (F : Fx V X yX10_entry cX10_entry 16 none (rmd 0 0 0)) (hQ : Rt V X 0 0 N (fun r τ => HS V c (⟨T, Z, u, h, P, L⟩ : RG) [0, 1, 2, 3, 4, 5, 6, 7, 8, 9, 10, 11, 12, 13, 14, 15, 16, 18, 19, 20, 21, 22] σ τ ∧ r = none)) (hob : OKB L) (hP : OKP P)   : ∀ (fuel : Nat) (i : Nat) (τ : Mem), HS V c (⟨T, Z, u, h, P, L⟩ : RG) [0, 1, 2, 3, 4, 5, 6, 7, 8, 9, 10, 11, 12, 13, 14, 15, 16, 18, 19, 20, 21, 22] σ τ → i ≤ 6 → 6 - i < fuel → Wm V X 16 N τ 0 0 129 [(15, .int (nI i)), (0, .ref c), (1, .int x901), (2, .int x902), (3, .long x903), (5, .long x904), (7, .long x905), (9, .long x906), (11, .long x907), (13, .long x908)] [] := by
  intro fuel
  induction fuel with
  | zero => intros; rename_i hm; exact absurd hm (Nat.not_lt_zero _)
  | succ fuel ih =>
    intro i τ h1 hi hm
    have hPP := hP
    unfold OKP at hPP
    refine m_iload F rfl e_X10_entry_129 ?_
    refine m_bipush F (v := 6) (by decide) e_X10_entry_131 ?_
    refine m_icmp_ge F e_X10_entry_133 (fun q133 => ?_) (fun q133 => ?_)
    · have c133 : i ≥ 6 := (nI_leI (a := 6) (b := i) (by omega) (by omega)).mp q133
      refine m_aload_n F rfl e_X10_entry_181 ?_
      refine r_get F e_X10_entry_182 fl_X10_59 h1 rfl (fun v hv f4493 => ?_)
      obtain rfl : v = .ref (c + 16) := hv
      refine m_sipush F (v := 752) (by decide) e_X10_entry_185 ?_
      refine m_dup2_11 F rfl rfl e_X10_entry_188 ?_
      refine r_sld F (j := 752) e_X10_entry_189 h1 (by decide) (by unfold vp_in; decide) (fun x4494 h4495 f4496 => ?_)
      refine m_lconst F (v := 1) (by decide) e_X10_entry_190 ?_
      refine m_ladd F e_X10_entry_191 ?_
      refine Wm.topl (fun x4497 _ => ?_)
      refine r_sst F (g' := (⟨T, Z, u, h, P, L⟩ : RG)) (j := 752) e_X10_entry_192 h1 (by decide) (by decide) (by unfold vp_in; decide) (fun f q => EJ_same (EJ_w (by omega)) q) (fun _ _ _ q => q) (fun σ4498 h4499 g4500 => ?_)
      refine m_aload_n F rfl e_X10_entry_193 ?_
      refine r_getC F e_X10_entry_194 fl_X10_59 h4499 ((fld_eq (g4500 _ (by omega))).trans f4493) ?_
      refine m_sipush F (v := 751) (by decide) e_X10_entry_197 ?_
      refine m_aload_n F rfl e_X10_entry_200 ?_
      refine r_getC F e_X10_entry_201 fl_X10_59 h4499 ((fld_eq (g4500 _ (by omega))).trans f4493) ?_
      refine m_sipush F (v := 751) (by decide) e_X10_entry_204 ?_
      refine r_sld F (j := 751) e_X10_entry_207 h4499 (by decide) (by unfold vp_in; decide) (fun x4501 h4502 f4503 => ?_)
      obtain ⟨n4504, hn4504, rfl⟩ := EJ_m.mp h4502
      refine m_ldc2 F kc_X10_251 e_X10_entry_208 ?_
      refine m_lcmp F e_X10_entry_211 ?_
      refine m_if_ge F e_X10_entry_212 (fun q212 => ?_) (fun q212 => ?_)
      · have c212 : n4504 ≥ 40 := (lN_le (a := 40) (b := n4504) (by omega) (by omega)).mp ((lg_cmp_ge _ _).mp q212)
        refine m_ldc2 F kc_X10_251 e_X10_entry_228 ?_
        refine r_sst F (g' := (⟨T, Z, u, h, P, L⟩ : RG)) (j := 751) e_X10_entry_231 h4499 (by decide) (by decide) (by unfold vp_in; decide) (fun f q => EJ_same (EJ_m.mpr ⟨40, by omega, rfl⟩) q) (fun _ _ _ q => q) (fun σ4505 h4506 g4507 => ?_)
        exact m_vret F hQ e_X10_entry_232 (⟨h4506, rfl⟩)
      · have c212 : n4504 < 40 := by have hh := mt (fun h9 => (lg_cmp_ge (lN n4504) (lN 40)).mpr ((lN_le (a := 40) (b := n4504) (by omega) (by omega)).mpr h9)) q212; omega
        refine m_aload_n F rfl e_X10_entry_215 ?_
        refine r_getC F e_X10_entry_216 fl_X10_59 h4499 ((fld_eq (g4500 _ (by omega))).trans f4493) ?_
        refine m_sipush F (v := 751) (by decide) e_X10_entry_219 ?_
        refine r_sld F (j := 751) e_X10_entry_222 h4499 (by decide) (by unfold vp_in; decide) (fun x4508 h4509 f4510 => ?_)
        obtain rfl := Option.some.inj ((f4510).symm.trans (f4503))
        refine m_lconst F (v := 1) (by decide) e_X10_entry_223 ?_
        refine m_ladd F e_X10_entry_224 ?_
        refine Wm.toplE (w := lN (n4504 + 1)) (lN_add n4504 1) ?_
        refine m_goto F e_X10_entry_225 ?_
        refine r_sst F (g' := (⟨T, Z, u, h, P, L⟩ : RG)) (j := 751) e_X10_entry_231 h4499 (by decide) (by decide) (by unfold vp_in; decide) (fun f q => EJ_same (EJ_m.mpr ⟨n4504 + 1, by omega, rfl⟩) q) (fun _ _ _ q => q) (fun σ4511 h4512 g4513 => ?_)
        exact m_vret F hQ e_X10_entry_232 (⟨h4512, rfl⟩)
    · have c133 : i < 6 := by have hh := mt (nI_leI (a := 6) (b := i) (by omega) (by omega)).mpr q133; omega
      refine m_aload_n F rfl e_X10_entry_136 ?_
      refine r_get F e_X10_entry_137 fl_X10_59 h1 rfl (fun v hv f4514 => ?_)
      obtain rfl : v = .ref (c + 16) := hv
      refine m_sipush F (v := 756) (by decide) e_X10_entry_140 ?_
      refine m_iload F rfl e_X10_entry_143 ?_
      refine m_iadd F e_X10_entry_145 ?_
      refine Wm.topE (w := nI (756 + i)) (nI_add 756 i) ?_
      refine m_aload_n F rfl e_X10_entry_146 ?_
      refine r_get F e_X10_entry_147 fl_X10_79 h1 rfl (fun v hv f4515 => ?_)
      obtain rfl : v = .ref (c + 22) := hv
      refine m_iload F rfl e_X10_entry_150 ?_
      refine r_jld F (q := 22) (len := 6) (j := i) e_X10_entry_152 h1 (fun _ h => h) (by decide) (nI_clamp (by omega)) (vp_in_nI (by omega) (by decide)) (fun x4516 => ?_)
      refine r_sst F (g' := (⟨T, Z, u, h, P, L⟩ : RG)) (j := 756 + i) e_X10_entry_153 h1 (by decide) (nI_clamp (by omega)) (vp_in_nI (by omega) (by decide)) (fun f q => EJ_same (EJ_w (by omega)) q) (fun _ _ _ q => q) (fun σ4517 h4518 g4519 => ?_)
      refine m_aload_n F rfl e_X10_entry_154 ?_
      refine r_getC F e_X10_entry_155 fl_X10_59 h4518 ((fld_eq (g4519 _ (by omega))).trans f4514) ?_
      refine m_sipush F (v := 745) (by decide) e_X10_entry_158 ?_
      refine m_iload F rfl e_X10_entry_161 ?_
      refine m_iadd F e_X10_entry_163 ?_
      refine Wm.topE (w := nI (745 + i)) (nI_add 745 i) ?_
      refine m_dup2_11 F rfl rfl e_X10_entry_164 ?_
      refine r_sld F (j := 745 + i) e_X10_entry_165 h4518 (nI_clamp (by omega)) (vp_in_nI (by omega) (by decide)) (fun x4520 h4521 f4522 => ?_)
      refine m_aload_n F rfl e_X10_entry_166 ?_
      refine r_getC F e_X10_entry_167 fl_X10_79 h4518 ((fld_eq (g4519 _ (by omega))).trans f4515) ?_
      refine m_iload F rfl e_X10_entry_170 ?_
      refine r_jld F (q := 22) (len := 6) (j := i) e_X10_entry_172 h4518 (fun _ h => h) (by decide) (nI_clamp (by omega)) (vp_in_nI (by omega) (by decide)) (fun x4523 => ?_)
      refine m_ladd F e_X10_entry_173 ?_
      refine Wm.topl (fun x4524 _ => ?_)
      refine r_sst F (g' := (⟨T, Z, u, h, P, L⟩ : RG)) (j := 745 + i) e_X10_entry_174 h4518 (by decide) (nI_clamp (by omega)) (vp_in_nI (by omega) (by decide)) (fun f q => EJ_same (EJ_w (by omega)) q) (fun _ _ _ q => q) (fun σ4525 h4526 g4527 => ?_)
      refine m_iinc F (v := nI (i + 1)) (lv' := [(15, .int (nI (i + 1))), (0, .ref c), (1, .int x901), (2, .int x902), (3, .long x903), (5, .long x904), (7, .long x905), (9, .long x906), (11, .long x907), (13, .long x908)]) e_X10_entry_175 rfl (nI_add i 1) (by decide) rfl ?_
      refine m_goto F e_X10_entry_178 ?_
      exact ih (i + 1) _ h4526 (by omega) (by omega)
set_option maxRecDepth 20000 in
theorem lq_X10_entry_52 {V : VX} {X : MX} {N : Nat} {σ : Mem} {c T Z u h : Nat} {P : NP} {L : Nat → LQ}  {x901 : Int32} {x902 : Int32} {x903 : Int64} {x904 : Int64} {x905 : Int64} {x906 : Int64} {x907 : Int64} {x908 : Int64} (F : Fx V X yX10_entry cX10_entry 16 none (rmd 0 0 0)) (hQ : Rt V X 0 0 N (fun r τ => HS V c (⟨T, Z, u, h, P, L⟩ : RG) [0, 1, 2, 3, 4, 5, 6, 7, 8, 9, 10, 11, 12, 13, 14, 15, 16, 18, 19, 20, 21, 22] σ τ ∧ r = none)) (hob : OKB L) (hP : OKP P)   : ∀ (fuel : Nat) (i : Nat) (τ : Mem), HS V c (⟨T, Z, u, h, P, L⟩ : RG) [0, 1, 2, 3, 4, 5, 6, 7, 8, 9, 10, 11, 12, 13, 14, 15, 16, 18, 19, 20, 21, 22] σ τ → i ≤ 359 → i < fuel → Wm V X 16 N τ 0 0 52 [(15, .int (nI i)), (0, .ref c), (1, .int x901), (2, .int x902), (3, .long x903), (5, .long x904), (7, .long x905), (9, .long x906), (11, .long x907), (13, .long x908)] [] := by
  intro fuel
  induction fuel with
  | zero => intros; rename_i hm; exact absurd hm (Nat.not_lt_zero _)
  | succ fuel ih =>
    intro i τ h1 hi hm
    have hPP := hP
    unfold OKP at hPP
    refine m_iload F rfl e_X10_entry_52 ?_
    refine m_bipush F (v := 9) (by decide) e_X10_entry_54 ?_
    refine m_icmp_lt F e_X10_entry_56 (fun q56 => ?_) (fun q56 => ?_)
    · have c56 : i < 9 := (nI_ltI (a := i) (b := 9) (by omega) (by omega)).mp q56
      refine m_aload_n F rfl e_X10_entry_90 ?_
      refine r_get F e_X10_entry_91 fl_X10_59 h1 rfl (fun v hv f4528 => ?_)
      obtain rfl : v = .ref (c + 16) := hv
      refine m_sipush F (v := 753) (by decide) e_X10_entry_94 ?_
      refine m_iload_n F rfl e_X10_entry_97 ?_
      refine m_i2l F e_X10_entry_98 ?_
      refine Wm.topl (fun x4529 _ => ?_)
      refine r_sst F (g' := (⟨T, Z, u, h, P, L⟩ : RG)) (j := 753) e_X10_entry_99 h1 (by decide) (by decide) (by unfold vp_in; decide) (fun f q => EJ_same (EJ_w (by omega)) q) (fun _ _ _ q => q) (fun σ4530 h4531 g4532 => ?_)
      refine m_aload_n F rfl e_X10_entry_100 ?_
      refine r_getC F e_X10_entry_101 fl_X10_59 h4531 ((fld_eq (g4532 _ (by omega))).trans f4528) ?_
      refine m_sipush F (v := 754) (by decide) e_X10_entry_104 ?_
      refine m_aload_n F rfl e_X10_entry_107 ?_
      refine r_getC F e_X10_entry_108 fl_X10_59 h4531 ((fld_eq (g4532 _ (by omega))).trans f4528) ?_
      refine m_sipush F (v := 744) (by decide) e_X10_entry_111 ?_
      refine r_sld F (j := 744) e_X10_entry_114 h4531 (by decide) (by unfold vp_in; decide) (fun x4533 h4534 f4535 => ?_)
      have hl4536 := hob.1
      obtain rfl : x4533 = lN (L 4).1 := EJ_p.mp h4534
      refine r_sst F (g' := (⟨T, Z, u, h, P, L⟩ : RG)) (j := 754) e_X10_entry_115 h4531 (by decide) (by decide) (by unfold vp_in; decide) (fun f q => EJ_same (EJ_w (by omega)) q) (fun _ _ _ q => q) (fun σ4537 h4538 g4539 => ?_)
      refine m_aload_n F rfl e_X10_entry_116 ?_
      refine r_getC F e_X10_entry_117 fl_X10_59 h4538 ((fld_eq (g4539 _ (by omega))).trans ((fld_eq (g4532 _ (by omega))).trans f4528)) ?_
      refine m_sipush F (v := 755) (by decide) e_X10_entry_120 ?_
      refine m_iload_n F rfl e_X10_entry_123 ?_
      refine m_i2l F e_X10_entry_124 ?_
      refine Wm.topl (fun x4540 _ => ?_)
      refine r_sst F (g' := (⟨T, Z, u, h, P, L⟩ : RG)) (j := 755) e_X10_entry_125 h4538 (by decide) (by decide) (by unfold vp_in; decide) (fun f q => EJ_same (EJ_w (by omega)) q) (fun _ _ _ q => q) (fun σ4541 h4542 g4543 => ?_)
      refine m_iconst F (v := 0) (by decide) e_X10_entry_126 ?_
      refine m_istore F (lv' := [(15, .int 0), (0, .ref c), (1, .int x901), (2, .int x902), (3, .long x903), (5, .long x904), (7, .long x905), (9, .long x906), (11, .long x907), (13, .long x908)]) e_X10_entry_127 (by decide) rfl ?_
      exact lq_X10_entry_129 F hQ hob hP  (6 - 0 + 1) 0 _ h4542 (by omega) (Nat.lt_succ_self _)
    · have c56 : i ≥ 9 := by have hh := mt (nI_ltI (a := i) (b := 9) (by omega) (by omega)).mpr q56; omega
      refine m_aload_n F rfl e_X10_entry_59 ?_
      refine r_get F e_X10_entry_60 fl_X10_59 h1 rfl (fun v hv f4544 => ?_)
      obtain rfl : v = .ref (c + 16) := hv
      refine m_sipush F (v := 753) (by decide) e_X10_entry_63 ?_
      refine m_iload F rfl e_X10_entry_66 ?_
      refine m_iadd F e_X10_entry_68 ?_
      refine Wm.topE (w := nI (753 + i)) (nI_add 753 i) ?_
      refine m_aload_n F rfl e_X10_entry_69 ?_
      refine r_getC F e_X10_entry_70 fl_X10_59 h1 (f4544) ?_
      refine m_sipush F (v := 753) (by decide) e_X10_entry_73 ?_
      refine m_iload F rfl e_X10_entry_76 ?_
      refine m_iadd F e_X10_entry_78 ?_
      refine Wm.topE (w := nI (753 + i)) (nI_add 753 i) ?_
      refine m_bipush F (v := 9) (by decide) e_X10_entry_79 ?_
      refine m_isub F e_X10_entry_81 ?_
      refine Wm.topE (w := nI ((753 + i) - 9)) (pk_sub (a := 753 + i) (b := 9) (by omega)) ?_
      refine r_sld F (j := (753 + i) - 9) e_X10_entry_82 h1 (nI_clamp (by omega)) (vp_in_nI (by omega) (by decide)) (fun x4545 h4546 f4547 => ?_)
      refine r_sst F (g' := (⟨T, Z, u, h, P, L⟩ : RG)) (j := 753 + i) e_X10_entry_83 h1 (by decide) (nI_clamp (by omega)) (vp_in_nI (by omega) (by decide)) (fun f q => EJ_same (EJ_w (by omega)) q) (fun _ _ _ q => q) (fun σ4548 h4549 g4550 => ?_)
      refine m_iinc F (v := nI (i - 1)) (lv' := [(15, .int (nI (i - 1))), (0, .ref c), (1, .int x901), (2, .int x902), (3, .long x903), (5, .long x904), (7, .long x905), (9, .long x906), (11, .long x907), (13, .long x908)]) e_X10_entry_84 rfl (nI_dec (by omega)) (by decide) rfl ?_
      refine m_goto F e_X10_entry_87 ?_
      exact ih (i - 1) _ h4549 (by omega) (by omega)
set_option maxRecDepth 20000 in
theorem q_X10_entry (l : Launch) (V : VX) (c T Z u h : Nat) (P : NP) (L : Nat → LQ) (N : Nat) (σ : Mem) (x901 : Int32) (x902 : Int32) (x903 : Int64) (x904 : Int64) (x905 : Int64) (x906 : Int64) (x907 : Int64) (x908 : Int64) (h0 : HR V c ⟨T, Z, u, h, P, L⟩ σ) (hob : OKB L) (hP : OKP P)  : Ct l V yX10_entry cX10_entry 16 none 0 0 0 N σ [.ref c, .int x901, .int x902, .long x903, .long x904, .long x905, .long x906, .long x907, .long x908] (fun r τ => HS V c (⟨T, Z, u, h, P, L⟩ : RG) [0, 1, 2, 3, 4, 5, 6, 7, 8, 9, 10, 11, 12, 13, 14, 15, 16, 18, 19, 20, 21, 22] σ τ ∧ r = none) := by
  refine Ct.of (by decide) (Nat.le_of_ble_eq_true rfl) [(0, .ref c), (1, .int x901), (2, .int x902), (3, .long x903), (5, .long x904), (7, .long x905), (9, .long x906), (11, .long x907), (13, .long x908)] rfl (fun X hX F hQ => ?_)
  have hPP := hP
  unfold OKP at hPP
  have h1 : HS V c ⟨T, Z, u, h, P, L⟩ [0, 1, 2, 3, 4, 5, 6, 7, 8, 9, 10, 11, 12, 13, 14, 15, 16, 18, 19, 20, 21, 22] σ σ := HS.start h0
  refine m_aload_n F rfl e_X10_entry_0 ?_
  refine r_get F e_X10_entry_1 fl_X10_79 h1 rfl (fun v hv f4551 => ?_)
  obtain rfl : v = .ref (c + 22) := hv
  refine m_iconst F (v := 0) (by decide) e_X10_entry_4 ?_
  refine m_lload_n F rfl e_X10_entry_5 ?_
  refine r_jst F (q := 22) (len := 6) (j := 0) e_X10_entry_6 h1 (fun _ h => h) (fun f => ⟨f, rfl⟩) (by decide) (by decide) (by decide) (by unfold vp_in; decide) (fun σ4552 h4553 g4554 => ?_)
  refine m_aload_n F rfl e_X10_entry_7 ?_
  refine r_getC F e_X10_entry_8 fl_X10_79 h4553 ((fld_eq (g4554 _ (by omega))).trans f4551) ?_
  refine m_iconst F (v := 1) (by decide) e_X10_entry_11 ?_
  refine m_lload F rfl e_X10_entry_12 ?_
  refine r_jst F (q := 22) (len := 6) (j := 1) e_X10_entry_14 h4553 (fun _ h => h) (fun f => ⟨f, rfl⟩) (by decide) (by decide) (by decide) (by unfold vp_in; decide) (fun σ4555 h4556 g4557 => ?_)
  refine m_aload_n F rfl e_X10_entry_15 ?_
  refine r_getC F e_X10_entry_16 fl_X10_79 h4556 ((fld_eq (g4557 _ (by omega))).trans ((fld_eq (g4554 _ (by omega))).trans f4551)) ?_
  refine m_iconst F (v := 2) (by decide) e_X10_entry_19 ?_
  refine m_lload F rfl e_X10_entry_20 ?_
  refine r_jst F (q := 22) (len := 6) (j := 2) e_X10_entry_22 h4556 (fun _ h => h) (fun f => ⟨f, rfl⟩) (by decide) (by decide) (by decide) (by unfold vp_in; decide) (fun σ4558 h4559 g4560 => ?_)
  refine m_aload_n F rfl e_X10_entry_23 ?_
  refine r_getC F e_X10_entry_24 fl_X10_79 h4559 ((fld_eq (g4560 _ (by omega))).trans ((fld_eq (g4557 _ (by omega))).trans ((fld_eq (g4554 _ (by omega))).trans f4551))) ?_
  refine m_iconst F (v := 3) (by decide) e_X10_entry_27 ?_
  refine m_lload F rfl e_X10_entry_28 ?_
  refine r_jst F (q := 22) (len := 6) (j := 3) e_X10_entry_30 h4559 (fun _ h => h) (fun f => ⟨f, rfl⟩) (by decide) (by decide) (by decide) (by unfold vp_in; decide) (fun σ4561 h4562 g4563 => ?_)
  refine m_aload_n F rfl e_X10_entry_31 ?_
  refine r_getC F e_X10_entry_32 fl_X10_79 h4562 ((fld_eq (g4563 _ (by omega))).trans ((fld_eq (g4560 _ (by omega))).trans ((fld_eq (g4557 _ (by omega))).trans ((fld_eq (g4554 _ (by omega))).trans f4551)))) ?_
  refine m_iconst F (v := 4) (by decide) e_X10_entry_35 ?_
  refine m_lload F rfl e_X10_entry_36 ?_
  refine r_jst F (q := 22) (len := 6) (j := 4) e_X10_entry_38 h4562 (fun _ h => h) (fun f => ⟨f, rfl⟩) (by decide) (by decide) (by decide) (by unfold vp_in; decide) (fun σ4564 h4565 g4566 => ?_)
  refine m_aload_n F rfl e_X10_entry_39 ?_
  refine r_getC F e_X10_entry_40 fl_X10_79 h4565 ((fld_eq (g4566 _ (by omega))).trans ((fld_eq (g4563 _ (by omega))).trans ((fld_eq (g4560 _ (by omega))).trans ((fld_eq (g4557 _ (by omega))).trans ((fld_eq (g4554 _ (by omega))).trans f4551))))) ?_
  refine m_iconst F (v := 5) (by decide) e_X10_entry_43 ?_
  refine m_lload F rfl e_X10_entry_44 ?_
  refine r_jst F (q := 22) (len := 6) (j := 5) e_X10_entry_46 h4565 (fun _ h => h) (fun f => ⟨f, rfl⟩) (by decide) (by decide) (by decide) (by unfold vp_in; decide) (fun σ4567 h4568 g4569 => ?_)
  refine m_sipush F (v := 359) (by decide) e_X10_entry_47 ?_
  refine m_istore F (lv' := [(15, .int 359), (0, .ref c), (1, .int x901), (2, .int x902), (3, .long x903), (5, .long x904), (7, .long x905), (9, .long x906), (11, .long x907), (13, .long x908)]) e_X10_entry_50 (by decide) rfl ?_
  exact lq_X10_entry_52 F hQ hob hP  (359 + 1) 359 _ h4568 (by omega) (Nat.lt_succ_self _)
