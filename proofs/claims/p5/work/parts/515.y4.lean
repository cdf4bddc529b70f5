theorem MT.nw {so va : Int32} {s v : Nat} (h : MT so va s v) (e : s ≠ 2) : so ≠ 1 := by
  rcases h with h | h | h | h | h | h
  · rw [h.2]; decide
  · rw [h.2.1]; decide
  · exact absurd h.1 e
  · rw [h.2.1]; decide
  · rw [h.2]; decide
  · rw [h.2]; decide
set_option maxRecDepth 20000 in
theorem q_X10_reading1E (l : Launch) (V : VX) (c T Z u h : Nat) (P : NP) (L : Nat → LQ) (N : Nat) (σ : Mem) (np no sd : Nat) (h0 : HR V c ⟨T, Z, u, h, P, L⟩ σ) (hob : OKB L) (hP : OKP P) (hp0 : NR σ c np no sd) : Ct l V yX10_reading cX10_reading 2 (some .int) 0 0 0 N σ [.ref c, .int 1] (fun r τ => HS V c (⟨T, Z, u, h, P, L⟩ : RG) [0, 1, 2, 3, 4, 5, 6, 7, 8, 9, 10, 11, 12, 13, 14, 15, 16, 17, 18, 19, 20, 21, 22, 23] σ τ ∧ r = some (.int (nI np))) := by
  refine Ct.of (by decide) (Nat.le_of_ble_eq_true rfl) [(0, .ref c), (1, .int 1)] rfl (fun X hX F hQ => ?_)
  have hPP := hP
  unfold OKP at hPP
  have h1 : HS V c ⟨T, Z, u, h, P, L⟩ [0, 1, 2, 3, 4, 5, 6, 7, 8, 9, 10, 11, 12, 13, 14, 15, 16, 17, 18, 19, 20, 21, 22, 23] σ σ := HS.start h0
  refine m_aload_n F rfl e_X10_reading_0 ?_
  refine r_get F e_X10_reading_1 fl_X10_13 h1 rfl (fun v hv f11654 => ?_)
  obtain rfl : v = .ref (c + 2) := hv
  refine m_iconst F (v := 5) (by decide) e_X10_reading_4 ?_
  refine m_iload_n F rfl e_X10_reading_5 ?_
  refine m_iadd F e_X10_reading_6 ?_
  refine Wm.topE (w := 6) (by decide) ?_
  refine r_iald F (len := 10) (j := 6) e_X10_reading_7 h1 (fun _ h => h) (by decide) (by decide) (by unfold vp_in; decide) (fun x11655 h11656 f11657 => ?_)
  obtain rfl := Option.some.inj ((f11657).symm.trans (hp0.1))
  exact m_iret F hQ e_X10_reading_8 (⟨h1, rfl⟩)
set_option maxRecDepth 20000 in
theorem q_X10_reading3E (l : Launch) (V : VX) (c T Z u h : Nat) (P : NP) (L : Nat → LQ) (N : Nat) (σ : Mem) (np no sd : Nat) (h0 : HR V c ⟨T, Z, u, h, P, L⟩ σ) (hob : OKB L) (hP : OKP P) (hp0 : NR σ c np no sd) : Ct l V yX10_reading cX10_reading 2 (some .int) 0 0 0 N σ [.ref c, .int 3] (fun r τ => HS V c (⟨T, Z, u, h, P, L⟩ : RG) [0, 1, 2, 3, 4, 5, 6, 7, 8, 9, 10, 11, 12, 13, 14, 15, 16, 17, 18, 19, 20, 21, 22, 23] σ τ ∧ r = some (.int (nI no))) := by
  refine Ct.of (by decide) (Nat.le_of_ble_eq_true rfl) [(0, .ref c), (1, .int 3)] rfl (fun X hX F hQ => ?_)
  have hPP := hP
  unfold OKP at hPP
  have h1 : HS V c ⟨T, Z, u, h, P, L⟩ [0, 1, 2, 3, 4, 5, 6, 7, 8, 9, 10, 11, 12, 13, 14, 15, 16, 17, 18, 19, 20, 21, 22, 23] σ σ := HS.start h0
  refine m_aload_n F rfl e_X10_reading_0 ?_
  refine r_get F e_X10_reading_1 fl_X10_13 h1 rfl (fun v hv f11658 => ?_)
  obtain rfl : v = .ref (c + 2) := hv
  refine m_iconst F (v := 5) (by decide) e_X10_reading_4 ?_
  refine m_iload_n F rfl e_X10_reading_5 ?_
  refine m_iadd F e_X10_reading_6 ?_
  refine Wm.topE (w := 8) (by decide) ?_
  refine r_iald F (len := 10) (j := 8) e_X10_reading_7 h1 (fun _ h => h) (by decide) (by decide) (by unfold vp_in; decide) (fun x11659 h11660 f11661 => ?_)
  obtain rfl := Option.some.inj ((f11661).symm.trans (hp0.2.1))
  exact m_iret F hQ e_X10_reading_8 (⟨h1, rfl⟩)
set_option maxRecDepth 20000 in
theorem q_X10_reading4E (l : Launch) (V : VX) (c T Z u h : Nat) (P : NP) (L : Nat → LQ) (N : Nat) (σ : Mem) (np no sd : Nat) (h0 : HR V c ⟨T, Z, u, h, P, L⟩ σ) (hob : OKB L) (hP : OKP P) (hp0 : NR σ c np no sd) : Ct l V yX10_reading cX10_reading 2 (some .int) 0 0 0 N σ [.ref c, .int 4] (fun r τ => HS V c (⟨T, Z, u, h, P, L⟩ : RG) [0, 1, 2, 3, 4, 5, 6, 7, 8, 9, 10, 11, 12, 13, 14, 15, 16, 17, 18, 19, 20, 21, 22, 23] σ τ ∧ ∃ w, w ≤ 100000 ∧ (w = 0 ↔ sd = 0) ∧ r = some (.int (nI w))) := by
  refine Ct.of (by decide) (Nat.le_of_ble_eq_true rfl) [(0, .ref c), (1, .int 4)] rfl (fun X hX F hQ => ?_)
  have hPP := hP
  unfold OKP at hPP
  have h1 : HS V c ⟨T, Z, u, h, P, L⟩ [0, 1, 2, 3, 4, 5, 6, 7, 8, 9, 10, 11, 12, 13, 14, 15, 16, 17, 18, 19, 20, 21, 22, 23] σ σ := HS.start h0
  obtain ⟨a1, a2, w9, a3, a4, a5⟩ := hp0
  refine m_aload_n F rfl e_X10_reading_0 ?_
  refine r_get F e_X10_reading_1 fl_X10_13 h1 rfl (fun v hv f11662 => ?_)
  obtain rfl : v = .ref (c + 2) := hv
  refine m_iconst F (v := 5) (by decide) e_X10_reading_4 ?_
  refine m_iload_n F rfl e_X10_reading_5 ?_
  refine m_iadd F e_X10_reading_6 ?_
  refine Wm.topE (w := 9) (by decide) ?_
  refine r_iald F (len := 10) (j := 9) e_X10_reading_7 h1 (fun _ h => h) (by decide) (by decide) (by unfold vp_in; decide) (fun x11663 h11664 f11665 => ?_)
  obtain rfl := Option.some.inj ((f11665).symm.trans (a4))
  exact m_iret F hQ e_X10_reading_8 (⟨h1, w9, a3, a5, rfl⟩)
set_option maxRecDepth 20000 in
theorem q_X10_reads0E (l : Launch) (V : VX) (c T Z u h : Nat) (P : NP) (L : Nat → LQ) (N : Nat) (σ : Mem) (n902 : Nat) (h0 : HR V c ⟨T, Z, u, h, P, L⟩ σ) (hob : OKB L) (hP : OKP P) (hn902 : n902 ≤ 4) (hp0 : n902 ≤ P.m5) : Ct l V yX10_reads cX10_reads 3 none 0 0 0 N σ [.ref c, .int 0, .int (nI n902)] (fun r τ => HS V c (⟨T, Z, u, h, (mkP P.n0 P.n2 n902 P.n7 P.m0 P.m5 P.w2 P.w7 P.kk P.a P.b0 P.b1 P.b2 P.b3), L⟩ : RG) [0, 1, 2, 4, 5, 6, 7, 8, 9, 10, 11, 12, 13, 14, 15, 16, 17, 18, 19, 20, 21, 22, 23] σ τ ∧ elI τ (c + 2) 5 = some (nI n902) ∧ (∀ i, i ≠ 5 → elI τ (c + 2) i = elI σ (c + 2) i) ∧ r = none) := by
  refine Ct.of (by decide) (Nat.le_of_ble_eq_true rfl) [(0, .ref c), (1, .int 0), (2, .int (nI n902))] rfl (fun X hX F hQ => ?_)
  have hPP := hP
  unfold OKP at hPP
  have h1 : HS V c ⟨T, Z, u, h, P, L⟩ [0, 1, 2, 4, 5, 6, 7, 8, 9, 10, 11, 12, 13, 14, 15, 16, 17, 18, 19, 20, 21, 22, 23] σ σ := HS.start h0
  refine m_aload_n F rfl e_X10_reads_0 ?_
  refine r_get F e_X10_reads_1 fl_X10_13 h1 rfl (fun v hv f11666 => ?_)
  obtain rfl : v = .ref (c + 2) := hv
  refine m_iconst F (v := 5) (by decide) e_X10_reads_4 ?_
  refine m_iload_n F rfl e_X10_reads_5 ?_
  refine m_iadd F e_X10_reads_6 ?_
  refine Wm.topE (w := 5) (by decide) ?_
  refine m_iload_n F rfl e_X10_reads_7 ?_
  refine r_iast F (g' := (⟨T, Z, u, h, (mkP P.n0 P.n2 n902 P.n7 P.m0 P.m5 P.w2 P.w7 P.kk P.a P.b0 P.b1 P.b2 P.b3), L⟩ : RG)) (len := 10) (j := 5) e_X10_reads_8 h1 (fun _ h => h) (fun f h => ⟨f, rfl, h⟩) (by decide) (by decide) (by decide) (by unfold vp_in; decide) (by refine ⟨?_, ?_, ?_, ?_, ?_, ?_⟩ <;> intro e <;> first | exact absurd e (by decide) | rfl | exact ⟨_, by omega, rfl⟩) (fun i hi y hy => ⟨hy.1, hy.2.1, fun e => absurd e hi, hy.2.2.2.1, hy.2.2.2.2.1, hy.2.2.2.2.2⟩) (CR.chg (by intro k hk i x h; unfold EI at h ⊢; split at h <;> first | exact h | exact absurd rfl hk | trivial) rfl rfl) (fun σ11667 h11668 g11669 f11670 g11671 => ?_)
  exact m_vret F hQ e_X10_reads_9 (⟨h11668, f11670, g11671, rfl⟩)
set_option maxRecDepth 20000 in
theorem q_X10_reads1E (l : Launch) (V : VX) (c T Z u h : Nat) (P : NP) (L : Nat → LQ) (N : Nat) (σ : Mem) (n902 : Nat) (h0 : HR V c ⟨T, Z, u, h, P, L⟩ σ) (hob : OKB L) (hP : OKP P) (hn902 : n902 ≤ 12) : Ct l V yX10_reads cX10_reads 3 none 0 0 0 N σ [.ref c, .int 1, .int (nI n902)] (fun r τ => HS V c (⟨T, Z, u, h, P, L⟩ : RG) [0, 1, 2, 4, 5, 6, 7, 8, 9, 10, 11, 12, 13, 14, 15, 16, 17, 18, 19, 20, 21, 22, 23] σ τ ∧ elI τ (c + 2) 6 = some (nI n902) ∧ (∀ i, i ≠ 6 → elI τ (c + 2) i = elI σ (c + 2) i) ∧ r = none) := by
  refine Ct.of (by decide) (Nat.le_of_ble_eq_true rfl) [(0, .ref c), (1, .int 1), (2, .int (nI n902))] rfl (fun X hX F hQ => ?_)
  have hPP := hP
  unfold OKP at hPP
  have h1 : HS V c ⟨T, Z, u, h, P, L⟩ [0, 1, 2, 4, 5, 6, 7, 8, 9, 10, 11, 12, 13, 14, 15, 16, 17, 18, 19, 20, 21, 22, 23] σ σ := HS.start h0
  refine m_aload_n F rfl e_X10_reads_0 ?_
  refine r_get F e_X10_reads_1 fl_X10_13 h1 rfl (fun v hv f11672 => ?_)
  obtain rfl : v = .ref (c + 2) := hv
  refine m_iconst F (v := 5) (by decide) e_X10_reads_4 ?_
  refine m_iload_n F rfl e_X10_reads_5 ?_
  refine m_iadd F e_X10_reads_6 ?_
  refine Wm.topE (w := 6) (by decide) ?_
  refine m_iload_n F rfl e_X10_reads_7 ?_
  refine r_iast F (g' := (⟨T, Z, u, h, P, L⟩ : RG)) (len := 10) (j := 6) e_X10_reads_8 h1 (fun _ h => h) (fun f h => ⟨f, rfl, h⟩) (by decide) (by decide) (by decide) (by unfold vp_in; decide) (by refine ⟨?_, ?_, ?_, ?_, ?_, ?_⟩ <;> intro e <;> first | exact absurd e (by decide) | rfl | exact ⟨_, by omega, rfl⟩) (fun _ _ _ h => h) (fun _ _ _ h => h) (fun σ11673 h11674 g11675 f11676 g11677 => ?_)
  exact m_vret F hQ e_X10_reads_9 (⟨h11674, f11676, g11677, rfl⟩)
set_option maxRecDepth 20000 in
theorem q_X10_reads2E (l : Launch) (V : VX) (c T Z u h : Nat) (P : NP) (L : Nat → LQ) (N : Nat) (σ : Mem) (n902 : Nat) (h0 : HR V c ⟨T, Z, u, h, P, L⟩ σ) (hob : OKB L) (hP : OKP P) (hn902 : n902 ≤ 8) (hp0 : n902 ≤ P.w7) : Ct l V yX10_reads cX10_reads 3 none 0 0 0 N σ [.ref c, .int 2, .int (nI n902)] (fun r τ => HS V c (⟨T, Z, u, h, (mkP P.n0 P.n2 P.n5 n902 P.m0 P.m5 P.w2 P.w7 P.kk P.a P.b0 P.b1 P.b2 P.b3), L⟩ : RG) [0, 1, 2, 4, 5, 6, 7, 8, 9, 10, 11, 12, 13, 14, 15, 16, 17, 18, 19, 20, 21, 22, 23] σ τ ∧ elI τ (c + 2) 7 = some (nI n902) ∧ (∀ i, i ≠ 7 → elI τ (c + 2) i = elI σ (c + 2) i) ∧ r = none) := by
  refine Ct.of (by decide) (Nat.le_of_ble_eq_true rfl) [(0, .ref c), (1, .int 2), (2, .int (nI n902))] rfl (fun X hX F hQ => ?_)
  have hPP := hP
  unfold OKP at hPP
  have h1 : HS V c ⟨T, Z, u, h, P, L⟩ [0, 1, 2, 4, 5, 6, 7, 8, 9, 10, 11, 12, 13, 14, 15, 16, 17, 18, 19, 20, 21, 22, 23] σ σ := HS.start h0
  refine m_aload_n F rfl e_X10_reads_0 ?_
  refine r_get F e_X10_reads_1 fl_X10_13 h1 rfl (fun v hv f11678 => ?_)
  obtain rfl : v = .ref (c + 2) := hv
  refine m_iconst F (v := 5) (by decide) e_X10_reads_4 ?_
  refine m_iload_n F rfl e_X10_reads_5 ?_
  refine m_iadd F e_X10_reads_6 ?_
  refine Wm.topE (w := 7) (by decide) ?_
  refine m_iload_n F rfl e_X10_reads_7 ?_
  refine r_iast F (g' := (⟨T, Z, u, h, (mkP P.n0 P.n2 P.n5 n902 P.m0 P.m5 P.w2 P.w7 P.kk P.a P.b0 P.b1 P.b2 P.b3), L⟩ : RG)) (len := 10) (j := 7) e_X10_reads_8 h1 (fun _ h => h) (fun f h => ⟨f, rfl, h⟩) (by decide) (by decide) (by decide) (by unfold vp_in; decide) (by refine ⟨?_, ?_, ?_, ?_, ?_, ?_⟩ <;> intro e <;> first | exact absurd e (by decide) | rfl | exact ⟨_, by omega, rfl⟩) (fun i hi y hy => ⟨hy.1, hy.2.1, hy.2.2.1, fun e => absurd e hi, hy.2.2.2.2.1, hy.2.2.2.2.2⟩) (CR.chg (by intro k hk i x h; unfold EI at h ⊢; split at h <;> first | exact h | exact absurd rfl hk | trivial) rfl rfl) (fun σ11679 h11680 g11681 f11682 g11683 => ?_)
  exact m_vret F hQ e_X10_reads_9 (⟨h11680, f11682, g11683, rfl⟩)
set_option maxRecDepth 20000 in
theorem q_X10_reads3E (l : Launch) (V : VX) (c T Z u h : Nat) (P : NP) (L : Nat → LQ) (N : Nat) (σ : Mem) (n902 : Nat) (h0 : HR V c ⟨T, Z, u, h, P, L⟩ σ) (hob : OKB L) (hP : OKP P) (hn902 : n902 ≤ 4) : Ct l V yX10_reads cX10_reads 3 none 0 0 0 N σ [.ref c, .int 3, .int (nI n902)] (fun r τ => HS V c (⟨T, Z, u, h, P, L⟩ : RG) [0, 1, 2, 4, 5, 6, 7, 8, 9, 10, 11, 12, 13, 14, 15, 16, 17, 18, 19, 20, 21, 22, 23] σ τ ∧ elI τ (c + 2) 8 = some (nI n902) ∧ (∀ i, i ≠ 8 → elI τ (c + 2) i = elI σ (c + 2) i) ∧ r = none) := by
  refine Ct.of (by decide) (Nat.le_of_ble_eq_true rfl) [(0, .ref c), (1, .int 3), (2, .int (nI n902))] rfl (fun X hX F hQ => ?_)
  have hPP := hP
  unfold OKP at hPP
  have h1 : HS V c ⟨T, Z, u, h, P, L⟩ [0, 1, 2, 4, 5, 6, 7, 8, 9, 10, 11, 12, 13, 14, 15, 16, 17, 18, 19, 20, 21, 22, 23] σ σ := HS.start h0
  refine m_aload_n F rfl e_X10_reads_0 ?_
  refine r_get F e_X10_reads_1 fl_X10_13 h1 rfl (fun v hv f11684 => ?_)
  obtain rfl : v = .ref (c + 2) := hv
  refine m_iconst F (v := 5) (by decide) e_X10_reads_4 ?_
  refine m_iload_n F rfl e_X10_reads_5 ?_
  refine m_iadd F e_X10_reads_6 ?_
  refine Wm.topE (w := 8) (by decide) ?_
  refine m_iload_n F rfl e_X10_reads_7 ?_
  refine r_iast F (g' := (⟨T, Z, u, h, P, L⟩ : RG)) (len := 10) (j := 8) e_X10_reads_8 h1 (fun _ h => h) (fun f h => ⟨f, rfl, h⟩) (by decide) (by decide) (by decide) (by unfold vp_in; decide) (by refine ⟨?_, ?_, ?_, ?_, ?_, ?_⟩ <;> intro e <;> first | exact absurd e (by decide) | rfl | exact ⟨_, by omega, rfl⟩) (fun _ _ _ h => h) (fun _ _ _ h => h) (fun σ11685 h11686 g11687 f11688 g11689 => ?_)
  exact m_vret F hQ e_X10_reads_9 (⟨h11686, f11688, g11689, rfl⟩)
set_option maxRecDepth 20000 in
theorem q_X10_reads4E (l : Launch) (V : VX) (c T Z u h : Nat) (P : NP) (L : Nat → LQ) (N : Nat) (σ : Mem) (n902 : Nat) (h0 : HR V c ⟨T, Z, u, h, P, L⟩ σ) (hob : OKB L) (hP : OKP P) (hn902 : n902 ≤ 100000) : Ct l V yX10_reads cX10_reads 3 none 0 0 0 N σ [.ref c, .int 4, .int (nI n902)] (fun r τ => HS V c (⟨T, Z, u, h, P, L⟩ : RG) [0, 1, 2, 4, 5, 6, 7, 8, 9, 10, 11, 12, 13, 14, 15, 16, 17, 18, 19, 20, 21, 22, 23] σ τ ∧ elI τ (c + 2) 9 = some (nI n902) ∧ (∀ i, i ≠ 9 → elI τ (c + 2) i = elI σ (c + 2) i) ∧ r = none) := by
  refine Ct.of (by decide) (Nat.le_of_ble_eq_true rfl) [(0, .ref c), (1, .int 4), (2, .int (nI n902))] rfl (fun X hX F hQ => ?_)
  have hPP := hP
  unfold OKP at hPP
  have h1 : HS V c ⟨T, Z, u, h, P, L⟩ [0, 1, 2, 4, 5, 6, 7, 8, 9, 10, 11, 12, 13, 14, 15, 16, 17, 18, 19, 20, 21, 22, 23] σ σ := HS.start h0
  refine m_aload_n F rfl e_X10_reads_0 ?_
  refine r_get F e_X10_reads_1 fl_X10_13 h1 rfl (fun v hv f11690 => ?_)
  obtain rfl : v = .ref (c + 2) := hv
  refine m_iconst F (v := 5) (by decide) e_X10_reads_4 ?_
  refine m_iload_n F rfl e_X10_reads_5 ?_
  refine m_iadd F e_X10_reads_6 ?_
  refine Wm.topE (w := 9) (by decide) ?_
  refine m_iload_n F rfl e_X10_reads_7 ?_
  refine r_iast F (g' := (⟨T, Z, u, h, P, L⟩ : RG)) (len := 10) (j := 9) e_X10_reads_8 h1 (fun _ h => h) (fun f h => ⟨f, rfl, h⟩) (by decide) (by decide) (by decide) (by unfold vp_in; decide) (by refine ⟨?_, ?_, ?_, ?_, ?_, ?_⟩ <;> intro e <;> first | exact absurd e (by decide) | rfl | exact ⟨_, by omega, rfl⟩) (fun _ _ _ h => h) (fun _ _ _ h => h) (fun σ11691 h11692 g11693 f11694 g11695 => ?_)
  exact m_vret F hQ e_X10_reads_9 (⟨h11692, f11694, g11695, rfl⟩)
theorem NR.k {σ τ : Mem} {c np no sd j : Nat} (h : NR σ c np no sd) (e : ∀ i, i ≠ j → elI τ (c + 2) i = elI σ (c + 2) i) (h6 : 6 ≠ j) (h8 : 8 ≠ j) (h9 : 9 ≠ j) : NR τ c np no sd := by
  obtain ⟨h1, h2, w, h3, h4, h5⟩ := h
  exact ⟨(e _ h6).trans h1, (e _ h8).trans h2, w, h3, (e _ h9).trans h4, h5⟩
theorem NR.p {σ τ : Mem} {c np no sd m : Nat} (h : NR σ c np no sd) (e0 : elI τ (c + 2) 6 = some (nI m)) (e : ∀ i, i ≠ 6 → elI τ (c + 2) i = elI σ (c + 2) i) : NR τ c m no sd := by
  obtain ⟨h1, h2, w, h3, h4, h5⟩ := h
  exact ⟨e0, (e _ (by decide)).trans h2, w, h3, (e _ (by decide)).trans h4, h5⟩
theorem NR.o {σ τ : Mem} {c np no sd m : Nat} (h : NR σ c np no sd) (e0 : elI τ (c + 2) 8 = some (nI m)) (e : ∀ i, i ≠ 8 → elI τ (c + 2) i = elI σ (c + 2) i) : NR τ c np m sd := by
  obtain ⟨h1, h2, w, h3, h4, h5⟩ := h
  exact ⟨(e _ (by decide)).trans h1, e0, w, h3, (e _ (by decide)).trans h4, h5⟩
theorem NR.s {σ τ : Mem} {c np no sd m : Nat} (h : NR σ c np no sd) (hm : m ≤ 100000) (h0 : 1 ≤ m) (e0 : elI τ (c + 2) 9 = some (nI m)) (e : ∀ i, i ≠ 9 → elI τ (c + 2) i = elI σ (c + 2) i) : NR τ c np no 1 := by
  obtain ⟨h1, h2, w, h3, h4, h5⟩ := h
  exact ⟨(e _ (by decide)).trans h1, (e _ (by decide)).trans h2, m, hm, e0, by omega⟩
set_option maxRecDepth 20000 in
theorem q_X10_atHandE (l : Launch) (V : VX) (c T Z u h : Nat) (P : NP) (L : Nat → LQ) (N : Nat) (σ : Mem) (n st : Nat) (so va : Int32) (ln : Nat) (fp : Int32) (t : Nat → Nat) (nm : Nat → Nat) (h0 : HR V c ⟨T, Z, u, h, P, L⟩ σ) (hob : OKB L) (hP : OKP P) (hp0 : YD σ c n st so va ln 0 fp) (hp1 : BR σ c n t) (hp2 : n ≤ 700) (hp3 : P.a ≤ n) (hp4 : MR σ c P.n5 nm) : Ct l V yX10_atHand cX10_atHand 2 (some .int) 7 0 0 N σ [.ref c] (fun r τ => ∃ P9 : NP, OKP P9 ∧ RA P P9 ∧ (((tok t n P.a).2.1 = 2 ∧ fx nm (tok t n P.a).2.2.1 P.n5 < P.n5 ∧ P9.a = (tok t n P.a).2.2.2 ∧ (∃ so2 va2, MT so2 va2 (tok t n P.a).2.1 (tok t n P.a).2.2.1 ∧ YD τ c n (tok t n P.a).1 so2 va2 ln 0 fp) ∧ r = some (.int (nI (4 + fx nm (tok t n P.a).2.2.1 P.n5)))) ∨ ((tok t n P.a).2.1 ≠ 2 ∧ FM τ c 1 (tok t n P.a).1 ∧ r = some (.int (nI 4))) ∨ ((tok t n P.a).2.1 = 2 ∧ ¬ fx nm (tok t n P.a).2.2.1 P.n5 < P.n5 ∧ FM τ c 4 (tok t n P.a).1 ∧ r = some (.int (nI 4)))) ∧ HS V c (⟨T, Z, u, h, P9, L⟩ : RG) [0, 2, 3, 4, 5, 6, 7, 8, 9, 10, 11, 12, 13, 14, 15, 16, 17, 18, 19, 20, 21, 22, 23] σ τ ∧ True) := by
  refine Ct.of (by decide) (Nat.le_of_ble_eq_true rfl) [(0, .ref c)] rfl (fun X hX F hQ => ?_)
  have hPP := hP
  unfold OKP at hPP
  have h1 : HS V c ⟨T, Z, u, h, P, L⟩ [0, 2, 3, 4, 5, 6, 7, 8, 9, 10, 11, 12, 13, 14, 15, 16, 17, 18, 19, 20, 21, 22, 23] σ σ := HS.start h0
  have hyd11696 := hp0
  obtain ⟨yd11696, yd11697, yd11698, yd11699, yd11700, yd11701, yd11702⟩ := hyd11696
  have hn7 := hp2
  refine m_aload_n F rfl e_X10_atHand_0 ?_
  refine r_callV F e_X10_atHand_1 (q_X10_goOnE (x_l X) V c T Z u h P L _ _  n st so va ln fp t h1.1 (hob) hP  ⟨(yd11696), (yd11697), (yd11698), (yd11699), (yd11700), (yd11701), (yd11702)⟩ hp1 hn7 (by omega)) cb_X10_goOn ml_X10_154 im_X10_goOn se_X10_goOn h1 rfl rfl (rest := []) rfl (Nat.le_of_ble_eq_true rfl) ⟨Nat.le_of_ble_eq_true rfl, Nat.le_of_ble_eq_true rfl⟩ ⟨Nat.le_of_ble_eq_true rfl, Nat.le_of_ble_eq_true rfl⟩ (fun r σ11703 hp => ?_)
  obtain ⟨P11706, oP11706, rP11706, pr11707, pr11708, h11704, hp⟩ := hp
  have h11705 := HS.trans h1 h11704 (by decide)
  have xP11706 := oP11706
  unfold OKP at xP11706
  unfold RA at rP11706
  have ga11709 := hp1.of (h11704.2 (c + 1) (by rw [kC_at (k := 1) (by decide)]; decide))
  have ga11710 := hp4.of (h11704.2 (c + 3) (by rw [kC_at (k := 3) (by decide)]; decide))
  obtain rfl := hp
  obtain ⟨so11711, va11712, mt11713, yd11714⟩ := pr11708
  have hyd11715 := yd11714
  obtain ⟨yd11715, yd11716, yd11717, yd11718, yd11719, yd11720, yd11721⟩ := hyd11715
  have e5 : P11706.n5 = P.n5 := by omega
  refine m_aload_n F rfl e_X10_atHand_4 ?_
  refine r_getC F e_X10_atHand_5 fl_X10_141 h11705 (yd11720) ?_
  refine m_if_eq F e_X10_atHand_8 (fun _ => ?_) (fun q => absurd (by decide) q)
  refine m_aload_n F rfl e_X10_atHand_13 ?_
  by_cases hs11722 : (tok t n P.a).2.1 = 2
  · have hmt9 := mt11713
    obtain ⟨q11723, q11724, q11725⟩ := mt11713.w hs11722
    subst q11723
    subst q11724
    refine r_getC F e_X10_atHand_14 fl_X10_110 h11705 (yd11718) ?_
    refine m_iconst F (v := 1) (by decide) e_X10_atHand_17 ?_
    refine m_icmp_eq F e_X10_atHand_18 (fun _ => ?_) (fun q => absurd (by decide) q)
    refine m_aload_n F rfl e_X10_atHand_26 ?_
    refine r_getC F e_X10_atHand_27 fl_X10_141 h11705 (yd11720) ?_
    refine m_if_ne F e_X10_atHand_30 (fun q => absurd (by decide) q) (fun _ => ?_)
    refine m_aload_n F rfl e_X10_atHand_33 ?_
    refine m_iconst F (v := 4) (by decide) e_X10_atHand_34 ?_
    refine m_aload_n F rfl e_X10_atHand_35 ?_
    refine m_iconst F (v := 0) (by decide) e_X10_atHand_36 ?_
    refine r_callV F e_X10_atHand_37 (q_X10_reading0 (x_l X) V c T Z u h P11706 L _ _  h11705.1 (hob) oP11706 ) cb_X10_reading ml_X10_157 im_X10_reading se_X10_reading h11705 rfl rfl (rest := [.int 4, .ref c]) rfl (Nat.le_of_ble_eq_true rfl) ⟨Nat.le_of_ble_eq_true rfl, Nat.le_of_ble_eq_true rfl⟩ ⟨Nat.le_of_ble_eq_true rfl, Nat.le_of_ble_eq_true rfl⟩ (fun r σ11726 hp => ?_)
    obtain ⟨h11727, rfl⟩ := hp
    have h11728 := HS.trans h11705 h11727 (by decide)
    have ga11729 := ga11709.of (h11727.2 (c + 1) (by rw [kC_at (k := 1) (by decide)]; decide))
    have ga11730 := ga11710.of (h11727.2 (c + 3) (by rw [kC_at (k := 3) (by decide)]; decide))
    refine Wm.topE (w := nI P.n5) (congrArg nI (by omega)) ?_
    refine m_aload_n F rfl e_X10_atHand_40 ?_
    refine r_getC F e_X10_atHand_41 fl_X10_120 h11728 ((fld_eq (h11727.2 c (by rw [show kC c c = 1 from kC_at (k := 0) (by decide)]; decide))).trans yd11719) ?_
    refine r_callV F e_X10_atHand_44 (q_X10_namedAtE (x_l X) V c T Z u h P11706 L _ _ P.n5 ((tok t n P.a).2.2.1) nm h11728.1 (hob) oP11706 (by omega) (by omega) ga11730) cb_X10_namedAt ml_X10_161 im_X10_namedAt se_X10_namedAt h11728 rfl rfl (rest := []) rfl (Nat.le_of_ble_eq_true rfl) ⟨Nat.le_of_ble_eq_true rfl, Nat.le_of_ble_eq_true rfl⟩ ⟨Nat.le_of_ble_eq_true rfl, Nat.le_of_ble_eq_true rfl⟩ (fun r σ11731 hp => ?_)
    obtain ⟨h11732, hp⟩ := hp
    have h11733 := HS.trans h11728 h11732 (by decide)
    have ga11734 := ga11729.of (h11732.2 (c + 1) (by rw [kC_at (k := 1) (by decide)]; decide))
    have ga11735 := ga11730.of (h11732.2 (c + 3) (by rw [kC_at (k := 3) (by decide)]; decide))
    rcases hp with ⟨e11736, rfl⟩ | ⟨e11736, rfl⟩
    · refine m_goto F e_X10_atHand_47 ?_
      refine m_istore_n F (lv' := [(1, .int (nI (fx nm ((tok t n P.a).2.2.1) P.n5))), (0, .ref c)]) e_X10_atHand_51 (by decide) rfl ?_
      refine m_iload_n F rfl e_X10_atHand_52 ?_
      refine m_iconst F (v := (-1)) (by decide) e_X10_atHand_53 ?_
      refine m_icmp_ne F e_X10_atHand_54 (fun q54 => ?_) (fun q54 => ?_)
      · refine m_aload_n F rfl e_X10_atHand_62 ?_
        refine r_getC F e_X10_atHand_63 fl_X10_141 h11733 ((fld_eq (h11732.2 c (by rw [show kC c c = 1 from kC_at (k := 0) (by decide)]; decide))).trans ((fld_eq (h11727.2 c (by rw [show kC c c = 1 from kC_at (k := 0) (by decide)]; decide))).trans yd11720)) ?_
        refine m_if_ne F e_X10_atHand_66 (fun q => absurd (by decide) q) (fun _ => ?_)
        refine m_iconst F (v := 4) (by decide) e_X10_atHand_69 ?_
        refine m_iload_n F rfl e_X10_atHand_70 ?_
        refine m_iadd F e_X10_atHand_71 ?_
        refine Wm.topE (w := nI (4 + fx nm ((tok t n P.a).2.2.1) P.n5)) (nI_add 4 (fx nm ((tok t n P.a).2.2.1) P.n5)) ?_
        refine m_goto F e_X10_atHand_72 ?_
        exact m_iret F hQ e_X10_atHand_76 (⟨P11706, oP11706, (by unfold RA; omega), (Or.inl ⟨hs11722, e11736, pr11707, ⟨_, _, hmt9, ⟨((fld_eq (h11732.2 c (by rw [show kC c c = 1 from kC_at (k := 0) (by decide)]; decide))).trans ((fld_eq (h11727.2 c (by rw [show kC c c = 1 from kC_at (k := 0) (by decide)]; decide))).trans yd11715)), ((fld_eq (h11732.2 c (by rw [show kC c c = 1 from kC_at (k := 0) (by decide)]; decide))).trans ((fld_eq (h11727.2 c (by rw [show kC c c = 1 from kC_at (k := 0) (by decide)]; decide))).trans yd11716)), ((fld_eq (h11732.2 c (by rw [show kC c c = 1 from kC_at (k := 0) (by decide)]; decide))).trans ((fld_eq (h11727.2 c (by rw [show kC c c = 1 from kC_at (k := 0) (by decide)]; decide))).trans yd11717)), ((fld_eq (h11732.2 c (by rw [show kC c c = 1 from kC_at (k := 0) (by decide)]; decide))).trans ((fld_eq (h11727.2 c (by rw [show kC c c = 1 from kC_at (k := 0) (by decide)]; decide))).trans yd11718)), ((fld_eq (h11732.2 c (by rw [show kC c c = 1 from kC_at (k := 0) (by decide)]; decide))).trans ((fld_eq (h11727.2 c (by rw [show kC c c = 1 from kC_at (k := 0) (by decide)]; decide))).trans yd11719)), ((fld_eq (h11732.2 c (by rw [show kC c c = 1 from kC_at (k := 0) (by decide)]; decide))).trans ((fld_eq (h11727.2 c (by rw [show kC c c = 1 from kC_at (k := 0) (by decide)]; decide))).trans yd11720)), ((fld_eq (h11732.2 c (by rw [show kC c c = 1 from kC_at (k := 0) (by decide)]; decide))).trans ((fld_eq (h11727.2 c (by rw [show kC c c = 1 from kC_at (k := 0) (by decide)]; decide))).trans yd11721))⟩⟩, rfl⟩), h11733, trivial⟩)
      · exact absurd q54 (nI_nm1 (by omega))
    · refine m_goto F e_X10_atHand_47 ?_
      refine m_istore_n F (lv' := [(1, .int (-1)), (0, .ref c)]) e_X10_atHand_51 (by decide) rfl ?_
      refine m_iload_n F rfl e_X10_atHand_52 ?_
      refine m_iconst F (v := (-1)) (by decide) e_X10_atHand_53 ?_
      refine m_icmp_ne F e_X10_atHand_54 (fun q => absurd (by decide) q) (fun _ => ?_)
      refine m_aload_n F rfl e_X10_atHand_57 ?_
      refine m_iconst F (v := 4) (by decide) e_X10_atHand_58 ?_
      refine r_callV F e_X10_atHand_59 (q_X10_wrongE (x_l X) V c T Z u h P11706 L _ _ 4 n ((tok t n P.a).1) 1 (nI ((tok t n P.a).2.2.1)) ln fp h11733.1 (hob) oP11706 (by omega) ⟨((fld_eq (h11732.2 c (by rw [show kC c c = 1 from kC_at (k := 0) (by decide)]; decide))).trans ((fld_eq (h11727.2 c (by rw [show kC c c = 1 from kC_at (k := 0) (by decide)]; decide))).trans yd11715)), ((fld_eq (h11732.2 c (by rw [show kC c c = 1 from kC_at (k := 0) (by decide)]; decide))).trans ((fld_eq (h11727.2 c (by rw [show kC c c = 1 from kC_at (k := 0) (by decide)]; decide))).trans yd11716)), ((fld_eq (h11732.2 c (by rw [show kC c c = 1 from kC_at (k := 0) (by decide)]; decide))).trans ((fld_eq (h11727.2 c (by rw [show kC c c = 1 from kC_at (k := 0) (by decide)]; decide))).trans yd11717)), ((fld_eq (h11732.2 c (by rw [show kC c c = 1 from kC_at (k := 0) (by decide)]; decide))).trans ((fld_eq (h11727.2 c (by rw [show kC c c = 1 from kC_at (k := 0) (by decide)]; decide))).trans yd11718)), ((fld_eq (h11732.2 c (by rw [show kC c c = 1 from kC_at (k := 0) (by decide)]; decide))).trans ((fld_eq (h11727.2 c (by rw [show kC c c = 1 from kC_at (k := 0) (by decide)]; decide))).trans yd11719)), ((fld_eq (h11732.2 c (by rw [show kC c c = 1 from kC_at (k := 0) (by decide)]; decide))).trans ((fld_eq (h11727.2 c (by rw [show kC c c = 1 from kC_at (k := 0) (by decide)]; decide))).trans yd11720)), ((fld_eq (h11732.2 c (by rw [show kC c c = 1 from kC_at (k := 0) (by decide)]; decide))).trans ((fld_eq (h11727.2 c (by rw [show kC c c = 1 from kC_at (k := 0) (by decide)]; decide))).trans yd11721))⟩ (by decide)) cb_X10_wrong ml_X10_150 im_X10_wrong se_X10_wrong h11733 rfl rfl (rest := []) rfl (Nat.le_of_ble_eq_true rfl) ⟨Nat.le_of_ble_eq_true rfl, Nat.le_of_ble_eq_true rfl⟩ ⟨Nat.le_of_ble_eq_true rfl, Nat.le_of_ble_eq_true rfl⟩ (fun r σ11737 hp => ?_)
      obtain ⟨h11738, hp⟩ := hp
      have h11739 := HS.trans h11733 h11738 (by decide)
      have ga11740 := ga11734.of (h11738.2 (c + 1) (by rw [kC_at (k := 1) (by decide)]; decide))
      have ga11741 := ga11735.of (h11738.2 (c + 3) (by rw [kC_at (k := 3) (by decide)]; decide))
      obtain ⟨hp, rfl⟩ := hp
      have hyd11742 := hp
      obtain ⟨yd11742, yd11743, yd11744, yd11745, yd11746, yd11747, yd11748⟩ := hyd11742
      refine m_aload_n F rfl e_X10_atHand_62 ?_
      refine r_getC F e_X10_atHand_63 fl_X10_141 h11739 (yd11747) ?_
      refine m_if_ne F e_X10_atHand_66 (fun _ => ?_) (fun q => absurd q (by decide))
      refine m_iconst F (v := 4) (by decide) e_X10_atHand_75 ?_
      have h11749 : HS V c _ [0, 2, 3, 4, 5, 6, 7, 8, 9, 10, 11, 12, 13, 14, 15, 16, 17, 18, 19, 20, 21, 22, 23] _ _ := ⟨HR.mono (Z' := Z) (by intro e; first | rfl | assumption | omega) h11739.1, h11739.2⟩
      exact m_iret F hQ e_X10_atHand_76 (⟨P11706, oP11706, (by unfold RA; omega), (Or.inr (Or.inr ⟨hs11722, e11736, ⟨yd11747, yd11748⟩, rfl⟩)), h11749, trivial⟩)
  · have hnw := mt11713.nw hs11722
    refine r_getC F e_X10_atHand_14 fl_X10_110 h11705 (yd11718) ?_
    refine m_iconst F (v := 1) (by decide) e_X10_atHand_17 ?_
    refine m_icmp_eq F e_X10_atHand_18 (fun q18 => ?_) (fun q18 => ?_)
    · exact absurd q18 hnw
    · refine m_aload_n F rfl e_X10_atHand_21 ?_
      refine m_iconst F (v := 1) (by decide) e_X10_atHand_22 ?_
      refine r_callV F e_X10_atHand_23 (q_X10_wrongE (x_l X) V c T Z u h P11706 L _ _ 1 n ((tok t n P.a).1) so11711 va11712 ln fp h11705.1 (hob) oP11706 (by omega) ⟨(yd11715), (yd11716), (yd11717), (yd11718), (yd11719), (yd11720), (yd11721)⟩ (by decide)) cb_X10_wrong ml_X10_150 im_X10_wrong se_X10_wrong h11705 rfl rfl (rest := []) rfl (Nat.le_of_ble_eq_true rfl) ⟨Nat.le_of_ble_eq_true rfl, Nat.le_of_ble_eq_true rfl⟩ ⟨Nat.le_of_ble_eq_true rfl, Nat.le_of_ble_eq_true rfl⟩ (fun r σ11750 hp => ?_)
      obtain ⟨h11751, hp⟩ := hp
      have h11752 := HS.trans h11705 h11751 (by decide)
      have ga11753 := ga11709.of (h11751.2 (c + 1) (by rw [kC_at (k := 1) (by decide)]; decide))
      have ga11754 := ga11710.of (h11751.2 (c + 3) (by rw [kC_at (k := 3) (by decide)]; decide))
      obtain ⟨hp, rfl⟩ := hp
      have hyd11755 := hp
      obtain ⟨yd11755, yd11756, yd11757, yd11758, yd11759, yd11760, yd11761⟩ := hyd11755
      refine m_aload_n F rfl e_X10_atHand_26 ?_
      refine r_getC F e_X10_atHand_27 fl_X10_141 h11752 (yd11760) ?_
      refine m_if_ne F e_X10_atHand_30 (fun _ => ?_) (fun q => absurd q (by decide))
      refine m_iconst F (v := 0) (by decide) e_X10_atHand_50 ?_
      refine m_istore_n F (lv' := [(1, .int 0), (0, .ref c)]) e_X10_atHand_51 (by decide) rfl ?_
      refine m_iload_n F rfl e_X10_atHand_52 ?_
      refine m_iconst F (v := (-1)) (by decide) e_X10_atHand_53 ?_
      refine m_icmp_ne F e_X10_atHand_54 (fun _ => ?_) (fun q => absurd q (by decide))
      refine m_aload_n F rfl e_X10_atHand_62 ?_
      refine r_getC F e_X10_atHand_63 fl_X10_141 h11752 (yd11760) ?_
      refine m_if_ne F e_X10_atHand_66 (fun _ => ?_) (fun q => absurd q (by decide))
      refine m_iconst F (v := 4) (by decide) e_X10_atHand_75 ?_
      have h11762 : HS V c _ [0, 2, 3, 4, 5, 6, 7, 8, 9, 10, 11, 12, 13, 14, 15, 16, 17, 18, 19, 20, 21, 22, 23] _ _ := ⟨HR.mono (Z' := Z) (by intro e; first | rfl | assumption | omega) h11752.1, h11752.2⟩
      exact m_iret F hQ e_X10_atHand_76 (⟨P11706, oP11706, (by unfold RA; omega), (Or.inr (Or.inl ⟨hs11722, ⟨yd11760, yd11761⟩, rfl⟩)), h11762, trivial⟩)
