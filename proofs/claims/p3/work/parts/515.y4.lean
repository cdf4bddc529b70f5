theorem MT.nw {so va : Int32} {s v : Nat} (h : MT so va s v) (e : s ≠ 2) : so ≠ 1 := by
  rcases h with h | h | h | h | h | h
  · rw [h.2]; decide
  · rw [h.2.1]; decide
  · exact absurd h.1 e
  · rw [h.2.1]; decide
  · rw [h.2]; decide
  · rw [h.2]; decide
set_option maxRecDepth 20000 in
theorem q_X10_reading1E (l : Launch) (V : VX) (c T Z u h : Nat) (P : NP) (L : Nat → LQ) (N : Nat) (σ : Mem) (np no sd : Nat) (h0 : HR V c ⟨T, Z, u, h, P, L⟩ σ) (hob : OKB L) (hP : OKP P) (hp0 : NR σ c np no sd) : Ct l V yX10_reading cX10_reading 2 (some .int) 0 0 0 N σ [.ref c, .int 1] (fun r τ => HS V c (⟨T, Z, u, h, P, L⟩ : RG) [0, 1, 2, 3, 4, 5, 6, 7, 8, 9, 10, 11, 12, 13, 14, 15, 16, 17, 18, 19, 20, 21, 22, 23] σ τ ∧ r = some (.int (nI np))) := by
  refine Ct.of (by decide) (Nat.le_of_ble_eq_true rfl) [(0, .ref c), (1, .int 1)] rfl (fun X hX F hQ => ?_)
  have hPP := hP
  unfold OKP at hPP
  have h1 : HS V c ⟨T, Z, u, h, P, L⟩ [0, 1, 2, 3, 4, 5, 6, 7, 8, 9, 10, 11, 12, 13, 14, 15, 16, 17, 18, 19, 20, 21, 22, 23] σ σ := HS.start h0
  refine m_aload_n F rfl e_X10_reading_0 ?_
  refine r_get F e_X10_reading_1 fl_X10_13 h1 rfl (fun v hv f11751 => ?_)
  obtain rfl : v = .ref (c + 2) := hv
  refine m_iconst F (v := 5) (by decide) e_X10_reading_4 ?_
  refine m_iload_n F rfl e_X10_reading_5 ?_
  refine m_iadd F e_X10_reading_6 ?_
  refine Wm.topE (w := 6) (by decide) ?_
  refine r_iald F (len := 10) (j := 6) e_X10_reading_7 h1 (fun _ h => h) (by decide) (by decide) (by unfold vp_in; decide) (fun x11752 h11753 f11754 => ?_)
  obtain rfl := Option.some.inj ((f11754).symm.trans (hp0.1))
  exact m_iret F hQ e_X10_reading_8 (⟨h1, rfl⟩)
set_option maxRecDepth 20000 in
theorem q_X10_reading3E (l : Launch) (V : VX) (c T Z u h : Nat) (P : NP) (L : Nat → LQ) (N : Nat) (σ : Mem) (np no sd : Nat) (h0 : HR V c ⟨T, Z, u, h, P, L⟩ σ) (hob : OKB L) (hP : OKP P) (hp0 : NR σ c np no sd) : Ct l V yX10_reading cX10_reading 2 (some .int) 0 0 0 N σ [.ref c, .int 3] (fun r τ => HS V c (⟨T, Z, u, h, P, L⟩ : RG) [0, 1, 2, 3, 4, 5, 6, 7, 8, 9, 10, 11, 12, 13, 14, 15, 16, 17, 18, 19, 20, 21, 22, 23] σ τ ∧ r = some (.int (nI no))) := by
  refine Ct.of (by decide) (Nat.le_of_ble_eq_true rfl) [(0, .ref c), (1, .int 3)] rfl (fun X hX F hQ => ?_)
  have hPP := hP
  unfold OKP at hPP
  have h1 : HS V c ⟨T, Z, u, h, P, L⟩ [0, 1, 2, 3, 4, 5, 6, 7, 8, 9, 10, 11, 12, 13, 14, 15, 16, 17, 18, 19, 20, 21, 22, 23] σ σ := HS.start h0
  refine m_aload_n F rfl e_X10_reading_0 ?_
  refine r_get F e_X10_reading_1 fl_X10_13 h1 rfl (fun v hv f11755 => ?_)
  obtain rfl : v = .ref (c + 2) := hv
  refine m_iconst F (v := 5) (by decide) e_X10_reading_4 ?_
  refine m_iload_n F rfl e_X10_reading_5 ?_
  refine m_iadd F e_X10_reading_6 ?_
  refine Wm.topE (w := 8) (by decide) ?_
  refine r_iald F (len := 10) (j := 8) e_X10_reading_7 h1 (fun _ h => h) (by decide) (by decide) (by unfold vp_in; decide) (fun x11756 h11757 f11758 => ?_)
  obtain rfl := Option.some.inj ((f11758).symm.trans (hp0.2.1))
  exact m_iret F hQ e_X10_reading_8 (⟨h1, rfl⟩)
set_option maxRecDepth 20000 in
theorem q_X10_reading4E (l : Launch) (V : VX) (c T Z u h : Nat) (P : NP) (L : Nat → LQ) (N : Nat) (σ : Mem) (np no sd : Nat) (h0 : HR V c ⟨T, Z, u, h, P, L⟩ σ) (hob : OKB L) (hP : OKP P) (hp0 : NR σ c np no sd) : Ct l V yX10_reading cX10_reading 2 (some .int) 0 0 0 N σ [.ref c, .int 4] (fun r τ => HS V c (⟨T, Z, u, h, P, L⟩ : RG) [0, 1, 2, 3, 4, 5, 6, 7, 8, 9, 10, 11, 12, 13, 14, 15, 16, 17, 18, 19, 20, 21, 22, 23] σ τ ∧ ∃ w, w ≤ 100000 ∧ (w = 0 ↔ sd = 0) ∧ r = some (.int (nI w))) := by
  refine Ct.of (by decide) (Nat.le_of_ble_eq_true rfl) [(0, .ref c), (1, .int 4)] rfl (fun X hX F hQ => ?_)
  have hPP := hP
  unfold OKP at hPP
  have h1 : HS V c ⟨T, Z, u, h, P, L⟩ [0, 1, 2, 3, 4, 5, 6, 7, 8, 9, 10, 11, 12, 13, 14, 15, 16, 17, 18, 19, 20, 21, 22, 23] σ σ := HS.start h0
  obtain ⟨a1, a2, w9, a3, a4, a5⟩ := hp0
  refine m_aload_n F rfl e_X10_reading_0 ?_
  refine r_get F e_X10_reading_1 fl_X10_13 h1 rfl (fun v hv f11759 => ?_)
  obtain rfl : v = .ref (c + 2) := hv
  refine m_iconst F (v := 5) (by decide) e_X10_reading_4 ?_
  refine m_iload_n F rfl e_X10_reading_5 ?_
  refine m_iadd F e_X10_reading_6 ?_
  refine Wm.topE (w := 9) (by decide) ?_
  refine r_iald F (len := 10) (j := 9) e_X10_reading_7 h1 (fun _ h => h) (by decide) (by decide) (by unfold vp_in; decide) (fun x11760 h11761 f11762 => ?_)
  obtain rfl := Option.some.inj ((f11762).symm.trans (a4))
  exact m_iret F hQ e_X10_reading_8 (⟨h1, w9, a3, a5, rfl⟩)
set_option maxRecDepth 20000 in
theorem q_X10_reads0E (l : Launch) (V : VX) (c T Z u h : Nat) (P : NP) (L : Nat → LQ) (N : Nat) (σ : Mem) (n902 : Nat) (h0 : HR V c ⟨T, Z, u, h, P, L⟩ σ) (hob : OKB L) (hP : OKP P) (hn902 : n902 ≤ 4) (hp0 : n902 ≤ P.m5) : Ct l V yX10_reads cX10_reads 3 none 0 0 0 N σ [.ref c, .int 0, .int (nI n902)] (fun r τ => HS V c (⟨T, Z, u, h, (mkP P.n0 P.n2 n902 P.n7 P.m0 P.m5 P.w2 P.w7 P.kk P.a), L⟩ : RG) [0, 1, 2, 4, 5, 6, 7, 8, 9, 10, 11, 12, 13, 14, 15, 16, 17, 18, 19, 20, 21, 22, 23] σ τ ∧ elI τ (c + 2) 5 = some (nI n902) ∧ (∀ i, i ≠ 5 → elI τ (c + 2) i = elI σ (c + 2) i) ∧ r = none) := by
  refine Ct.of (by decide) (Nat.le_of_ble_eq_true rfl) [(0, .ref c), (1, .int 0), (2, .int (nI n902))] rfl (fun X hX F hQ => ?_)
  have hPP := hP
  unfold OKP at hPP
  have h1 : HS V c ⟨T, Z, u, h, P, L⟩ [0, 1, 2, 4, 5, 6, 7, 8, 9, 10, 11, 12, 13, 14, 15, 16, 17, 18, 19, 20, 21, 22, 23] σ σ := HS.start h0
  refine m_aload_n F rfl e_X10_reads_0 ?_
  refine r_get F e_X10_reads_1 fl_X10_13 h1 rfl (fun v hv f11763 => ?_)
  obtain rfl : v = .ref (c + 2) := hv
  refine m_iconst F (v := 5) (by decide) e_X10_reads_4 ?_
  refine m_iload_n F rfl e_X10_reads_5 ?_
  refine m_iadd F e_X10_reads_6 ?_
  refine Wm.topE (w := 5) (by decide) ?_
  refine m_iload_n F rfl e_X10_reads_7 ?_
  refine r_iast F (g' := (⟨T, Z, u, h, (mkP P.n0 P.n2 n902 P.n7 P.m0 P.m5 P.w2 P.w7 P.kk P.a), L⟩ : RG)) (len := 10) (j := 5) e_X10_reads_8 h1 (fun _ h => h) (fun f h => ⟨f, rfl, h⟩) (by decide) (by decide) (by decide) (by unfold vp_in; decide) (by refine ⟨?_, ?_, ?_, ?_, ?_, ?_⟩ <;> intro e <;> first | exact absurd e (by decide) | rfl | exact ⟨_, by omega, rfl⟩) (fun i hi y hy => ⟨hy.1, hy.2.1, fun e => absurd e hi, hy.2.2.2.1, hy.2.2.2.2.1, hy.2.2.2.2.2⟩) (CR.chg (by intro k hk i x h; unfold EI at h ⊢; split at h <;> first | exact h | exact absurd rfl hk | trivial) rfl rfl) (fun σ11764 h11765 g11766 f11767 g11768 => ?_)
  exact m_vret F hQ e_X10_reads_9 (⟨h11765, f11767, g11768, rfl⟩)
set_option maxRecDepth 20000 in
theorem q_X10_reads1E (l : Launch) (V : VX) (c T Z u h : Nat) (P : NP) (L : Nat → LQ) (N : Nat) (σ : Mem) (n902 : Nat) (h0 : HR V c ⟨T, Z, u, h, P, L⟩ σ) (hob : OKB L) (hP : OKP P) (hn902 : n902 ≤ 12) : Ct l V yX10_reads cX10_reads 3 none 0 0 0 N σ [.ref c, .int 1, .int (nI n902)] (fun r τ => HS V c (⟨T, Z, u, h, P, L⟩ : RG) [0, 1, 2, 4, 5, 6, 7, 8, 9, 10, 11, 12, 13, 14, 15, 16, 17, 18, 19, 20, 21, 22, 23] σ τ ∧ elI τ (c + 2) 6 = some (nI n902) ∧ (∀ i, i ≠ 6 → elI τ (c + 2) i = elI σ (c + 2) i) ∧ r = none) := by
  refine Ct.of (by decide) (Nat.le_of_ble_eq_true rfl) [(0, .ref c), (1, .int 1), (2, .int (nI n902))] rfl (fun X hX F hQ => ?_)
  have hPP := hP
  unfold OKP at hPP
  have h1 : HS V c ⟨T, Z, u, h, P, L⟩ [0, 1, 2, 4, 5, 6, 7, 8, 9, 10, 11, 12, 13, 14, 15, 16, 17, 18, 19, 20, 21, 22, 23] σ σ := HS.start h0
  refine m_aload_n F rfl e_X10_reads_0 ?_
  refine r_get F e_X10_reads_1 fl_X10_13 h1 rfl (fun v hv f11769 => ?_)
  obtain rfl : v = .ref (c + 2) := hv
  refine m_iconst F (v := 5) (by decide) e_X10_reads_4 ?_
  refine m_iload_n F rfl e_X10_reads_5 ?_
  refine m_iadd F e_X10_reads_6 ?_
  refine Wm.topE (w := 6) (by decide) ?_
  refine m_iload_n F rfl e_X10_reads_7 ?_
  refine r_iast F (g' := (⟨T, Z, u, h, P, L⟩ : RG)) (len := 10) (j := 6) e_X10_reads_8 h1 (fun _ h => h) (fun f h => ⟨f, rfl, h⟩) (by decide) (by decide) (by decide) (by unfold vp_in; decide) (by refine ⟨?_, ?_, ?_, ?_, ?_, ?_⟩ <;> intro e <;> first | exact absurd e (by decide) | rfl | exact ⟨_, by omega, rfl⟩) (fun _ _ _ h => h) (fun _ _ _ h => h) (fun σ11770 h11771 g11772 f11773 g11774 => ?_)
  exact m_vret F hQ e_X10_reads_9 (⟨h11771, f11773, g11774, rfl⟩)
set_option maxRecDepth 20000 in
theorem q_X10_reads2E (l : Launch) (V : VX) (c T Z u h : Nat) (P : NP) (L : Nat → LQ) (N : Nat) (σ : Mem) (n902 : Nat) (h0 : HR V c ⟨T, Z, u, h, P, L⟩ σ) (hob : OKB L) (hP : OKP P) (hn902 : n902 ≤ 8) (hp0 : n902 ≤ P.w7) : Ct l V yX10_reads cX10_reads 3 none 0 0 0 N σ [.ref c, .int 2, .int (nI n902)] (fun r τ => HS V c (⟨T, Z, u, h, (mkP P.n0 P.n2 P.n5 n902 P.m0 P.m5 P.w2 P.w7 P.kk P.a), L⟩ : RG) [0, 1, 2, 4, 5, 6, 7, 8, 9, 10, 11, 12, 13, 14, 15, 16, 17, 18, 19, 20, 21, 22, 23] σ τ ∧ elI τ (c + 2) 7 = some (nI n902) ∧ (∀ i, i ≠ 7 → elI τ (c + 2) i = elI σ (c + 2) i) ∧ r = none) := by
  refine Ct.of (by decide) (Nat.le_of_ble_eq_true rfl) [(0, .ref c), (1, .int 2), (2, .int (nI n902))] rfl (fun X hX F hQ => ?_)
  have hPP := hP
  unfold OKP at hPP
  have h1 : HS V c ⟨T, Z, u, h, P, L⟩ [0, 1, 2, 4, 5, 6, 7, 8, 9, 10, 11, 12, 13, 14, 15, 16, 17, 18, 19, 20, 21, 22, 23] σ σ := HS.start h0
  refine m_aload_n F rfl e_X10_reads_0 ?_
  refine r_get F e_X10_reads_1 fl_X10_13 h1 rfl (fun v hv f11775 => ?_)
  obtain rfl : v = .ref (c + 2) := hv
  refine m_iconst F (v := 5) (by decide) e_X10_reads_4 ?_
  refine m_iload_n F rfl e_X10_reads_5 ?_
  refine m_iadd F e_X10_reads_6 ?_
  refine Wm.topE (w := 7) (by decide) ?_
  refine m_iload_n F rfl e_X10_reads_7 ?_
  refine r_iast F (g' := (⟨T, Z, u, h, (mkP P.n0 P.n2 P.n5 n902 P.m0 P.m5 P.w2 P.w7 P.kk P.a), L⟩ : RG)) (len := 10) (j := 7) e_X10_reads_8 h1 (fun _ h => h) (fun f h => ⟨f, rfl, h⟩) (by decide) (by decide) (by decide) (by unfold vp_in; decide) (by refine ⟨?_, ?_, ?_, ?_, ?_, ?_⟩ <;> intro e <;> first | exact absurd e (by decide) | rfl | exact ⟨_, by omega, rfl⟩) (fun i hi y hy => ⟨hy.1, hy.2.1, hy.2.2.1, fun e => absurd e hi, hy.2.2.2.2.1, hy.2.2.2.2.2⟩) (CR.chg (by intro k hk i x h; unfold EI at h ⊢; split at h <;> first | exact h | exact absurd rfl hk | trivial) rfl rfl) (fun σ11776 h11777 g11778 f11779 g11780 => ?_)
  exact m_vret F hQ e_X10_reads_9 (⟨h11777, f11779, g11780, rfl⟩)
set_option maxRecDepth 20000 in
theorem q_X10_reads3E (l : Launch) (V : VX) (c T Z u h : Nat) (P : NP) (L : Nat → LQ) (N : Nat) (σ : Mem) (n902 : Nat) (h0 : HR V c ⟨T, Z, u, h, P, L⟩ σ) (hob : OKB L) (hP : OKP P) (hn902 : n902 ≤ 4) : Ct l V yX10_reads cX10_reads 3 none 0 0 0 N σ [.ref c, .int 3, .int (nI n902)] (fun r τ => HS V c (⟨T, Z, u, h, P, L⟩ : RG) [0, 1, 2, 4, 5, 6, 7, 8, 9, 10, 11, 12, 13, 14, 15, 16, 17, 18, 19, 20, 21, 22, 23] σ τ ∧ elI τ (c + 2) 8 = some (nI n902) ∧ (∀ i, i ≠ 8 → elI τ (c + 2) i = elI σ (c + 2) i) ∧ r = none) := by
  refine Ct.of (by decide) (Nat.le_of_ble_eq_true rfl) [(0, .ref c), (1, .int 3), (2, .int (nI n902))] rfl (fun X hX F hQ => ?_)
  have hPP := hP
  unfold OKP at hPP
  have h1 : HS V c ⟨T, Z, u, h, P, L⟩ [0, 1, 2, 4, 5, 6, 7, 8, 9, 10, 11, 12, 13, 14, 15, 16, 17, 18, 19, 20, 21, 22, 23] σ σ := HS.start h0
  refine m_aload_n F rfl e_X10_reads_0 ?_
  refine r_get F e_X10_reads_1 fl_X10_13 h1 rfl (fun v hv f11781 => ?_)
  obtain rfl : v = .ref (c + 2) := hv
  refine m_iconst F (v := 5) (by decide) e_X10_reads_4 ?_
  refine m_iload_n F rfl e_X10_reads_5 ?_
  refine m_iadd F e_X10_reads_6 ?_
  refine Wm.topE (w := 8) (by decide) ?_
  refine m_iload_n F rfl e_X10_reads_7 ?_
  refine r_iast F (g' := (⟨T, Z, u, h, P, L⟩ : RG)) (len := 10) (j := 8) e_X10_reads_8 h1 (fun _ h => h) (fun f h => ⟨f, rfl, h⟩) (by decide) (by decide) (by decide) (by unfold vp_in; decide) (by refine ⟨?_, ?_, ?_, ?_, ?_, ?_⟩ <;> intro e <;> first | exact absurd e (by decide) | rfl | exact ⟨_, by omega, rfl⟩) (fun _ _ _ h => h) (fun _ _ _ h => h) (fun σ11782 h11783 g11784 f11785 g11786 => ?_)
  exact m_vret F hQ e_X10_reads_9 (⟨h11783, f11785, g11786, rfl⟩)
set_option maxRecDepth 20000 in
theorem q_X10_reads4E (l : Launch) (V : VX) (c T Z u h : Nat) (P : NP) (L : Nat → LQ) (N : Nat) (σ : Mem) (n902 : Nat) (h0 : HR V c ⟨T, Z, u, h, P, L⟩ σ) (hob : OKB L) (hP : OKP P) (hn902 : n902 ≤ 100000) : Ct l V yX10_reads cX10_reads 3 none 0 0 0 N σ [.ref c, .int 4, .int (nI n902)] (fun r τ => HS V c (⟨T, Z, u, h, P, L⟩ : RG) [0, 1, 2, 4, 5, 6, 7, 8, 9, 10, 11, 12, 13, 14, 15, 16, 17, 18, 19, 20, 21, 22, 23] σ τ ∧ elI τ (c + 2) 9 = some (nI n902) ∧ (∀ i, i ≠ 9 → elI τ (c + 2) i = elI σ (c + 2) i) ∧ r = none) := by
  refine Ct.of (by decide) (Nat.le_of_ble_eq_true rfl) [(0, .ref c), (1, .int 4), (2, .int (nI n902))] rfl (fun X hX F hQ => ?_)
  have hPP := hP
  unfold OKP at hPP
  have h1 : HS V c ⟨T, Z, u, h, P, L⟩ [0, 1, 2, 4, 5, 6, 7, 8, 9, 10, 11, 12, 13, 14, 15, 16, 17, 18, 19, 20, 21, 22, 23] σ σ := HS.start h0
  refine m_aload_n F rfl e_X10_reads_0 ?_
  refine r_get F e_X10_reads_1 fl_X10_13 h1 rfl (fun v hv f11787 => ?_)
  obtain rfl : v = .ref (c + 2) := hv
  refine m_iconst F (v := 5) (by decide) e_X10_reads_4 ?_
  refine m_iload_n F rfl e_X10_reads_5 ?_
  refine m_iadd F e_X10_reads_6 ?_
  refine Wm.topE (w := 9) (by decide) ?_
  refine m_iload_n F rfl e_X10_reads_7 ?_
  refine r_iast F (g' := (⟨T, Z, u, h, P, L⟩ : RG)) (len := 10) (j := 9) e_X10_reads_8 h1 (fun _ h => h) (fun f h => ⟨f, rfl, h⟩) (by decide) (by decide) (by decide) (by unfold vp_in; decide) (by refine ⟨?_, ?_, ?_, ?_, ?_, ?_⟩ <;> intro e <;> first | exact absurd e (by decide) | rfl | exact ⟨_, by omega, rfl⟩) (fun _ _ _ h => h) (fun _ _ _ h => h) (fun σ11788 h11789 g11790 f11791 g11792 => ?_)
  exact m_vret F hQ e_X10_reads_9 (⟨h11789, f11791, g11792, rfl⟩)
theorem NR.k {σ τ : Mem} {c np no sd j : Nat} (h : NR σ c np no sd) (e : ∀ i, i ≠ j → elI τ (c + 2) i = elI σ (c + 2) i) (h6 : 6 ≠ j) (h8 : 8 ≠ j) (h9 : 9 ≠ j) : NR τ c np no sd := by
  obtain ⟨h1, h2, w, h3, h4, h5⟩ := h
  exact ⟨(e _ h6).trans h1, (e _ h8).trans h2, w, h3, (e _ h9).trans h4, h5⟩
theorem NR.p {σ τ : Mem} {c np no sd m : Nat} (h : NR σ c np no sd) (e0 : elI τ (c + 2) 6 = some (nI m)) (e : ∀ i, i ≠ 6 → elI τ (c + 2) i = elI σ (c + 2) i) : NR τ c m no sd := by
  obtain ⟨h1, h2, w, h3, h4, h5⟩ := h
  exact ⟨e0, (e _ (by decide)).trans h2, w, h3, (e _ (by decide)).trans h4, h5⟩
theorem NR.o {σ τ : Mem} {c np no sd m : Nat} (h : NR σ c np no sd) (e0 : elI τ (c + 2) 8 = some (nI m)) (e : ∀ i, i ≠ 8 → elI τ (c + 2) i = elI σ (c + 2) i) : NR τ c np m sd := by
  obtain ⟨h1, h2, w, h3, h4, h5⟩ := h
  exact ⟨(e _ (by decide)).trans h1, e0, w, h3, (e _ (by decide)).trans h4, h5⟩
theorem NR.s {σ τ : Mem} {c np no sd m : Nat} (h : NR σ c np no sd) (hm : m ≤ 100000) (h0 : 1 ≤ m) (e0 : elI τ (c + 2) 9 = some (nI m)) (e : ∀ i, i ≠ 9 → elI τ (c + 2) i = elI σ (c + 2) i) : NR τ c np no 1 := by
  obtain ⟨h1, h2, w, h3, h4, h5⟩ := h
  exact ⟨(e _ (by decide)).trans h1, (e _ (by decide)).trans h2, m, hm, e0, by omega⟩
set_option maxRecDepth 20000 in
theorem q_X10_atHandE (l : Launch) (V : VX) (c T Z u h : Nat) (P : NP) (L : Nat → LQ) (N : Nat) (σ : Mem) (n st : Nat) (so va : Int32) (ln : Nat) (fp : Int32) (t : Nat → Nat) (nm : Nat → Nat) (h0 : HR V c ⟨T, Z, u, h, P, L⟩ σ) (hob : OKB L) (hP : OKP P) (hp0 : YD σ c n st so va ln 0 fp) (hp1 : BR σ c n t) (hp2 : n ≤ 700) (hp3 : P.a ≤ n) (hp4 : MR σ c P.n5 nm) : Ct l V yX10_atHand cX10_atHand 2 (some .int) 7 0 0 N σ [.ref c] (fun r τ => ∃ P9 : NP, OKP P9 ∧ RA P P9 ∧ (((tok t n P.a).2.1 = 2 ∧ fx nm (tok t n P.a).2.2.1 P.n5 < P.n5 ∧ P9.a = (tok t n P.a).2.2.2 ∧ (∃ so2 va2, MT so2 va2 (tok t n P.a).2.1 (tok t n P.a).2.2.1 ∧ YD τ c n (tok t n P.a).1 so2 va2 ln 0 fp) ∧ r = some (.int (nI (4 + fx nm (tok t n P.a).2.2.1 P.n5)))) ∨ ((tok t n P.a).2.1 ≠ 2 ∧ FM τ c 1 (tok t n P.a).1 ∧ r = some (.int (nI 4))) ∨ ((tok t n P.a).2.1 = 2 ∧ ¬ fx nm (tok t n P.a).2.2.1 P.n5 < P.n5 ∧ FM τ c 4 (tok t n P.a).1 ∧ r = some (.int (nI 4)))) ∧ HS V c (⟨T, Z, u, h, P9, L⟩ : RG) [0, 2, 3, 4, 5, 6, 7, 8, 9, 10, 11, 12, 13, 14, 15, 16, 17, 18, 19, 20, 21, 22, 23] σ τ ∧ True) := by
  refine Ct.of (by decide) (Nat.le_of_ble_eq_true rfl) [(0, .ref c)] rfl (fun X hX F hQ => ?_)
  have hPP := hP
  unfold OKP at hPP
  have h1 : HS V c ⟨T, Z, u, h, P, L⟩ [0, 2, 3, 4, 5, 6, 7, 8, 9, 10, 11, 12, 13, 14, 15, 16, 17, 18, 19, 20, 21, 22, 23] σ σ := HS.start h0
  have hyd11793 := hp0
  obtain ⟨yd11793, yd11794, yd11795, yd11796, yd11797, yd11798, yd11799⟩ := hyd11793
  have hn7 := hp2
  refine m_aload_n F rfl e_X10_atHand_0 ?_
  refine r_callV F e_X10_atHand_1 (q_X10_goOnE (x_l X) V c T Z u h P L _ _  n st so va ln fp t h1.1 (hob) hP  ⟨(yd11793), (yd11794), (yd11795), (yd11796), (yd11797), (yd11798), (yd11799)⟩ hp1 hn7 (by omega)) cb_X10_goOn ml_X10_154 im_X10_goOn se_X10_goOn h1 rfl rfl (rest := []) rfl (Nat.le_of_ble_eq_true rfl) ⟨Nat.le_of_ble_eq_true rfl, Nat.le_of_ble_eq_true rfl⟩ ⟨Nat.le_of_ble_eq_true rfl, Nat.le_of_ble_eq_true rfl⟩ (fun r σ11800 hp => ?_)
  obtain ⟨P11803, oP11803, rP11803, pr11804, pr11805, h11801, hp⟩ := hp
  have h11802 := HS.trans h1 h11801 (by decide)
  have xP11803 := oP11803
  unfold OKP at xP11803
  unfold RA at rP11803
  have ga11806 := hp1.of (h11801.2 (c + 1) (by rw [kC_at (k := 1) (by decide)]; decide))
  have ga11807 := hp4.of (h11801.2 (c + 3) (by rw [kC_at (k := 3) (by decide)]; decide))
  obtain rfl := hp
  obtain ⟨so11808, va11809, mt11810, yd11811⟩ := pr11805
  have hyd11812 := yd11811
  obtain ⟨yd11812, yd11813, yd11814, yd11815, yd11816, yd11817, yd11818⟩ := hyd11812
  have e5 : P11803.n5 = P.n5 := by omega
  refine m_aload_n F rfl e_X10_atHand_4 ?_
  refine r_getC F e_X10_atHand_5 fl_X10_141 h11802 (yd11817) ?_
  refine m_if_eq F e_X10_atHand_8 (fun _ => ?_) (fun q => absurd (by decide) q)
  refine m_aload_n F rfl e_X10_atHand_13 ?_
  by_cases hs11819 : (tok t n P.a).2.1 = 2
  · have hmt9 := mt11810
    obtain ⟨q11820, q11821, q11822⟩ := mt11810.w hs11819
    subst q11820
    subst q11821
    refine r_getC F e_X10_atHand_14 fl_X10_110 h11802 (yd11815) ?_
    refine m_iconst F (v := 1) (by decide) e_X10_atHand_17 ?_
    refine m_icmp_eq F e_X10_atHand_18 (fun _ => ?_) (fun q => absurd (by decide) q)
    refine m_aload_n F rfl e_X10_atHand_26 ?_
    refine r_getC F e_X10_atHand_27 fl_X10_141 h11802 (yd11817) ?_
    refine m_if_ne F e_X10_atHand_30 (fun q => absurd (by decide) q) (fun _ => ?_)
    refine m_aload_n F rfl e_X10_atHand_33 ?_
    refine m_iconst F (v := 4) (by decide) e_X10_atHand_34 ?_
    refine m_aload_n F rfl e_X10_atHand_35 ?_
    refine m_iconst F (v := 0) (by decide) e_X10_atHand_36 ?_
    refine r_callV F e_X10_atHand_37 (q_X10_reading0 (x_l X) V c T Z u h P11803 L _ _  h11802.1 (hob) oP11803 ) cb_X10_reading ml_X10_157 im_X10_reading se_X10_reading h11802 rfl rfl (rest := [.int 4, .ref c]) rfl (Nat.le_of_ble_eq_true rfl) ⟨Nat.le_of_ble_eq_true rfl, Nat.le_of_ble_eq_true rfl⟩ ⟨Nat.le_of_ble_eq_true rfl, Nat.le_of_ble_eq_true rfl⟩ (fun r σ11823 hp => ?_)
    obtain ⟨h11824, rfl⟩ := hp
    have h11825 := HS.trans h11802 h11824 (by decide)
    have ga11826 := ga11806.of (h11824.2 (c + 1) (by rw [kC_at (k := 1) (by decide)]; decide))
    have ga11827 := ga11807.of (h11824.2 (c + 3) (by rw [kC_at (k := 3) (by decide)]; decide))
    refine Wm.topE (w := nI P.n5) (congrArg nI (by omega)) ?_
    refine m_aload_n F rfl e_X10_atHand_40 ?_
    refine r_getC F e_X10_atHand_41 fl_X10_120 h11825 ((fld_eq (h11824.2 c (by rw [show kC c c = 1 from kC_at (k := 0) (by decide)]; decide))).trans yd11816) ?_
    refine r_callV F e_X10_atHand_44 (q_X10_namedAtE (x_l X) V c T Z u h P11803 L _ _ P.n5 ((tok t n P.a).2.2.1) nm h11825.1 (hob) oP11803 (by omega) (by omega) ga11827) cb_X10_namedAt ml_X10_161 im_X10_namedAt se_X10_namedAt h11825 rfl rfl (rest := []) rfl (Nat.le_of_ble_eq_true rfl) ⟨Nat.le_of_ble_eq_true rfl, Nat.le_of_ble_eq_true rfl⟩ ⟨Nat.le_of_ble_eq_true rfl, Nat.le_of_ble_eq_true rfl⟩ (fun r σ11828 hp => ?_)
    obtain ⟨h11829, hp⟩ := hp
    have h11830 := HS.trans h11825 h11829 (by decide)
    have ga11831 := ga11826.of (h11829.2 (c + 1) (by rw [kC_at (k := 1) (by decide)]; decide))
    have ga11832 := ga11827.of (h11829.2 (c + 3) (by rw [kC_at (k := 3) (by decide)]; decide))
    rcases hp with ⟨e11833, rfl⟩ | ⟨e11833, rfl⟩
    · refine m_goto F e_X10_atHand_47 ?_
      refine m_istore_n F (lv' := [(1, .int (nI (fx nm ((tok t n P.a).2.2.1) P.n5))), (0, .ref c)]) e_X10_atHand_51 (by decide) rfl ?_
      refine m_iload_n F rfl e_X10_atHand_52 ?_
      refine m_iconst F (v := (-1)) (by decide) e_X10_atHand_53 ?_
      refine m_icmp_ne F e_X10_atHand_54 (fun q54 => ?_) (fun q54 => ?_)
      · refine m_aload_n F rfl e_X10_atHand_62 ?_
        refine r_getC F e_X10_atHand_63 fl_X10_141 h11830 ((fld_eq (h11829.2 c (by rw [show kC c c = 1 from kC_at (k := 0) (by decide)]; decide))).trans ((fld_eq (h11824.2 c (by rw [show kC c c = 1 from kC_at (k := 0) (by decide)]; decide))).trans yd11817)) ?_
        refine m_if_ne F e_X10_atHand_66 (fun q => absurd (by decide) q) (fun _ => ?_)
        refine m_iconst F (v := 4) (by decide) e_X10_atHand_69 ?_
        refine m_iload_n F rfl e_X10_atHand_70 ?_
        refine m_iadd F e_X10_atHand_71 ?_
        refine Wm.topE (w := nI (4 + fx nm ((tok t n P.a).2.2.1) P.n5)) (nI_add 4 (fx nm ((tok t n P.a).2.2.1) P.n5)) ?_
        refine m_goto F e_X10_atHand_72 ?_
        exact m_iret F hQ e_X10_atHand_76 (⟨P11803, oP11803, (by unfold RA; omega), (Or.inl ⟨hs11819, e11833, pr11804, ⟨_, _, hmt9, ⟨((fld_eq (h11829.2 c (by rw [show kC c c = 1 from kC_at (k := 0) (by decide)]; decide))).trans ((fld_eq (h11824.2 c (by rw [show kC c c = 1 from kC_at (k := 0) (by decide)]; decide))).trans yd11812)), ((fld_eq (h11829.2 c (by rw [show kC c c = 1 from kC_at (k := 0) (by decide)]; decide))).trans ((fld_eq (h11824.2 c (by rw [show kC c c = 1 from kC_at (k := 0) (by decide)]; decide))).trans yd11813)), ((fld_eq (h11829.2 c (by rw [show kC c c = 1 from kC_at (k := 0) (by decide)]; decide))).trans ((fld_eq (h11824.2 c (by rw [show kC c c = 1 from kC_at (k := 0) (by decide)]; decide))).trans yd11814)), ((fld_eq (h11829.2 c (by rw [show kC c c = 1 from kC_at (k := 0) (by decide)]; decide))).trans ((fld_eq (h11824.2 c (by rw [show kC c c = 1 from kC_at (k := 0) (by decide)]; decide))).trans yd11815)), ((fld_eq (h11829.2 c (by rw [show kC c c = 1 from kC_at (k := 0) (by decide)]; decide))).trans ((fld_eq (h11824.2 c (by rw [show kC c c = 1 from kC_at (k := 0) (by decide)]; decide))).trans yd11816)), ((fld_eq (h11829.2 c (by rw [show kC c c = 1 from kC_at (k := 0) (by decide)]; decide))).trans ((fld_eq (h11824.2 c (by rw [show kC c c = 1 from kC_at (k := 0) (by decide)]; decide))).trans yd11817)), ((fld_eq (h11829.2 c (by rw [show kC c c = 1 from kC_at (k := 0) (by decide)]; decide))).trans ((fld_eq (h11824.2 c (by rw [show kC c c = 1 from kC_at (k := 0) (by decide)]; decide))).trans yd11818))⟩⟩, rfl⟩), h11830, trivial⟩)
      · exact absurd q54 (nI_nm1 (by omega))
    · refine m_goto F e_X10_atHand_47 ?_
      refine m_istore_n F (lv' := [(1, .int (-1)), (0, .ref c)]) e_X10_atHand_51 (by decide) rfl ?_
      refine m_iload_n F rfl e_X10_atHand_52 ?_
      refine m_iconst F (v := (-1)) (by decide) e_X10_atHand_53 ?_
      refine m_icmp_ne F e_X10_atHand_54 (fun q => absurd (by decide) q) (fun _ => ?_)
      refine m_aload_n F rfl e_X10_atHand_57 ?_
      refine m_iconst F (v := 4) (by decide) e_X10_atHand_58 ?_
      refine r_callV F e_X10_atHand_59 (q_X10_wrongE (x_l X) V c T Z u h P11803 L _ _ 4 n ((tok t n P.a).1) 1 (nI ((tok t n P.a).2.2.1)) ln fp h11830.1 (hob) oP11803 (by omega) ⟨((fld_eq (h11829.2 c (by rw [show kC c c = 1 from kC_at (k := 0) (by decide)]; decide))).trans ((fld_eq (h11824.2 c (by rw [show kC c c = 1 from kC_at (k := 0) (by decide)]; decide))).trans yd11812)), ((fld_eq (h11829.2 c (by rw [show kC c c = 1 from kC_at (k := 0) (by decide)]; decide))).trans ((fld_eq (h11824.2 c (by rw [show kC c c = 1 from kC_at (k := 0) (by decide)]; decide))).trans yd11813)), ((fld_eq (h11829.2 c (by rw [show kC c c = 1 from kC_at (k := 0) (by decide)]; decide))).trans ((fld_eq (h11824.2 c (by rw [show kC c c = 1 from kC_at (k := 0) (by decide)]; decide))).trans yd11814)), ((fld_eq (h11829.2 c (by rw [show kC c c = 1 from kC_at (k := 0) (by decide)]; decide))).trans ((fld_eq (h11824.2 c (by rw [show kC c c = 1 from kC_at (k := 0) (by decide)]; decide))).trans yd11815)), ((fld_eq (h11829.2 c (by rw [show kC c c = 1 from kC_at (k := 0) (by decide)]; decide))).trans ((fld_eq (h11824.2 c (by rw [show kC c c = 1 from kC_at (k := 0) (by decide)]; decide))).trans yd11816)), ((fld_eq (h11829.2 c (by rw [show kC c c = 1 from kC_at (k := 0) (by decide)]; decide))).trans ((fld_eq (h11824.2 c (by rw [show kC c c = 1 from kC_at (k := 0) (by decide)]; decide))).trans yd11817)), ((fld_eq (h11829.2 c (by rw [show kC c c = 1 from kC_at (k := 0) (by decide)]; decide))).trans ((fld_eq (h11824.2 c (by rw [show kC c c = 1 from kC_at (k := 0) (by decide)]; decide))).trans yd11818))⟩ (by decide)) cb_X10_wrong ml_X10_150 im_X10_wrong se_X10_wrong h11830 rfl rfl (rest := []) rfl (Nat.le_of_ble_eq_true rfl) ⟨Nat.le_of_ble_eq_true rfl, Nat.le_of_ble_eq_true rfl⟩ ⟨Nat.le_of_ble_eq_true rfl, Nat.le_of_ble_eq_true rfl⟩ (fun r σ11834 hp => ?_)
      obtain ⟨h11835, hp⟩ := hp
      have h11836 := HS.trans h11830 h11835 (by decide)
      have ga11837 := ga11831.of (h11835.2 (c + 1) (by rw [kC_at (k := 1) (by decide)]; decide))
      have ga11838 := ga11832.of (h11835.2 (c + 3) (by rw [kC_at (k := 3) (by decide)]; decide))
      obtain ⟨hp, rfl⟩ := hp
      have hyd11839 := hp
      obtain ⟨yd11839, yd11840, yd11841, yd11842, yd11843, yd11844, yd11845⟩ := hyd11839
      refine m_aload_n F rfl e_X10_atHand_62 ?_
      refine r_getC F e_X10_atHand_63 fl_X10_141 h11836 (yd11844) ?_
      refine m_if_ne F e_X10_atHand_66 (fun _ => ?_) (fun q => absurd q (by decide))
      refine m_iconst F (v := 4) (by decide) e_X10_atHand_75 ?_
      have h11846 : HS V c _ [0, 2, 3, 4, 5, 6, 7, 8, 9, 10, 11, 12, 13, 14, 15, 16, 17, 18, 19, 20, 21, 22, 23] _ _ := ⟨HR.mono (Z' := Z) (by intro e; first | rfl | assumption | omega) h11836.1, h11836.2⟩
      exact m_iret F hQ e_X10_atHand_76 (⟨P11803, oP11803, (by unfold RA; omega), (Or.inr (Or.inr ⟨hs11819, e11833, ⟨yd11844, yd11845⟩, rfl⟩)), h11846, trivial⟩)
  · have hnw := mt11810.nw hs11819
    refine r_getC F e_X10_atHand_14 fl_X10_110 h11802 (yd11815) ?_
    refine m_iconst F (v := 1) (by decide) e_X10_atHand_17 ?_
    refine m_icmp_eq F e_X10_atHand_18 (fun q18 => ?_) (fun q18 => ?_)
    · exact absurd q18 hnw
    · refine m_aload_n F rfl e_X10_atHand_21 ?_
      refine m_iconst F (v := 1) (by decide) e_X10_atHand_22 ?_
      refine r_callV F e_X10_atHand_23 (q_X10_wrongE (x_l X) V c T Z u h P11803 L _ _ 1 n ((tok t n P.a).1) so11808 va11809 ln fp h11802.1 (hob) oP11803 (by omega) ⟨(yd11812), (yd11813), (yd11814), (yd11815), (yd11816), (yd11817), (yd11818)⟩ (by decide)) cb_X10_wrong ml_X10_150 im_X10_wrong se_X10_wrong h11802 rfl rfl (rest := []) rfl (Nat.le_of_ble_eq_true rfl) ⟨Nat.le_of_ble_eq_true rfl, Nat.le_of_ble_eq_true rfl⟩ ⟨Nat.le_of_ble_eq_true rfl, Nat.le_of_ble_eq_true rfl⟩ (fun r σ11847 hp => ?_)
      obtain ⟨h11848, hp⟩ := hp
      have h11849 := HS.trans h11802 h11848 (by decide)
      have ga11850 := ga11806.of (h11848.2 (c + 1) (by rw [kC_at (k := 1) (by decide)]; decide))
      have ga11851 := ga11807.of (h11848.2 (c + 3) (by rw [kC_at (k := 3) (by decide)]; decide))
      obtain ⟨hp, rfl⟩ := hp
      have hyd11852 := hp
      obtain ⟨yd11852, yd11853, yd11854, yd11855, yd11856, yd11857, yd11858⟩ := hyd11852
      refine m_aload_n F rfl e_X10_atHand_26 ?_
      refine r_getC F e_X10_atHand_27 fl_X10_141 h11849 (yd11857) ?_
      refine m_if_ne F e_X10_atHand_30 (fun _ => ?_) (fun q => absurd q (by decide))
      refine m_iconst F (v := 0) (by decide) e_X10_atHand_50 ?_
      refine m_istore_n F (lv' := [(1, .int 0), (0, .ref c)]) e_X10_atHand_51 (by decide) rfl ?_
      refine m_iload_n F rfl e_X10_atHand_52 ?_
      refine m_iconst F (v := (-1)) (by decide) e_X10_atHand_53 ?_
      refine m_icmp_ne F e_X10_atHand_54 (fun _ => ?_) (fun q => absurd q (by decide))
      refine m_aload_n F rfl e_X10_atHand_62 ?_
      refine r_getC F e_X10_atHand_63 fl_X10_141 h11849 (yd11857) ?_
      refine m_if_ne F e_X10_atHand_66 (fun _ => ?_) (fun q => absurd q (by decide))
      refine m_iconst F (v := 4) (by decide) e_X10_atHand_75 ?_
      have h11859 : HS V c _ [0, 2, 3, 4, 5, 6, 7, 8, 9, 10, 11, 12, 13, 14, 15, 16, 17, 18, 19, 20, 21, 22, 23] _ _ := ⟨HR.mono (Z' := Z) (by intro e; first | rfl | assumption | omega) h11849.1, h11849.2⟩
      exact m_iret F hQ e_X10_atHand_76 (⟨P11803, oP11803, (by unfold RA; omega), (Or.inr (Or.inl ⟨hs11819, ⟨yd11857, yd11858⟩, rfl⟩)), h11859, trivial⟩)
