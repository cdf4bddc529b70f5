theorem MT.nw {so va : Int32} {s v : Nat} (h : MT so va s v) (e : s ≠ 2) : so ≠ 1 := by
  rcases h with h | h | h | h | h | h
  · rw [h.2]; decide
  · rw [h.2.1]; decide
  · exact absurd h.1 e
  · rw [h.2.1]; decide
  · rw [h.2]; decide
  · rw [h.2]; decide
set_option maxRecDepth 20000 in
theorem q_X10_reading1E (l : Launch) (V : VX) (c T Z u h : Nat) (P : NP) (L : Nat → LQ) (N : Nat) (σ : Mem) (np no sd : Nat) (h0 : HR V c ⟨T, Z, u, h, P, L⟩ σ) (hob : OKB L) (hP : OKP P) (hp0 : NR σ c np no sd) : Ct l V yX10_reading cX10_reading 2 (some .int) 0 0 0 N σ [.ref c, .int 1] (fun r τ => HS V c (⟨T, Z, u, h, P, L⟩ : RG) [0, 1, 2, 3, 4, 5, 6, 7, 8, 9, 10, 11, 12, 13, 14, 15, 16, 17, 18, 19, 20, 21, 22, 23] σ τ ∧ r = some (.int (nI np))) := by
  refine Ct.of (by decide) (Nat.le_of_ble_eq_true rfl) [(0, .ref c), (1, .int 1)] rfl (fun X hX F hQ => ?_)
  have hPP := hP
  unfold OKP at hPP
  have h1 : HS V c ⟨T, Z, u, h, P, L⟩ [0, 1, 2, 3, 4, 5, 6, 7, 8, 9, 10, 11, 12, 13, 14, 15, 16, 17, 18, 19, 20, 21, 22, 23] σ σ := HS.start h0
  refine m_aload_n F rfl e_X10_reading_0 ?_
  refine r_get F e_X10_reading_1 fl_X10_13 h1 rfl (fun v hv f11756 => ?_)
  obtain rfl : v = .ref (c + 2) := hv
  refine m_iconst F (v := 5) (by decide) e_X10_reading_4 ?_
  refine m_iload_n F rfl e_X10_reading_5 ?_
  refine m_iadd F e_X10_reading_6 ?_
  refine Wm.topE (w := 6) (by decide) ?_
  refine r_iald F (len := 10) (j := 6) e_X10_reading_7 h1 (fun _ h => h) (by decide) (by decide) (by unfold vp_in; decide) (fun x11757 h11758 f11759 => ?_)
  obtain rfl := Option.some.inj ((f11759).symm.trans (hp0.1))
  exact m_iret F hQ e_X10_reading_8 (⟨h1, rfl⟩)
set_option maxRecDepth 20000 in
theorem q_X10_reading3E (l : Launch) (V : VX) (c T Z u h : Nat) (P : NP) (L : Nat → LQ) (N : Nat) (σ : Mem) (np no sd : Nat) (h0 : HR V c ⟨T, Z, u, h, P, L⟩ σ) (hob : OKB L) (hP : OKP P) (hp0 : NR σ c np no sd) : Ct l V yX10_reading cX10_reading 2 (some .int) 0 0 0 N σ [.ref c, .int 3] (fun r τ => HS V c (⟨T, Z, u, h, P, L⟩ : RG) [0, 1, 2, 3, 4, 5, 6, 7, 8, 9, 10, 11, 12, 13, 14, 15, 16, 17, 18, 19, 20, 21, 22, 23] σ τ ∧ r = some (.int (nI no))) := by
  refine Ct.of (by decide) (Nat.le_of_ble_eq_true rfl) [(0, .ref c), (1, .int 3)] rfl (fun X hX F hQ => ?_)
  have hPP := hP
  unfold OKP at hPP
  have h1 : HS V c ⟨T, Z, u, h, P, L⟩ [0, 1, 2, 3, 4, 5, 6, 7, 8, 9, 10, 11, 12, 13, 14, 15, 16, 17, 18, 19, 20, 21, 22, 23] σ σ := HS.start h0
  refine m_aload_n F rfl e_X10_reading_0 ?_
  refine r_get F e_X10_reading_1 fl_X10_13 h1 rfl (fun v hv f11760 => ?_)
  obtain rfl : v = .ref (c + 2) := hv
  refine m_iconst F (v := 5) (by decide) e_X10_reading_4 ?_
  refine m_iload_n F rfl e_X10_reading_5 ?_
  refine m_iadd F e_X10_reading_6 ?_
  refine Wm.topE (w := 8) (by decide) ?_
  refine r_iald F (len := 10) (j := 8) e_X10_reading_7 h1 (fun _ h => h) (by decide) (by decide) (by unfold vp_in; decide) (fun x11761 h11762 f11763 => ?_)
  obtain rfl := Option.some.inj ((f11763).symm.trans (hp0.2.1))
  exact m_iret F hQ e_X10_reading_8 (⟨h1, rfl⟩)
set_option maxRecDepth 20000 in
theorem q_X10_reading4E (l : Launch) (V : VX) (c T Z u h : Nat) (P : NP) (L : Nat → LQ) (N : Nat) (σ : Mem) (np no sd : Nat) (h0 : HR V c ⟨T, Z, u, h, P, L⟩ σ) (hob : OKB L) (hP : OKP P) (hp0 : NR σ c np no sd) : Ct l V yX10_reading cX10_reading 2 (some .int) 0 0 0 N σ [.ref c, .int 4] (fun r τ => HS V c (⟨T, Z, u, h, P, L⟩ : RG) [0, 1, 2, 3, 4, 5, 6, 7, 8, 9, 10, 11, 12, 13, 14, 15, 16, 17, 18, 19, 20, 21, 22, 23] σ τ ∧ ∃ w, w ≤ 100000 ∧ (w = 0 ↔ sd = 0) ∧ r = some (.int (nI w))) := by
  refine Ct.of (by decide) (Nat.le_of_ble_eq_true rfl) [(0, .ref c), (1, .int 4)] rfl (fun X hX F hQ => ?_)
  have hPP := hP
  unfold OKP at hPP
  have h1 : HS V c ⟨T, Z, u, h, P, L⟩ [0, 1, 2, 3, 4, 5, 6, 7, 8, 9, 10, 11, 12, 13, 14, 15, 16, 17, 18, 19, 20, 21, 22, 23] σ σ := HS.start h0
  obtain ⟨a1, a2, w9, a3, a4, a5⟩ := hp0
  refine m_aload_n F rfl e_X10_reading_0 ?_
  refine r_get F e_X10_reading_1 fl_X10_13 h1 rfl (fun v hv f11764 => ?_)
  obtain rfl : v = .ref (c + 2) := hv
  refine m_iconst F (v := 5) (by decide) e_X10_reading_4 ?_
  refine m_iload_n F rfl e_X10_reading_5 ?_
  refine m_iadd F e_X10_reading_6 ?_
  refine Wm.topE (w := 9) (by decide) ?_
  refine r_iald F (len := 10) (j := 9) e_X10_reading_7 h1 (fun _ h => h) (by decide) (by decide) (by unfold vp_in; decide) (fun x11765 h11766 f11767 => ?_)
  obtain rfl := Option.some.inj ((f11767).symm.trans (a4))
  exact m_iret F hQ e_X10_reading_8 (⟨h1, w9, a3, a5, rfl⟩)
set_option maxRecDepth 20000 in
theorem q_X10_reads0E (l : Launch) (V : VX) (c T Z u h : Nat) (P : NP) (L : Nat → LQ) (N : Nat) (σ : Mem) (n902 : Nat) (h0 : HR V c ⟨T, Z, u, h, P, L⟩ σ) (hob : OKB L) (hP : OKP P) (hn902 : n902 ≤ 4) (hp0 : n902 ≤ P.m5) : Ct l V yX10_reads cX10_reads 3 none 0 0 0 N σ [.ref c, .int 0, .int (nI n902)] (fun r τ => HS V c (⟨T, Z, u, h, (mkP P.n0 P.n2 n902 P.n7 P.m0 P.m5 P.w2 P.w7 P.kk P.a P.f P.p), L⟩ : RG) [0, 1, 2, 4, 5, 6, 7, 8, 9, 10, 11, 12, 13, 14, 15, 16, 17, 18, 19, 20, 21, 22, 23] σ τ ∧ elI τ (c + 2) 5 = some (nI n902) ∧ (∀ i, i ≠ 5 → elI τ (c + 2) i = elI σ (c + 2) i) ∧ r = none) := by
  refine Ct.of (by decide) (Nat.le_of_ble_eq_true rfl) [(0, .ref c), (1, .int 0), (2, .int (nI n902))] rfl (fun X hX F hQ => ?_)
  have hPP := hP
  unfold OKP at hPP
  have h1 : HS V c ⟨T, Z, u, h, P, L⟩ [0, 1, 2, 4, 5, 6, 7, 8, 9, 10, 11, 12, 13, 14, 15, 16, 17, 18, 19, 20, 21, 22, 23] σ σ := HS.start h0
  refine m_aload_n F rfl e_X10_reads_0 ?_
  refine r_get F e_X10_reads_1 fl_X10_13 h1 rfl (fun v hv f11768 => ?_)
  obtain rfl : v = .ref (c + 2) := hv
  refine m_iconst F (v := 5) (by decide) e_X10_reads_4 ?_
  refine m_iload_n F rfl e_X10_reads_5 ?_
  refine m_iadd F e_X10_reads_6 ?_
  refine Wm.topE (w := 5) (by decide) ?_
  refine m_iload_n F rfl e_X10_reads_7 ?_
  refine r_iast F (g' := (⟨T, Z, u, h, (mkP P.n0 P.n2 n902 P.n7 P.m0 P.m5 P.w2 P.w7 P.kk P.a P.f P.p), L⟩ : RG)) (len := 10) (j := 5) e_X10_reads_8 h1 (fun _ h => h) (fun f h => ⟨f, rfl, h⟩) (by decide) (by decide) (by decide) (by unfold vp_in; decide) (by refine ⟨?_, ?_, ?_, ?_, ?_, ?_⟩ <;> intro e <;> first | exact absurd e (by decide) | rfl | exact ⟨_, by omega, rfl⟩) (fun i hi y hy => ⟨hy.1, hy.2.1, fun e => absurd e hi, hy.2.2.2.1, hy.2.2.2.2.1, hy.2.2.2.2.2⟩) (CR.chg (by intro k hk i x h; unfold EI at h ⊢; split at h <;> first | exact h | exact absurd rfl hk | trivial) rfl rfl rfl rfl) (fun σ11769 h11770 g11771 f11772 g11773 => ?_)
  exact m_vret F hQ e_X10_reads_9 (⟨h11770, f11772, g11773, rfl⟩)
set_option maxRecDepth 20000 in
theorem q_X10_reads1E (l : Launch) (V : VX) (c T Z u h : Nat) (P : NP) (L : Nat → LQ) (N : Nat) (σ : Mem) (n902 : Nat) (h0 : HR V c ⟨T, Z, u, h, P, L⟩ σ) (hob : OKB L) (hP : OKP P) (hn902 : n902 ≤ 12) : Ct l V yX10_reads cX10_reads 3 none 0 0 0 N σ [.ref c, .int 1, .int (nI n902)] (fun r τ => HS V c (⟨T, Z, u, h, P, L⟩ : RG) [0, 1, 2, 4, 5, 6, 7, 8, 9, 10, 11, 12, 13, 14, 15, 16, 17, 18, 19, 20, 21, 22, 23] σ τ ∧ elI τ (c + 2) 6 = some (nI n902) ∧ (∀ i, i ≠ 6 → elI τ (c + 2) i = elI σ (c + 2) i) ∧ r = none) := by
  refine Ct.of (by decide) (Nat.le_of_ble_eq_true rfl) [(0, .ref c), (1, .int 1), (2, .int (nI n902))] rfl (fun X hX F hQ => ?_)
  have hPP := hP
  unfold OKP at hPP
  have h1 : HS V c ⟨T, Z, u, h, P, L⟩ [0, 1, 2, 4, 5, 6, 7, 8, 9, 10, 11, 12, 13, 14, 15, 16, 17, 18, 19, 20, 21, 22, 23] σ σ := HS.start h0
  refine m_aload_n F rfl e_X10_reads_0 ?_
  refine r_get F e_X10_reads_1 fl_X10_13 h1 rfl (fun v hv f11774 => ?_)
  obtain rfl : v = .ref (c + 2) := hv
  refine m_iconst F (v := 5) (by decide) e_X10_reads_4 ?_
  refine m_iload_n F rfl e_X10_reads_5 ?_
  refine m_iadd F e_X10_reads_6 ?_
  refine Wm.topE (w := 6) (by decide) ?_
  refine m_iload_n F rfl e_X10_reads_7 ?_
  refine r_iast F (g' := (⟨T, Z, u, h, P, L⟩ : RG)) (len := 10) (j := 6) e_X10_reads_8 h1 (fun _ h => h) (fun f h => ⟨f, rfl, h⟩) (by decide) (by decide) (by decide) (by unfold vp_in; decide) (by refine ⟨?_, ?_, ?_, ?_, ?_, ?_⟩ <;> intro e <;> first | exact absurd e (by decide) | rfl | exact ⟨_, by omega, rfl⟩) (fun _ _ _ h => h) (fun _ _ _ h => h) (fun σ11775 h11776 g11777 f11778 g11779 => ?_)
  exact m_vret F hQ e_X10_reads_9 (⟨h11776, f11778, g11779, rfl⟩)
set_option maxRecDepth 20000 in
theorem q_X10_reads2E (l : Launch) (V : VX) (c T Z u h : Nat) (P : NP) (L : Nat → LQ) (N : Nat) (σ : Mem) (n902 : Nat) (h0 : HR V c ⟨T, Z, u, h, P, L⟩ σ) (hob : OKB L) (hP : OKP P) (hn902 : n902 ≤ 8) (hp0 : n902 ≤ P.w7) : Ct l V yX10_reads cX10_reads 3 none 0 0 0 N σ [.ref c, .int 2, .int (nI n902)] (fun r τ => HS V c (⟨T, Z, u, h, (mkP P.n0 P.n2 P.n5 n902 P.m0 P.m5 P.w2 P.w7 P.kk P.a P.f P.p), L⟩ : RG) [0, 1, 2, 4, 5, 6, 7, 8, 9, 10, 11, 12, 13, 14, 15, 16, 17, 18, 19, 20, 21, 22, 23] σ τ ∧ elI τ (c + 2) 7 = some (nI n902) ∧ (∀ i, i ≠ 7 → elI τ (c + 2) i = elI σ (c + 2) i) ∧ r = none) := by
  refine Ct.of (by decide) (Nat.le_of_ble_eq_true rfl) [(0, .ref c), (1, .int 2), (2, .int (nI n902))] rfl (fun X hX F hQ => ?_)
  have hPP := hP
  unfold OKP at hPP
  have h1 : HS V c ⟨T, Z, u, h, P, L⟩ [0, 1, 2, 4, 5, 6, 7, 8, 9, 10, 11, 12, 13, 14, 15, 16, 17, 18, 19, 20, 21, 22, 23] σ σ := HS.start h0
  refine m_aload_n F rfl e_X10_reads_0 ?_
  refine r_get F e_X10_reads_1 fl_X10_13 h1 rfl (fun v hv f11780 => ?_)
  obtain rfl : v = .ref (c + 2) := hv
  refine m_iconst F (v := 5) (by decide) e_X10_reads_4 ?_
  refine m_iload_n F rfl e_X10_reads_5 ?_
  refine m_iadd F e_X10_reads_6 ?_
  refine Wm.topE (w := 7) (by decide) ?_
  refine m_iload_n F rfl e_X10_reads_7 ?_
  refine r_iast F (g' := (⟨T, Z, u, h, (mkP P.n0 P.n2 P.n5 n902 P.m0 P.m5 P.w2 P.w7 P.kk P.a P.f P.p), L⟩ : RG)) (len := 10) (j := 7) e_X10_reads_8 h1 (fun _ h => h) (fun f h => ⟨f, rfl, h⟩) (by decide) (by decide) (by decide) (by unfold vp_in; decide) (by refine ⟨?_, ?_, ?_, ?_, ?_, ?_⟩ <;> intro e <;> first | exact absurd e (by decide) | rfl | exact ⟨_, by omega, rfl⟩) (fun i hi y hy => ⟨hy.1, hy.2.1, hy.2.2.1, fun e => absurd e hi, hy.2.2.2.2.1, hy.2.2.2.2.2⟩) (CR.chg (by intro k hk i x h; unfold EI at h ⊢; split at h <;> first | exact h | exact absurd rfl hk | trivial) rfl rfl rfl rfl) (fun σ11781 h11782 g11783 f11784 g11785 => ?_)
  exact m_vret F hQ e_X10_reads_9 (⟨h11782, f11784, g11785, rfl⟩)
set_option maxRecDepth 20000 in
theorem q_X10_reads3E (l : Launch) (V : VX) (c T Z u h : Nat) (P : NP) (L : Nat → LQ) (N : Nat) (σ : Mem) (n902 : Nat) (h0 : HR V c ⟨T, Z, u, h, P, L⟩ σ) (hob : OKB L) (hP : OKP P) (hn902 : n902 ≤ 4) : Ct l V yX10_reads cX10_reads 3 none 0 0 0 N σ [.ref c, .int 3, .int (nI n902)] (fun r τ => HS V c (⟨T, Z, u, h, P, L⟩ : RG) [0, 1, 2, 4, 5, 6, 7, 8, 9, 10, 11, 12, 13, 14, 15, 16, 17, 18, 19, 20, 21, 22, 23] σ τ ∧ elI τ (c + 2) 8 = some (nI n902) ∧ (∀ i, i ≠ 8 → elI τ (c + 2) i = elI σ (c + 2) i) ∧ r = none) := by
  refine Ct.of (by decide) (Nat.le_of_ble_eq_true rfl) [(0, .ref c), (1, .int 3), (2, .int (nI n902))] rfl (fun X hX F hQ => ?_)
  have hPP := hP
  unfold OKP at hPP
  have h1 : HS V c ⟨T, Z, u, h, P, L⟩ [0, 1, 2, 4, 5, 6, 7, 8, 9, 10, 11, 12, 13, 14, 15, 16, 17, 18, 19, 20, 21, 22, 23] σ σ := HS.start h0
  refine m_aload_n F rfl e_X10_reads_0 ?_
  refine r_get F e_X10_reads_1 fl_X10_13 h1 rfl (fun v hv f11786 => ?_)
  obtain rfl : v = .ref (c + 2) := hv
  refine m_iconst F (v := 5) (by decide) e_X10_reads_4 ?_
  refine m_iload_n F rfl e_X10_reads_5 ?_
  refine m_iadd F e_X10_reads_6 ?_
  refine Wm.topE (w := 8) (by decide) ?_
  refine m_iload_n F rfl e_X10_reads_7 ?_
  refine r_iast F (g' := (⟨T, Z, u, h, P, L⟩ : RG)) (len := 10) (j := 8) e_X10_reads_8 h1 (fun _ h => h) (fun f h => ⟨f, rfl, h⟩) (by decide) (by decide) (by decide) (by unfold vp_in; decide) (by refine ⟨?_, ?_, ?_, ?_, ?_, ?_⟩ <;> intro e <;> first | exact absurd e (by decide) | rfl | exact ⟨_, by omega, rfl⟩) (fun _ _ _ h => h) (fun _ _ _ h => h) (fun σ11787 h11788 g11789 f11790 g11791 => ?_)
  exact m_vret F hQ e_X10_reads_9 (⟨h11788, f11790, g11791, rfl⟩)
set_option maxRecDepth 20000 in
theorem q_X10_reads4E (l : Launch) (V : VX) (c T Z u h : Nat) (P : NP) (L : Nat → LQ) (N : Nat) (σ : Mem) (n902 : Nat) (h0 : HR V c ⟨T, Z, u, h, P, L⟩ σ) (hob : OKB L) (hP : OKP P) (hn902 : n902 ≤ 100000) : Ct l V yX10_reads cX10_reads 3 none 0 0 0 N σ [.ref c, .int 4, .int (nI n902)] (fun r τ => HS V c (⟨T, Z, u, h, P, L⟩ : RG) [0, 1, 2, 4, 5, 6, 7, 8, 9, 10, 11, 12, 13, 14, 15, 16, 17, 18, 19, 20, 21, 22, 23] σ τ ∧ elI τ (c + 2) 9 = some (nI n902) ∧ (∀ i, i ≠ 9 → elI τ (c + 2) i = elI σ (c + 2) i) ∧ r = none) := by
  refine Ct.of (by decide) (Nat.le_of_ble_eq_true rfl) [(0, .ref c), (1, .int 4), (2, .int (nI n902))] rfl (fun X hX F hQ => ?_)
  have hPP := hP
  unfold OKP at hPP
  have h1 : HS V c ⟨T, Z, u, h, P, L⟩ [0, 1, 2, 4, 5, 6, 7, 8, 9, 10, 11, 12, 13, 14, 15, 16, 17, 18, 19, 20, 21, 22, 23] σ σ := HS.start h0
  refine m_aload_n F rfl e_X10_reads_0 ?_
  refine r_get F e_X10_reads_1 fl_X10_13 h1 rfl (fun v hv f11792 => ?_)
  obtain rfl : v = .ref (c + 2) := hv
  refine m_iconst F (v := 5) (by decide) e_X10_reads_4 ?_
  refine m_iload_n F rfl e_X10_reads_5 ?_
  refine m_iadd F e_X10_reads_6 ?_
  refine Wm.topE (w := 9) (by decide) ?_
  refine m_iload_n F rfl e_X10_reads_7 ?_
  refine r_iast F (g' := (⟨T, Z, u, h, P, L⟩ : RG)) (len := 10) (j := 9) e_X10_reads_8 h1 (fun _ h => h) (fun f h => ⟨f, rfl, h⟩) (by decide) (by decide) (by decide) (by unfold vp_in; decide) (by refine ⟨?_, ?_, ?_, ?_, ?_, ?_⟩ <;> intro e <;> first | exact absurd e (by decide) | rfl | exact ⟨_, by omega, rfl⟩) (fun _ _ _ h => h) (fun _ _ _ h => h) (fun σ11793 h11794 g11795 f11796 g11797 => ?_)
  exact m_vret F hQ e_X10_reads_9 (⟨h11794, f11796, g11797, rfl⟩)
theorem NR.k {σ τ : Mem} {c np no sd j : Nat} (h : NR σ c np no sd) (e : ∀ i, i ≠ j → elI τ (c + 2) i = elI σ (c + 2) i) (h6 : 6 ≠ j) (h8 : 8 ≠ j) (h9 : 9 ≠ j) : NR τ c np no sd := by
  obtain ⟨h1, h2, w, h3, h4, h5⟩ := h
  exact ⟨(e _ h6).trans h1, (e _ h8).trans h2, w, h3, (e _ h9).trans h4, h5⟩
theorem NR.p {σ τ : Mem} {c np no sd m : Nat} (h : NR σ c np no sd) (e0 : elI τ (c + 2) 6 = some (nI m)) (e : ∀ i, i ≠ 6 → elI τ (c + 2) i = elI σ (c + 2) i) : NR τ c m no sd := by
  obtain ⟨h1, h2, w, h3, h4, h5⟩ := h
  exact ⟨e0, (e _ (by decide)).trans h2, w, h3, (e _ (by decide)).trans h4, h5⟩
theorem NR.o {σ τ : Mem} {c np no sd m : Nat} (h : NR σ c np no sd) (e0 : elI τ (c + 2) 8 = some (nI m)) (e : ∀ i, i ≠ 8 → elI τ (c + 2) i = elI σ (c + 2) i) : NR τ c np m sd := by
  obtain ⟨h1, h2, w, h3, h4, h5⟩ := h
  exact ⟨(e _ (by decide)).trans h1, e0, w, h3, (e _ (by decide)).trans h4, h5⟩
theorem NR.s {σ τ : Mem} {c np no sd m : Nat} (h : NR σ c np no sd) (hm : m ≤ 100000) (h0 : 1 ≤ m) (e0 : elI τ (c + 2) 9 = some (nI m)) (e : ∀ i, i ≠ 9 → elI τ (c + 2) i = elI σ (c + 2) i) : NR τ c np no 1 := by
  obtain ⟨h1, h2, w, h3, h4, h5⟩ := h
  exact ⟨(e _ (by decide)).trans h1, (e _ (by decide)).trans h2, m, hm, e0, by omega⟩
set_option maxRecDepth 20000 in
theorem q_X10_atHandE (l : Launch) (V : VX) (c T Z u h : Nat) (P : NP) (L : Nat → LQ) (N : Nat) (σ : Mem) (n st : Nat) (so va : Int32) (ln : Nat) (fp : Int32) (t : Nat → Nat) (nm : Nat → Nat) (h0 : HR V c ⟨T, Z, u, h, P, L⟩ σ) (hob : OKB L) (hP : OKP P) (hp0 : YD σ c n st so va ln 0 fp) (hp1 : BR σ c n t) (hp2 : n ≤ 700) (hp3 : P.a ≤ n) (hp4 : MR σ c P.n5 nm) : Ct l V yX10_atHand cX10_atHand 2 (some .int) 7 0 0 N σ [.ref c] (fun r τ => ∃ P9 : NP, OKP P9 ∧ RA P P9 ∧ (((tok t n P.a).2.1 = 2 ∧ fx nm (tok t n P.a).2.2.1 P.n5 < P.n5 ∧ P9.a = (tok t n P.a).2.2.2 ∧ (∃ so2 va2, MT so2 va2 (tok t n P.a).2.1 (tok t n P.a).2.2.1 ∧ YD τ c n (tok t n P.a).1 so2 va2 ln 0 fp) ∧ r = some (.int (nI (4 + fx nm (tok t n P.a).2.2.1 P.n5)))) ∨ ((tok t n P.a).2.1 ≠ 2 ∧ FM τ c 1 (tok t n P.a).1 ∧ r = some (.int (nI 4))) ∨ ((tok t n P.a).2.1 = 2 ∧ ¬ fx nm (tok t n P.a).2.2.1 P.n5 < P.n5 ∧ FM τ c 4 (tok t n P.a).1 ∧ r = some (.int (nI 4)))) ∧ HS V c (⟨T, Z, u, h, P9, L⟩ : RG) [0, 2, 3, 4, 5, 6, 7, 8, 9, 10, 11, 12, 13, 14, 15, 16, 17, 18, 19, 20, 21, 22, 23] σ τ ∧ True) := by
  refine Ct.of (by decide) (Nat.le_of_ble_eq_true rfl) [(0, .ref c)] rfl (fun X hX F hQ => ?_)
  have hPP := hP
  unfold OKP at hPP
  have h1 : HS V c ⟨T, Z, u, h, P, L⟩ [0, 2, 3, 4, 5, 6, 7, 8, 9, 10, 11, 12, 13, 14, 15, 16, 17, 18, 19, 20, 21, 22, 23] σ σ := HS.start h0
  have hyd11798 := hp0
  obtain ⟨yd11798, yd11799, yd11800, yd11801, yd11802, yd11803, yd11804⟩ := hyd11798
  have hn7 := hp2
  refine m_aload_n F rfl e_X10_atHand_0 ?_
  refine r_callV F e_X10_atHand_1 (q_X10_goOnE (x_l X) V c T Z u h P L _ _  n st so va ln fp t h1.1 (hob) hP  ⟨(yd11798), (yd11799), (yd11800), (yd11801), (yd11802), (yd11803), (yd11804)⟩ hp1 hn7 (by omega)) cb_X10_goOn ml_X10_154 im_X10_goOn se_X10_goOn h1 rfl rfl (rest := []) rfl (Nat.le_of_ble_eq_true rfl) ⟨Nat.le_of_ble_eq_true rfl, Nat.le_of_ble_eq_true rfl⟩ ⟨Nat.le_of_ble_eq_true rfl, Nat.le_of_ble_eq_true rfl⟩ (fun r σ11805 hp => ?_)
  obtain ⟨P11808, oP11808, rP11808, pr11809, pr11810, h11806, hp⟩ := hp
  have h11807 := HS.trans h1 h11806 (by decide)
  have xP11808 := oP11808
  unfold OKP at xP11808
  unfold RA at rP11808
  have ga11811 := hp1.of (h11806.2 (c + 1) (by rw [kC_at (k := 1) (by decide)]; decide))
  have ga11812 := hp4.of (h11806.2 (c + 3) (by rw [kC_at (k := 3) (by decide)]; decide))
  obtain rfl := hp
  obtain ⟨so11813, va11814, mt11815, yd11816⟩ := pr11810
  have hyd11817 := yd11816
  obtain ⟨yd11817, yd11818, yd11819, yd11820, yd11821, yd11822, yd11823⟩ := hyd11817
  have e5 : P11808.n5 = P.n5 := by omega
  refine m_aload_n F rfl e_X10_atHand_4 ?_
  refine r_getC F e_X10_atHand_5 fl_X10_141 h11807 (yd11822) ?_
  refine m_if_eq F e_X10_atHand_8 (fun _ => ?_) (fun q => absurd (by decide) q)
  refine m_aload_n F rfl e_X10_atHand_13 ?_
  by_cases hs11824 : (tok t n P.a).2.1 = 2
  · have hmt9 := mt11815
    obtain ⟨q11825, q11826, q11827⟩ := mt11815.w hs11824
    subst q11825
    subst q11826
    refine r_getC F e_X10_atHand_14 fl_X10_110 h11807 (yd11820) ?_
    refine m_iconst F (v := 1) (by decide) e_X10_atHand_17 ?_
    refine m_icmp_eq F e_X10_atHand_18 (fun _ => ?_) (fun q => absurd (by decide) q)
    refine m_aload_n F rfl e_X10_atHand_26 ?_
    refine r_getC F e_X10_atHand_27 fl_X10_141 h11807 (yd11822) ?_
    refine m_if_ne F e_X10_atHand_30 (fun q => absurd (by decide) q) (fun _ => ?_)
    refine m_aload_n F rfl e_X10_atHand_33 ?_
    refine m_iconst F (v := 4) (by decide) e_X10_atHand_34 ?_
    refine m_aload_n F rfl e_X10_atHand_35 ?_
    refine m_iconst F (v := 0) (by decide) e_X10_atHand_36 ?_
    refine r_callV F e_X10_atHand_37 (q_X10_reading0 (x_l X) V c T Z u h P11808 L _ _  h11807.1 (hob) oP11808 ) cb_X10_reading ml_X10_157 im_X10_reading se_X10_reading h11807 rfl rfl (rest := [.int 4, .ref c]) rfl (Nat.le_of_ble_eq_true rfl) ⟨Nat.le_of_ble_eq_true rfl, Nat.le_of_ble_eq_true rfl⟩ ⟨Nat.le_of_ble_eq_true rfl, Nat.le_of_ble_eq_true rfl⟩ (fun r σ11828 hp => ?_)
    obtain ⟨h11829, rfl⟩ := hp
    have h11830 := HS.trans h11807 h11829 (by decide)
    have ga11831 := ga11811.of (h11829.2 (c + 1) (by rw [kC_at (k := 1) (by decide)]; decide))
    have ga11832 := ga11812.of (h11829.2 (c + 3) (by rw [kC_at (k := 3) (by decide)]; decide))
    refine Wm.topE (w := nI P.n5) (congrArg nI (by omega)) ?_
    refine m_aload_n F rfl e_X10_atHand_40 ?_
    refine r_getC F e_X10_atHand_41 fl_X10_120 h11830 ((fld_eq (h11829.2 c (by rw [show kC c c = 1 from kC_at (k := 0) (by decide)]; decide))).trans yd11821) ?_
    refine r_callV F e_X10_atHand_44 (q_X10_namedAtE (x_l X) V c T Z u h P11808 L _ _ P.n5 ((tok t n P.a).2.2.1) nm h11830.1 (hob) oP11808 (by omega) (by omega) ga11832) cb_X10_namedAt ml_X10_161 im_X10_namedAt se_X10_namedAt h11830 rfl rfl (rest := []) rfl (Nat.le_of_ble_eq_true rfl) ⟨Nat.le_of_ble_eq_true rfl, Nat.le_of_ble_eq_true rfl⟩ ⟨Nat.le_of_ble_eq_true rfl, Nat.le_of_ble_eq_true rfl⟩ (fun r σ11833 hp => ?_)
    obtain ⟨h11834, hp⟩ := hp
    have h11835 := HS.trans h11830 h11834 (by decide)
    have ga11836 := ga11831.of (h11834.2 (c + 1) (by rw [kC_at (k := 1) (by decide)]; decide))
    have ga11837 := ga11832.of (h11834.2 (c + 3) (by rw [kC_at (k := 3) (by decide)]; decide))
    rcases hp with ⟨e11838, rfl⟩ | ⟨e11838, rfl⟩
    · refine m_goto F e_X10_atHand_47 ?_
      refine m_istore_n F (lv' := [(1, .int (nI (fx nm ((tok t n P.a).2.2.1) P.n5))), (0, .ref c)]) e_X10_atHand_51 (by decide) rfl ?_
      refine m_iload_n F rfl e_X10_atHand_52 ?_
      refine m_iconst F (v := (-1)) (by decide) e_X10_atHand_53 ?_
      refine m_icmp_ne F e_X10_atHand_54 (fun q54 => ?_) (fun q54 => ?_)
      · refine m_aload_n F rfl e_X10_atHand_62 ?_
        refine r_getC F e_X10_atHand_63 fl_X10_141 h11835 ((fld_eq (h11834.2 c (by rw [show kC c c = 1 from kC_at (k := 0) (by decide)]; decide))).trans ((fld_eq (h11829.2 c (by rw [show kC c c = 1 from kC_at (k := 0) (by decide)]; decide))).trans yd11822)) ?_
        refine m_if_ne F e_X10_atHand_66 (fun q => absurd (by decide) q) (fun _ => ?_)
        refine m_iconst F (v := 4) (by decide) e_X10_atHand_69 ?_
        refine m_iload_n F rfl e_X10_atHand_70 ?_
        refine m_iadd F e_X10_atHand_71 ?_
        refine Wm.topE (w := nI (4 + fx nm ((tok t n P.a).2.2.1) P.n5)) (nI_add 4 (fx nm ((tok t n P.a).2.2.1) P.n5)) ?_
        refine m_goto F e_X10_atHand_72 ?_
        exact m_iret F hQ e_X10_atHand_76 (⟨P11808, oP11808, (by unfold RA; omega), (Or.inl ⟨hs11824, e11838, pr11809, ⟨_, _, hmt9, ⟨((fld_eq (h11834.2 c (by rw [show kC c c = 1 from kC_at (k := 0) (by decide)]; decide))).trans ((fld_eq (h11829.2 c (by rw [show kC c c = 1 from kC_at (k := 0) (by decide)]; decide))).trans yd11817)), ((fld_eq (h11834.2 c (by rw [show kC c c = 1 from kC_at (k := 0) (by decide)]; decide))).trans ((fld_eq (h11829.2 c (by rw [show kC c c = 1 from kC_at (k := 0) (by decide)]; decide))).trans yd11818)), ((fld_eq (h11834.2 c (by rw [show kC c c = 1 from kC_at (k := 0) (by decide)]; decide))).trans ((fld_eq (h11829.2 c (by rw [show kC c c = 1 from kC_at (k := 0) (by decide)]; decide))).trans yd11819)), ((fld_eq (h11834.2 c (by rw [show kC c c = 1 from kC_at (k := 0) (by decide)]; decide))).trans ((fld_eq (h11829.2 c (by rw [show kC c c = 1 from kC_at (k := 0) (by decide)]; decide))).trans yd11820)), ((fld_eq (h11834.2 c (by rw [show kC c c = 1 from kC_at (k := 0) (by decide)]; decide))).trans ((fld_eq (h11829.2 c (by rw [show kC c c = 1 from kC_at (k := 0) (by decide)]; decide))).trans yd11821)), ((fld_eq (h11834.2 c (by rw [show kC c c = 1 from kC_at (k := 0) (by decide)]; decide))).trans ((fld_eq (h11829.2 c (by rw [show kC c c = 1 from kC_at (k := 0) (by decide)]; decide))).trans yd11822)), ((fld_eq (h11834.2 c (by rw [show kC c c = 1 from kC_at (k := 0) (by decide)]; decide))).trans ((fld_eq (h11829.2 c (by rw [show kC c c = 1 from kC_at (k := 0) (by decide)]; decide))).trans yd11823))⟩⟩, rfl⟩), h11835, trivial⟩)
      · exact absurd q54 (nI_nm1 (by omega))
    · refine m_goto F e_X10_atHand_47 ?_
      refine m_istore_n F (lv' := [(1, .int (-1)), (0, .ref c)]) e_X10_atHand_51 (by decide) rfl ?_
      refine m_iload_n F rfl e_X10_atHand_52 ?_
      refine m_iconst F (v := (-1)) (by decide) e_X10_atHand_53 ?_
      refine m_icmp_ne F e_X10_atHand_54 (fun q => absurd (by decide) q) (fun _ => ?_)
      refine m_aload_n F rfl e_X10_atHand_57 ?_
      refine m_iconst F (v := 4) (by decide) e_X10_atHand_58 ?_
      refine r_callV F e_X10_atHand_59 (q_X10_wrongE (x_l X) V c T Z u h P11808 L _ _ 4 n ((tok t n P.a).1) 1 (nI ((tok t n P.a).2.2.1)) ln fp h11835.1 (hob) oP11808 (by omega) ⟨((fld_eq (h11834.2 c (by rw [show kC c c = 1 from kC_at (k := 0) (by decide)]; decide))).trans ((fld_eq (h11829.2 c (by rw [show kC c c = 1 from kC_at (k := 0) (by decide)]; decide))).trans yd11817)), ((fld_eq (h11834.2 c (by rw [show kC c c = 1 from kC_at (k := 0) (by decide)]; decide))).trans ((fld_eq (h11829.2 c (by rw [show kC c c = 1 from kC_at (k := 0) (by decide)]; decide))).trans yd11818)), ((fld_eq (h11834.2 c (by rw [show kC c c = 1 from kC_at (k := 0) (by decide)]; decide))).trans ((fld_eq (h11829.2 c (by rw [show kC c c = 1 from kC_at (k := 0) (by decide)]; decide))).trans yd11819)), ((fld_eq (h11834.2 c (by rw [show kC c c = 1 from kC_at (k := 0) (by decide)]; decide))).trans ((fld_eq (h11829.2 c (by rw [show kC c c = 1 from kC_at (k := 0) (by decide)]; decide))).trans yd11820)), ((fld_eq (h11834.2 c (by rw [show kC c c = 1 from kC_at (k := 0) (by decide)]; decide))).trans ((fld_eq (h11829.2 c (by rw [show kC c c = 1 from kC_at (k := 0) (by decide)]; decide))).trans yd11821)), ((fld_eq (h11834.2 c (by rw [show kC c c = 1 from kC_at (k := 0) (by decide)]; decide))).trans ((fld_eq (h11829.2 c (by rw [show kC c c = 1 from kC_at (k := 0) (by decide)]; decide))).trans yd11822)), ((fld_eq (h11834.2 c (by rw [show kC c c = 1 from kC_at (k := 0) (by decide)]; decide))).trans ((fld_eq (h11829.2 c (by rw [show kC c c = 1 from kC_at (k := 0) (by decide)]; decide))).trans yd11823))⟩ (by decide)) cb_X10_wrong ml_X10_150 im_X10_wrong se_X10_wrong h11835 rfl rfl (rest := []) rfl (Nat.le_of_ble_eq_true rfl) ⟨Nat.le_of_ble_eq_true rfl, Nat.le_of_ble_eq_true rfl⟩ ⟨Nat.le_of_ble_eq_true rfl, Nat.le_of_ble_eq_true rfl⟩ (fun r σ11839 hp => ?_)
      obtain ⟨h11840, hp⟩ := hp
      have h11841 := HS.trans h11835 h11840 (by decide)
      have ga11842 := ga11836.of (h11840.2 (c + 1) (by rw [kC_at (k := 1) (by decide)]; decide))
      have ga11843 := ga11837.of (h11840.2 (c + 3) (by rw [kC_at (k := 3) (by decide)]; decide))
      obtain ⟨hp, rfl⟩ := hp
      have hyd11844 := hp
      obtain ⟨yd11844, yd11845, yd11846, yd11847, yd11848, yd11849, yd11850⟩ := hyd11844
      refine m_aload_n F rfl e_X10_atHand_62 ?_
      refine r_getC F e_X10_atHand_63 fl_X10_141 h11841 (yd11849) ?_
      refine m_if_ne F e_X10_atHand_66 (fun _ => ?_) (fun q => absurd q (by decide))
      refine m_iconst F (v := 4) (by decide) e_X10_atHand_75 ?_
      have h11851 : HS V c _ [0, 2, 3, 4, 5, 6, 7, 8, 9, 10, 11, 12, 13, 14, 15, 16, 17, 18, 19, 20, 21, 22, 23] _ _ := ⟨HR.mono (Z' := Z) (by intro e; first | rfl | assumption | omega) h11841.1, h11841.2⟩
      exact m_iret F hQ e_X10_atHand_76 (⟨P11808, oP11808, (by unfold RA; omega), (Or.inr (Or.inr ⟨hs11824, e11838, ⟨yd11849, yd11850⟩, rfl⟩)), h11851, trivial⟩)
  · have hnw := mt11815.nw hs11824
    refine r_getC F e_X10_atHand_14 fl_X10_110 h11807 (yd11820) ?_
    refine m_iconst F (v := 1) (by decide) e_X10_atHand_17 ?_
    refine m_icmp_eq F e_X10_atHand_18 (fun q18 => ?_) (fun q18 => ?_)
    · exact absurd q18 hnw
    · refine m_aload_n F rfl e_X10_atHand_21 ?_
      refine m_iconst F (v := 1) (by decide) e_X10_atHand_22 ?_
      refine r_callV F e_X10_atHand_23 (q_X10_wrongE (x_l X) V c T Z u h P11808 L _ _ 1 n ((tok t n P.a).1) so11813 va11814 ln fp h11807.1 (hob) oP11808 (by omega) ⟨(yd11817), (yd11818), (yd11819), (yd11820), (yd11821), (yd11822), (yd11823)⟩ (by decide)) cb_X10_wrong ml_X10_150 im_X10_wrong se_X10_wrong h11807 rfl rfl (rest := []) rfl (Nat.le_of_ble_eq_true rfl) ⟨Nat.le_of_ble_eq_true rfl, Nat.le_of_ble_eq_true rfl⟩ ⟨Nat.le_of_ble_eq_true rfl, Nat.le_of_ble_eq_true rfl⟩ (fun r σ11852 hp => ?_)
      obtain ⟨h11853, hp⟩ := hp
      have h11854 := HS.trans h11807 h11853 (by decide)
      have ga11855 := ga11811.of (h11853.2 (c + 1) (by rw [kC_at (k := 1) (by decide)]; decide))
      have ga11856 := ga11812.of (h11853.2 (c + 3) (by rw [kC_at (k := 3) (by decide)]; decide))
      obtain ⟨hp, rfl⟩ := hp
      have hyd11857 := hp
      obtain ⟨yd11857, yd11858, yd11859, yd11860, yd11861, yd11862, yd11863⟩ := hyd11857
      refine m_aload_n F rfl e_X10_atHand_26 ?_
      refine r_getC F e_X10_atHand_27 fl_X10_141 h11854 (yd11862) ?_
      refine m_if_ne F e_X10_atHand_30 (fun _ => ?_) (fun q => absurd q (by decide))
      refine m_iconst F (v := 0) (by decide) e_X10_atHand_50 ?_
      refine m_istore_n F (lv' := [(1, .int 0), (0, .ref c)]) e_X10_atHand_51 (by decide) rfl ?_
      refine m_iload_n F rfl e_X10_atHand_52 ?_
      refine m_iconst F (v := (-1)) (by decide) e_X10_atHand_53 ?_
      refine m_icmp_ne F e_X10_atHand_54 (fun _ => ?_) (fun q => absurd q (by decide))
      refine m_aload_n F rfl e_X10_atHand_62 ?_
      refine r_getC F e_X10_atHand_63 fl_X10_141 h11854 (yd11862) ?_
      refine m_if_ne F e_X10_atHand_66 (fun _ => ?_) (fun q => absurd q (by decide))
      refine m_iconst F (v := 4) (by decide) e_X10_atHand_75 ?_
      have h11864 : HS V c _ [0, 2, 3, 4, 5, 6, 7, 8, 9, 10, 11, 12, 13, 14, 15, 16, 17, 18, 19, 20, 21, 22, 23] _ _ := ⟨HR.mono (Z' := Z) (by intro e; first | rfl | assumption | omega) h11854.1, h11854.2⟩
      exact m_iret F hQ e_X10_atHand_76 (⟨P11808, oP11808, (by unfold RA; omega), (Or.inr (Or.inl ⟨hs11824, ⟨yd11862, yd11863⟩, rfl⟩)), h11864, trivial⟩)
