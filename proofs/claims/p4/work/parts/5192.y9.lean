theorem HR.fw {V : VX} {c j : Nat} {g : RG} {σ : Mem} (h : HR V c g σ) (hj : rL[j]? = some (0, 0)) : ∃ y : Int32, fld σ c j = some (.int y) := by
  obtain ⟨fs, e, q1, q2⟩ : ∃ fs, σ c = some (ob 8 fs) ∧ TyO c g fs := h.cell (k := 0) (by decide)
  obtain ⟨v, h2, x, rfl⟩ := q2 j (0, 0) hj
  exact ⟨x, fld_of e h2⟩
theorem HR.f20 {V : VX} {c : Nat} {g : RG} {σ : Mem} (h : HR V c g σ) : ∃ y : Nat, y ≤ 700 ∧ fld σ c 20 = some (.int (nI y)) := by
  obtain ⟨fs, e, q1, q2⟩ : ∃ fs, σ c = some (ob 8 fs) ∧ TyO c g fs := h.cell (k := 0) (by decide)
  obtain ⟨v, h2, x, hx, rfl⟩ := q2 20 (1, 700) rfl
  exact ⟨x, hx, fld_of e h2⟩
theorem HR.f25 {V : VX} {c : Nat} {g : RG} {σ : Mem} (h : HR V c g σ) : fld σ c 25 = some (.int (nI g.P.f)) := by
  obtain ⟨fs, e, q1, q2⟩ : ∃ fs, σ c = some (ob 8 fs) ∧ TyO c g fs := h.cell (k := 0) (by decide)
  obtain ⟨v, h2, h3⟩ := q2 25 (10, 0) rfl
  obtain rfl : v = .int (nI g.P.f) := h3
  exact fld_of e h2
theorem HR.f26 {V : VX} {c : Nat} {g : RG} {σ : Mem} (h : HR V c g σ) : fld σ c 26 = some (.int (nI g.P.p)) := by
  obtain ⟨fs, e, q1, q2⟩ : ∃ fs, σ c = some (ob 8 fs) ∧ TyO c g fs := h.cell (k := 0) (by decide)
  obtain ⟨v, h2, h3⟩ := q2 26 (11, 0) rfl
  obtain rfl : v = .int (nI g.P.p) := h3
  exact fld_of e h2
theorem textS_L {X : Nat → Tk} {f : Nat} {S : SS} {e : Nat × Nat} (h0 : S.1.2.1 ≠ 0) (h : thenS (lineT X S) (stopT X) = .inl e) : textS X (f + 1) S = .inl e := by
  show (if S.1.2.1 = 0 then _ else _) = _
  rw [if_neg h0, h]; rfl
theorem textS_R {X : Nat → Tk} {f : Nat} {S S2 : SS} (h0 : S.1.2.1 ≠ 0) (h : thenS (lineT X S) (stopT X) = .inr S2) : textS X (f + 1) S = textS X f S2 := by
  show (if S.1.2.1 = 0 then _ else _) = _
  rw [if_neg h0, h]; rfl
theorem MT.z {so va : Int32} {s v : Nat} (h : MT so va s v) : so = 4 ↔ s = 0 := by
  rcases h with ⟨rfl, rfl⟩ | ⟨rfl, rfl, _⟩ | ⟨rfl, rfl, _⟩ | ⟨rfl, rfl, _⟩ | ⟨rfl, rfl⟩ | ⟨rfl, rfl⟩ <;> simp
set_option maxRecDepth 20000 in
theorem q_X10_readLineE (l : Launch) (V : VX) (c T Z u h : Nat) (P : NP) (L : Nat → LQ) (N : Nat) (σ : Mem) (n st : Nat) (so va : Int32) (ln : Nat) (fp : Int32) (t : Nat → Nat) (s9 v9 : Nat) (nm : Nat → Nat) (np lc no sd : Nat) (md : Nat → Nat → Bool) (h0 : HR V c ⟨T, Z, u, h, P, L⟩ σ) (hob : OKB L) (hP : OKP P) (hp0 : YD σ c n st so va ln 0 fp) (hp1 : BR σ c n t) (hp2 : n ≤ 700) (hp3 : P.a ≤ n) (hp4 : MT so va s9 v9) (hp5 : st ≤ n) (hp6 : NR σ c np no sd) (hp7 : MR σ c P.n5 nm) (hp8 : KR σ c P.n5 md) (hp9 : FR σ c 8 1 P.n5 md) (hp10 : FR σ c 9 2 P.n5 md) (hp11 : QR σ c P.n7 lc) (hp12 : np ≤ 12) (hp13 : no ≤ 4) (hp14 : sd ≤ 1) : Ct l V yX10_readLine cX10_readLine 1 none 9 0 0 N σ [.ref c] (fun r τ => ∃ P9 : NP, OKP P9 ∧ RP P P9 ∧ RM τ c n P9 (thenS (lineS (tok t n) (st, s9, v9, P.a) P.n5 nm np P.n7 lc no sd md ln) (stopT (tok t n))) ∧ (∀ S2 : SS, (thenS (lineS (tok t n) (st, s9, v9, P.a) P.n5 nm np P.n7 lc no sd md ln) (stopT (tok t n))) = .inr S2 → S2.1.2.1 ≠ 0 → P.a < P9.a) ∧ HS V c (⟨T, Z, u, h, P9, L⟩ : RG) [0, 2, 17, 18, 19, 20, 21, 22, 23] σ τ ∧ r = none) := by
  refine Ct.of (by decide) (Nat.le_of_ble_eq_true rfl) [(0, .ref c)] rfl (fun X hX F hQ => ?_)
  have hPP := hP
  unfold OKP at hPP
  have h1 : HS V c ⟨T, Z, u, h, P, L⟩ [0, 2, 17, 18, 19, 20, 21, 22, 23] σ σ := HS.start h0
  have hyd14106 := hp0
  obtain ⟨yd14106, yd14107, yd14108, yd14109, yd14110, yd14111, yd14112⟩ := hyd14106
  have hn7 := hp2
  refine m_aload_n F rfl e_X10_readLine_0 ?_
  have hmt := hp4
  rcases hmt with ⟨rfl, rfl⟩ | ⟨rfl, rfl, rfl, hv9⟩ | ⟨rfl, rfl, rfl, hv9⟩ | ⟨rfl, rfl, w9, hw9, rfl, hm9⟩ | ⟨rfl, rfl⟩ | ⟨rfl, rfl⟩
  · refine r_getC F e_X10_readLine_1 fl_X10_110 h1 (yd14109) ?_
    refine m_if_eq F e_X10_readLine_4 (fun q => absurd q (by decide)) (fun _ => ?_)
    refine m_aload_n F rfl e_X10_readLine_7 ?_
    refine m_iconst F (v := 1) (by decide) e_X10_readLine_8 ?_
    refine r_callV F e_X10_readLine_9 (q_X10_wrongE (x_l X) V c T Z u h P L _ _ 1 n st 4 va ln fp h1.1 (hob) hP (by omega) ⟨(yd14106), (yd14107), (yd14108), (yd14109), (yd14110), (yd14111), (yd14112)⟩ (by decide)) cb_X10_wrong ml_X10_150 im_X10_wrong se_X10_wrong h1 rfl rfl (rest := []) rfl (Nat.le_of_ble_eq_true rfl) ⟨Nat.le_of_ble_eq_true rfl, Nat.le_of_ble_eq_true rfl⟩ ⟨Nat.le_of_ble_eq_true rfl, Nat.le_of_ble_eq_true rfl⟩ (fun r σ14113 hp => ?_)
    obtain ⟨h14114, hp⟩ := hp
    have h14115 := HS.trans h1 h14114 (by decide)
    have ga14116 := hp1.of (h14114.2 (c + 1) (by rw [kC_at (k := 1) (by decide)]; decide))
    have ga14117 := hp6.of (h14114.2 (c + 2) (by rw [kC_at (k := 2) (by decide)]; decide))
    have ga14118 := hp7.of (h14114.2 (c + 3) (by rw [kC_at (k := 3) (by decide)]; decide))
    have ga14119 := hp8.of (h14114.2 (c + 7) (by rw [kC_at (k := 7) (by decide)]; decide))
    have ga14120 := hp9.of (h14114.2 (c + 8) (by rw [kC_at (k := 8) (by decide)]; decide))
    have ga14121 := hp10.of (h14114.2 (c + 9) (by rw [kC_at (k := 9) (by decide)]; decide))
    have ga14122 := hp11.of (h14114.2 (c + 11) (by rw [kC_at (k := 11) (by decide)]; decide))
    obtain ⟨hp, rfl⟩ := hp
    have hyd14123 := hp
    obtain ⟨yd14123, yd14124, yd14125, yd14126, yd14127, yd14128, yd14129⟩ := hyd14123
    refine m_goto F e_X10_readLine_12 ?_
    refine m_aload_n F rfl e_X10_readLine_146 ?_
    refine r_getC F e_X10_readLine_147 fl_X10_141 h14115 (yd14128) ?_
    refine m_if_ne F e_X10_readLine_150 (fun _ => ?_) (fun q => absurd q (by decide))
    refine m_aload_n F rfl e_X10_readLine_166 ?_
    refine r_callV F e_X10_readLine_167 (q_X10_goOnG (x_l X) V c T 0 u h P L _ _  1 h14115.1 (hob) hP  (yd14128) (by decide)) cb_X10_goOn ml_X10_154 im_X10_goOn se_X10_goOn h14115 rfl rfl (rest := []) rfl (Nat.le_of_ble_eq_true rfl) ⟨Nat.le_of_ble_eq_true rfl, Nat.le_of_ble_eq_true rfl⟩ ⟨Nat.le_of_ble_eq_true rfl, Nat.le_of_ble_eq_true rfl⟩ (fun r σ14130 hp => ?_)
    obtain ⟨h14131, hp⟩ := hp
    have h14132 := HS.trans h14115 h14131 (by decide)
    have ga14133 := ga14116.of (h14131.2 (c + 1) (by rw [kC_at (k := 1) (by decide)]; decide))
    have ga14134 := ga14117.of (h14131.2 (c + 2) (by rw [kC_at (k := 2) (by decide)]; decide))
    have ga14135 := ga14118.of (h14131.2 (c + 3) (by rw [kC_at (k := 3) (by decide)]; decide))
    have ga14136 := ga14119.of (h14131.2 (c + 7) (by rw [kC_at (k := 7) (by decide)]; decide))
    have ga14137 := ga14120.of (h14131.2 (c + 8) (by rw [kC_at (k := 8) (by decide)]; decide))
    have ga14138 := ga14121.of (h14131.2 (c + 9) (by rw [kC_at (k := 9) (by decide)]; decide))
    have ga14139 := ga14122.of (h14131.2 (c + 11) (by rw [kC_at (k := 11) (by decide)]; decide))
    obtain ⟨rfl, rfl⟩ := hp
    refine m_aload_n F rfl e_X10_readLine_170 ?_
    refine m_dup F rfl e_X10_readLine_171 ?_
    refine r_getC F e_X10_readLine_172 fl_X10_202 h14132 (yd14123) ?_
    refine m_iconst F (v := 1) (by decide) e_X10_readLine_175 ?_
    refine m_iadd F e_X10_readLine_176 ?_
    refine Wm.topE (w := nI (ln + 1)) (nI_add ln 1) ?_
    refine r_put F (g' := (⟨T, 0, u, h, P, L⟩ : RG)) e_X10_readLine_177 fp_X10_202 h14132 (by decide) ⟨_, rfl⟩ (fun _ _ _ _ q => q) (fun _ _ _ q => q) rfl rfl (by decide) (fun σ14140 h14141 g14142 g14143 f14144 => ?_)
    have ga14145 := ga14116.of (g14142 _ (by omega))
    have ga14146 := ga14117.of (g14142 _ (by omega))
    have ga14147 := ga14118.of (g14142 _ (by omega))
    have ga14148 := ga14119.of (g14142 _ (by omega))
    have ga14149 := ga14120.of (g14142 _ (by omega))
    have ga14150 := ga14121.of (g14142 _ (by omega))
    have ga14151 := ga14122.of (g14142 _ (by omega))
    have h14152 : HS V c _ [0, 2, 17, 18, 19, 20, 21, 22, 23] _ _ := ⟨HR.mono (Z' := Z) (by intro e; first | rfl | assumption | omega) h14141.1, h14141.2⟩
    exact m_vret F hQ e_X10_readLine_180 (⟨P, hP, (by unfold RP; omega), (by rw [lineS_no (by decide)]; show RM _ c n _ (.inl (1, st)); exact RM.l ((g14143 23 (by decide)).trans yd14128) ((g14143 24 (by decide)).trans yd14129) (by omega) (by omega) (by omega)), (fun S2 hS _ => by rw [lineS_no (by decide)] at hS; cases hS), h14152, rfl⟩)
  · have hv8 : v9 = 0 ∨ v9 = 1 ∨ v9 = 2 ∨ v9 = 3 ∨ v9 = 4 ∨ v9 = 5 ∨ v9 = 6 ∨ v9 = 7 ∨ v9 = 8 := by omega
    rcases hv8 with rfl | rfl | rfl | rfl | rfl | rfl | rfl | rfl | rfl
    · refine r_getC F e_X10_readLine_1 fl_X10_110 h1 (yd14109) ?_
      refine m_if_eq F e_X10_readLine_4 (fun _ => ?_) (fun q => absurd (by decide) q)
      refine m_aload_n F rfl e_X10_readLine_15 ?_
      refine r_getC F e_X10_readLine_16 fl_X10_120 h1 (yd14110) ?_
      refine m_if_ne F e_X10_readLine_19 (fun q => absurd (by decide) q) (fun _ => ?_)
      refine m_aload_n F rfl e_X10_readLine_22 ?_
      refine r_callV F e_X10_readLine_23 (q_X10_readLeaseE (x_l X) V c T Z u h P L _ _  n st 0 0 ln fp t 1 0 nm np lc no sd md h1.1 (hob) hP  ⟨(yd14106), (yd14107), (yd14108), (yd14109), (yd14110), (yd14111), (yd14112)⟩ hp1 hn7 (by omega) hp4 hp5 hp6 hp7 hp8 hp9 hp10 hp11 hp12 hp13 hp14) cb_X10_readLease ml_X10_178 im_X10_readLease se_X10_readLease h1 rfl rfl (rest := []) rfl (Nat.le_of_ble_eq_true rfl) ⟨Nat.le_of_ble_eq_true rfl, Nat.le_of_ble_eq_true rfl⟩ ⟨Nat.le_of_ble_eq_true rfl, Nat.le_of_ble_eq_true rfl⟩ (fun r σ14153 hp => ?_)
      obtain ⟨P14156, oP14156, rP14156, pr14157, h14154, hp⟩ := hp
      have h14155 := HS.trans h1 h14154 (by decide)
      have xP14156 := oP14156
      unfold OKP at xP14156
      unfold RP at rP14156
      have ga14158 := hp1.of (h14154.2 (c + 1) (by rw [kC_at (k := 1) (by decide)]; decide))
      have ga14159 := hp11.of (h14154.2 (c + 11) (by rw [kC_at (k := 11) (by decide)]; decide))
      obtain rfl := hp
      have rm14160 : RM σ14153 c n P14156 (lineS (tok t n) (st, 1, 0, P.a) P.n5 nm np P.n7 lc no sd md ln) := by rw [lineS_0]; exact pr14157
      cases eo14161 : lineS (tok t n) (st, 1, 0, P.a) P.n5 nm np P.n7 lc no sd md ln with
      | inl e8 =>
        rw [eo14161] at rm14160
        obtain ⟨⟨fa14162, fb14163⟩, c1, c2, c3⟩ := rm14160
        have nz8 : nI e8.1 ≠ 0 := fun e => absurd (nI_inj9 (b := 0) (by omega) (by omega) e) (by omega)
        refine m_goto F e_X10_readLine_26 ?_
        refine m_aload_n F rfl e_X10_readLine_146 ?_
        refine r_getC F e_X10_readLine_147 fl_X10_141 h14155 (fa14162) ?_
        refine m_if_ne F e_X10_readLine_150 (fun q150 => ?_) (fun q150 => ?_)
        · have c150 : e8.1 ≠ 0 := by have hh := mt (nI_eq (a := e8.1) (b := 0) (by omega) (by omega)).mpr q150; omega
          refine m_aload_n F rfl e_X10_readLine_166 ?_
          refine r_callV F e_X10_readLine_167 (q_X10_goOnG (x_l X) V c T Z u h P14156 L _ _  (nI e8.1) h14155.1 (hob) oP14156  (fa14162) (by assumption)) cb_X10_goOn ml_X10_154 im_X10_goOn se_X10_goOn h14155 rfl rfl (rest := []) rfl (Nat.le_of_ble_eq_true rfl) ⟨Nat.le_of_ble_eq_true rfl, Nat.le_of_ble_eq_true rfl⟩ ⟨Nat.le_of_ble_eq_true rfl, Nat.le_of_ble_eq_true rfl⟩ (fun r σ14164 hp => ?_)
          obtain ⟨h14165, hp⟩ := hp
          have h14166 := HS.trans h14155 h14165 (by decide)
          obtain ⟨rfl, rfl⟩ := hp
          refine m_aload_n F rfl e_X10_readLine_170 ?_
          refine m_dup F rfl e_X10_readLine_171 ?_
          refine r_get F e_X10_readLine_172 fl_X10_202 h14166 rfl (fun v hv f14167 => ?_)
          obtain ⟨x14168, rfl⟩ := hv
          refine m_iconst F (v := 1) (by decide) e_X10_readLine_175 ?_
          refine m_iadd F e_X10_readLine_176 ?_
          refine Wm.top (fun x14169 _ => ?_)
          refine r_put F (g' := (⟨T, Z, u, h, P14156, L⟩ : RG)) e_X10_readLine_177 fp_X10_202 h14166 (by decide) ⟨_, rfl⟩ (fun _ _ _ _ q => q) (fun _ _ _ q => q) rfl rfl (by decide) (fun σ14170 h14171 g14172 g14173 f14174 => ?_)
          exact m_vret F hQ e_X10_readLine_180 (⟨P14156, oP14156, (by unfold RP; omega), (by rw [eo14161]; show RM _ c n _ (.inl e8); exact RM.l ((g14173 23 (by decide)).trans fa14162) ((g14173 24 (by decide)).trans fb14163) (by omega) (by omega) (by omega)), (fun S2 hS _ => by rw [eo14161] at hS; cases hS), h14171, rfl⟩)
        · have c150 : e8.1 = 0 := (nI_eq (a := e8.1) (b := 0) (by omega) (by omega)).mp q150
          exact absurd q150 nz8
      | inr S1 =>
        rw [eo14161] at rm14160
        obtain ⟨⟨j1, j2, j3, j4⟩, nl3, nm3, np3, nc3, lc3, no3, sd3, md3, ln3⟩ := S1
        obtain ⟨so3, va3, fp3, mt3, yd3, ⟨pa3, p53, p73⟩, hN3, hM3, hK3, hF3, hG3, hQ3, c1, c2, c3, c4, c5⟩ := rm14160
        replace pa3 : _ = j4 := pa3
        replace c1 : j4 ≤ n := c1
        replace c2 : j1 ≤ n := c2
        have hyd14175 := yd3
        obtain ⟨yd14175, yd14176, yd14177, yd14178, yd14179, yd14180, yd14181⟩ := hyd14175
        refine m_goto F e_X10_readLine_26 ?_
        refine m_aload_n F rfl e_X10_readLine_146 ?_
        refine r_getC F e_X10_readLine_147 fl_X10_141 h14155 (yd14180) ?_
        refine m_if_ne F e_X10_readLine_150 (fun q => absurd (by decide) q) (fun _ => ?_)
        refine m_aload_n F rfl e_X10_readLine_153 ?_
        have hmt := mt3
        rcases hmt with ⟨rfl, rfl⟩ | ⟨rfl, rfl, rfl, hv3⟩ | ⟨rfl, rfl, rfl, hv3⟩ | ⟨rfl, rfl, w3, hw3, rfl, hm3⟩ | ⟨rfl, rfl⟩ | ⟨rfl, rfl⟩
        · refine r_getC F e_X10_readLine_154 fl_X10_110 h14155 (yd14178) ?_
          refine m_iconst F (v := 3) (by decide) e_X10_readLine_157 ?_
          refine m_icmp_eq F e_X10_readLine_158 (fun q => absurd q (by decide)) (fun _ => ?_)
          refine m_aload_n F rfl e_X10_readLine_161 ?_
          refine m_iconst F (v := 1) (by decide) e_X10_readLine_162 ?_
          refine r_callV F e_X10_readLine_163 (q_X10_wrongE (x_l X) V c T Z u h P14156 L _ _ 1 n j1 4 va3 ln3 fp3 h14155.1 (hob) oP14156 (by omega) ⟨(yd14175), (yd14176), (yd14177), (yd14178), (yd14179), (yd14180), (yd14181)⟩ (by decide)) cb_X10_wrong ml_X10_150 im_X10_wrong se_X10_wrong h14155 rfl rfl (rest := []) rfl (Nat.le_of_ble_eq_true rfl) ⟨Nat.le_of_ble_eq_true rfl, Nat.le_of_ble_eq_true rfl⟩ ⟨Nat.le_of_ble_eq_true rfl, Nat.le_of_ble_eq_true rfl⟩ (fun r σ14182 hp => ?_)
          obtain ⟨h14183, hp⟩ := hp
          have h14184 := HS.trans h14155 h14183 (by decide)
          have ga14185 := ga14158.of (h14183.2 (c + 1) (by rw [kC_at (k := 1) (by decide)]; decide))
          have ga14186 := hN3.of (h14183.2 (c + 2) (by rw [kC_at (k := 2) (by decide)]; decide))
          have ga14187 := hM3.of (h14183.2 (c + 3) (by rw [kC_at (k := 3) (by decide)]; decide))
          have ga14188 := hK3.of (h14183.2 (c + 7) (by rw [kC_at (k := 7) (by decide)]; decide))
          have ga14189 := hF3.of (h14183.2 (c + 8) (by rw [kC_at (k := 8) (by decide)]; decide))
          have ga14190 := hG3.of (h14183.2 (c + 9) (by rw [kC_at (k := 9) (by decide)]; decide))
          have ga14191 := hQ3.of (h14183.2 (c + 11) (by rw [kC_at (k := 11) (by decide)]; decide))
          obtain ⟨hp, rfl⟩ := hp
          have hyd14192 := hp
          obtain ⟨yd14192, yd14193, yd14194, yd14195, yd14196, yd14197, yd14198⟩ := hyd14192
          refine m_aload_n F rfl e_X10_readLine_166 ?_
          refine r_callV F e_X10_readLine_167 (q_X10_goOnG (x_l X) V c T 0 u h P14156 L _ _  1 h14184.1 (hob) oP14156  (yd14197) (by decide)) cb_X10_goOn ml_X10_154 im_X10_goOn se_X10_goOn h14184 rfl rfl (rest := []) rfl (Nat.le_of_ble_eq_true rfl) ⟨Nat.le_of_ble_eq_true rfl, Nat.le_of_ble_eq_true rfl⟩ ⟨Nat.le_of_ble_eq_true rfl, Nat.le_of_ble_eq_true rfl⟩ (fun r σ14199 hp => ?_)
          obtain ⟨h14200, hp⟩ := hp
          have h14201 := HS.trans h14184 h14200 (by decide)
          have ga14202 := ga14185.of (h14200.2 (c + 1) (by rw [kC_at (k := 1) (by decide)]; decide))
          have ga14203 := ga14186.of (h14200.2 (c + 2) (by rw [kC_at (k := 2) (by decide)]; decide))
          have ga14204 := ga14187.of (h14200.2 (c + 3) (by rw [kC_at (k := 3) (by decide)]; decide))
          have ga14205 := ga14188.of (h14200.2 (c + 7) (by rw [kC_at (k := 7) (by decide)]; decide))
          have ga14206 := ga14189.of (h14200.2 (c + 8) (by rw [kC_at (k := 8) (by decide)]; decide))
          have ga14207 := ga14190.of (h14200.2 (c + 9) (by rw [kC_at (k := 9) (by decide)]; decide))
          have ga14208 := ga14191.of (h14200.2 (c + 11) (by rw [kC_at (k := 11) (by decide)]; decide))
          obtain ⟨rfl, rfl⟩ := hp
          refine m_aload_n F rfl e_X10_readLine_170 ?_
          refine m_dup F rfl e_X10_readLine_171 ?_
          refine r_getC F e_X10_readLine_172 fl_X10_202 h14201 (yd14192) ?_
          refine m_iconst F (v := 1) (by decide) e_X10_readLine_175 ?_
          refine m_iadd F e_X10_readLine_176 ?_
          refine Wm.topE (w := nI (ln3 + 1)) (nI_add ln3 1) ?_
          refine r_put F (g' := (⟨T, 0, u, h, P14156, L⟩ : RG)) e_X10_readLine_177 fp_X10_202 h14201 (by decide) ⟨_, rfl⟩ (fun _ _ _ _ q => q) (fun _ _ _ q => q) rfl rfl (by decide) (fun σ14209 h14210 g14211 g14212 f14213 => ?_)
          have ga14214 := ga14185.of (g14211 _ (by omega))
          have ga14215 := ga14186.of (g14211 _ (by omega))
          have ga14216 := ga14187.of (g14211 _ (by omega))
          have ga14217 := ga14188.of (g14211 _ (by omega))
          have ga14218 := ga14189.of (g14211 _ (by omega))
          have ga14219 := ga14190.of (g14211 _ (by omega))
          have ga14220 := ga14191.of (g14211 _ (by omega))
          have h14221 : HS V c _ [0, 2, 17, 18, 19, 20, 21, 22, 23] _ _ := ⟨HR.mono (Z' := Z) (by intro e; first | rfl | assumption | omega) h14210.1, h14210.2⟩
          exact m_vret F hQ e_X10_readLine_180 (⟨P14156, oP14156, (by unfold RP; omega), (by rw [eo14161]; show RM _ c n _ (stopS (tok t n) (j1, 0, j3, j4) nl3 nm3 np3 nc3 lc3 no3 sd3 md3 ln3); rw [stopS_1 (by decide)]; exact RM.l ((g14212 23 (by decide)).trans yd14197) ((g14212 24 (by decide)).trans yd14198) (by omega) (by omega) (by omega)), (fun S2 hS _ => by rw [eo14161] at hS; replace hS : stopS (tok t n) (j1, 0, j3, j4) nl3 nm3 np3 nc3 lc3 no3 sd3 md3 ln3 = .inr S2 := hS; rw [stopS_1 (by decide)] at hS; cases hS), h14221, rfl⟩)
        · refine r_getC F e_X10_readLine_154 fl_X10_110 h14155 (yd14178) ?_
          refine m_iconst F (v := 3) (by decide) e_X10_readLine_157 ?_
          refine m_icmp_eq F e_X10_readLine_158 (fun q => absurd q (by decide)) (fun _ => ?_)
          refine m_aload_n F rfl e_X10_readLine_161 ?_
          refine m_iconst F (v := 1) (by decide) e_X10_readLine_162 ?_
          refine r_callV F e_X10_readLine_163 (q_X10_wrongE (x_l X) V c T Z u h P14156 L _ _ 1 n j1 0 (nI j3) ln3 fp3 h14155.1 (hob) oP14156 (by omega) ⟨(yd14175), (yd14176), (yd14177), (yd14178), (yd14179), (yd14180), (yd14181)⟩ (by decide)) cb_X10_wrong ml_X10_150 im_X10_wrong se_X10_wrong h14155 rfl rfl (rest := []) rfl (Nat.le_of_ble_eq_true rfl) ⟨Nat.le_of_ble_eq_true rfl, Nat.le_of_ble_eq_true rfl⟩ ⟨Nat.le_of_ble_eq_true rfl, Nat.le_of_ble_eq_true rfl⟩ (fun r σ14222 hp => ?_)
          obtain ⟨h14223, hp⟩ := hp
          have h14224 := HS.trans h14155 h14223 (by decide)
          have ga14225 := ga14158.of (h14223.2 (c + 1) (by rw [kC_at (k := 1) (by decide)]; decide))
          have ga14226 := hN3.of (h14223.2 (c + 2) (by rw [kC_at (k := 2) (by decide)]; decide))
          have ga14227 := hM3.of (h14223.2 (c + 3) (by rw [kC_at (k := 3) (by decide)]; decide))
          have ga14228 := hK3.of (h14223.2 (c + 7) (by rw [kC_at (k := 7) (by decide)]; decide))
          have ga14229 := hF3.of (h14223.2 (c + 8) (by rw [kC_at (k := 8) (by decide)]; decide))
          have ga14230 := hG3.of (h14223.2 (c + 9) (by rw [kC_at (k := 9) (by decide)]; decide))
          have ga14231 := hQ3.of (h14223.2 (c + 11) (by rw [kC_at (k := 11) (by decide)]; decide))
          obtain ⟨hp, rfl⟩ := hp
          have hyd14232 := hp
          obtain ⟨yd14232, yd14233, yd14234, yd14235, yd14236, yd14237, yd14238⟩ := hyd14232
          refine m_aload_n F rfl e_X10_readLine_166 ?_
          refine r_callV F e_X10_readLine_167 (q_X10_goOnG (x_l X) V c T 0 u h P14156 L _ _  1 h14224.1 (hob) oP14156  (yd14237) (by decide)) cb_X10_goOn ml_X10_154 im_X10_goOn se_X10_goOn h14224 rfl rfl (rest := []) rfl (Nat.le_of_ble_eq_true rfl) ⟨Nat.le_of_ble_eq_true rfl, Nat.le_of_ble_eq_true rfl⟩ ⟨Nat.le_of_ble_eq_true rfl, Nat.le_of_ble_eq_true rfl⟩ (fun r σ14239 hp => ?_)
          obtain ⟨h14240, hp⟩ := hp
          have h14241 := HS.trans h14224 h14240 (by decide)
          have ga14242 := ga14225.of (h14240.2 (c + 1) (by rw [kC_at (k := 1) (by decide)]; decide))
          have ga14243 := ga14226.of (h14240.2 (c + 2) (by rw [kC_at (k := 2) (by decide)]; decide))
          have ga14244 := ga14227.of (h14240.2 (c + 3) (by rw [kC_at (k := 3) (by decide)]; decide))
          have ga14245 := ga14228.of (h14240.2 (c + 7) (by rw [kC_at (k := 7) (by decide)]; decide))
          have ga14246 := ga14229.of (h14240.2 (c + 8) (by rw [kC_at (k := 8) (by decide)]; decide))
          have ga14247 := ga14230.of (h14240.2 (c + 9) (by rw [kC_at (k := 9) (by decide)]; decide))
          have ga14248 := ga14231.of (h14240.2 (c + 11) (by rw [kC_at (k := 11) (by decide)]; decide))
          obtain ⟨rfl, rfl⟩ := hp
          refine m_aload_n F rfl e_X10_readLine_170 ?_
          refine m_dup F rfl e_X10_readLine_171 ?_
          refine r_getC F e_X10_readLine_172 fl_X10_202 h14241 (yd14232) ?_
          refine m_iconst F (v := 1) (by decide) e_X10_readLine_175 ?_
          refine m_iadd F e_X10_readLine_176 ?_
          refine Wm.topE (w := nI (ln3 + 1)) (nI_add ln3 1) ?_
          refine r_put F (g' := (⟨T, 0, u, h, P14156, L⟩ : RG)) e_X10_readLine_177 fp_X10_202 h14241 (by decide) ⟨_, rfl⟩ (fun _ _ _ _ q => q) (fun _ _ _ q => q) rfl rfl (by decide) (fun σ14249 h14250 g14251 g14252 f14253 => ?_)
          have ga14254 := ga14225.of (g14251 _ (by omega))
          have ga14255 := ga14226.of (g14251 _ (by omega))
          have ga14256 := ga14227.of (g14251 _ (by omega))
          have ga14257 := ga14228.of (g14251 _ (by omega))
          have ga14258 := ga14229.of (g14251 _ (by omega))
          have ga14259 := ga14230.of (g14251 _ (by omega))
          have ga14260 := ga14231.of (g14251 _ (by omega))
          have h14261 : HS V c _ [0, 2, 17, 18, 19, 20, 21, 22, 23] _ _ := ⟨HR.mono (Z' := Z) (by intro e; first | rfl | assumption | omega) h14250.1, h14250.2⟩
          exact m_vret F hQ e_X10_readLine_180 (⟨P14156, oP14156, (by unfold RP; omega), (by rw [eo14161]; show RM _ c n _ (stopS (tok t n) (j1, 1, j3, j4) nl3 nm3 np3 nc3 lc3 no3 sd3 md3 ln3); rw [stopS_1 (by decide)]; exact RM.l ((g14252 23 (by decide)).trans yd14237) ((g14252 24 (by decide)).trans yd14238) (by omega) (by omega) (by omega)), (fun S2 hS _ => by rw [eo14161] at hS; replace hS : stopS (tok t n) (j1, 1, j3, j4) nl3 nm3 np3 nc3 lc3 no3 sd3 md3 ln3 = .inr S2 := hS; rw [stopS_1 (by decide)] at hS; cases hS), h14261, rfl⟩)
        · refine r_getC F e_X10_readLine_154 fl_X10_110 h14155 (yd14178) ?_
          refine m_iconst F (v := 3) (by decide) e_X10_readLine_157 ?_
          refine m_icmp_eq F e_X10_readLine_158 (fun q => absurd q (by decide)) (fun _ => ?_)
          refine m_aload_n F rfl e_X10_readLine_161 ?_
          refine m_iconst F (v := 1) (by decide) e_X10_readLine_162 ?_
          refine r_callV F e_X10_readLine_163 (q_X10_wrongE (x_l X) V c T Z u h P14156 L _ _ 1 n j1 1 (nI j3) ln3 fp3 h14155.1 (hob) oP14156 (by omega) ⟨(yd14175), (yd14176), (yd14177), (yd14178), (yd14179), (yd14180), (yd14181)⟩ (by decide)) cb_X10_wrong ml_X10_150 im_X10_wrong se_X10_wrong h14155 rfl rfl (rest := []) rfl (Nat.le_of_ble_eq_true rfl) ⟨Nat.le_of_ble_eq_true rfl, Nat.le_of_ble_eq_true rfl⟩ ⟨Nat.le_of_ble_eq_true rfl, Nat.le_of_ble_eq_true rfl⟩ (fun r σ14262 hp => ?_)
          obtain ⟨h14263, hp⟩ := hp
          have h14264 := HS.trans h14155 h14263 (by decide)
          have ga14265 := ga14158.of (h14263.2 (c + 1) (by rw [kC_at (k := 1) (by decide)]; decide))
          have ga14266 := hN3.of (h14263.2 (c + 2) (by rw [kC_at (k := 2) (by decide)]; decide))
          have ga14267 := hM3.of (h14263.2 (c + 3) (by rw [kC_at (k := 3) (by decide)]; decide))
          have ga14268 := hK3.of (h14263.2 (c + 7) (by rw [kC_at (k := 7) (by decide)]; decide))
          have ga14269 := hF3.of (h14263.2 (c + 8) (by rw [kC_at (k := 8) (by decide)]; decide))
          have ga14270 := hG3.of (h14263.2 (c + 9) (by rw [kC_at (k := 9) (by decide)]; decide))
          have ga14271 := hQ3.of (h14263.2 (c + 11) (by rw [kC_at (k := 11) (by decide)]; decide))
          obtain ⟨hp, rfl⟩ := hp
          have hyd14272 := hp
          obtain ⟨yd14272, yd14273, yd14274, yd14275, yd14276, yd14277, yd14278⟩ := hyd14272
          refine m_aload_n F rfl e_X10_readLine_166 ?_
          refine r_callV F e_X10_readLine_167 (q_X10_goOnG (x_l X) V c T 0 u h P14156 L _ _  1 h14264.1 (hob) oP14156  (yd14277) (by decide)) cb_X10_goOn ml_X10_154 im_X10_goOn se_X10_goOn h14264 rfl rfl (rest := []) rfl (Nat.le_of_ble_eq_true rfl) ⟨Nat.le_of_ble_eq_true rfl, Nat.le_of_ble_eq_true rfl⟩ ⟨Nat.le_of_ble_eq_true rfl, Nat.le_of_ble_eq_true rfl⟩ (fun r σ14279 hp => ?_)
          obtain ⟨h14280, hp⟩ := hp
          have h14281 := HS.trans h14264 h14280 (by decide)
          have ga14282 := ga14265.of (h14280.2 (c + 1) (by rw [kC_at (k := 1) (by decide)]; decide))
          have ga14283 := ga14266.of (h14280.2 (c + 2) (by rw [kC_at (k := 2) (by decide)]; decide))
          have ga14284 := ga14267.of (h14280.2 (c + 3) (by rw [kC_at (k := 3) (by decide)]; decide))
          have ga14285 := ga14268.of (h14280.2 (c + 7) (by rw [kC_at (k := 7) (by decide)]; decide))
          have ga14286 := ga14269.of (h14280.2 (c + 8) (by rw [kC_at (k := 8) (by decide)]; decide))
          have ga14287 := ga14270.of (h14280.2 (c + 9) (by rw [kC_at (k := 9) (by decide)]; decide))
          have ga14288 := ga14271.of (h14280.2 (c + 11) (by rw [kC_at (k := 11) (by decide)]; decide))
          obtain ⟨rfl, rfl⟩ := hp
          refine m_aload_n F rfl e_X10_readLine_170 ?_
          refine m_dup F rfl e_X10_readLine_171 ?_
          refine r_getC F e_X10_readLine_172 fl_X10_202 h14281 (yd14272) ?_
          refine m_iconst F (v := 1) (by decide) e_X10_readLine_175 ?_
          refine m_iadd F e_X10_readLine_176 ?_
          refine Wm.topE (w := nI (ln3 + 1)) (nI_add ln3 1) ?_
          refine r_put F (g' := (⟨T, 0, u, h, P14156, L⟩ : RG)) e_X10_readLine_177 fp_X10_202 h14281 (by decide) ⟨_, rfl⟩ (fun _ _ _ _ q => q) (fun _ _ _ q => q) rfl rfl (by decide) (fun σ14289 h14290 g14291 g14292 f14293 => ?_)
          have ga14294 := ga14265.of (g14291 _ (by omega))
          have ga14295 := ga14266.of (g14291 _ (by omega))
          have ga14296 := ga14267.of (g14291 _ (by omega))
          have ga14297 := ga14268.of (g14291 _ (by omega))
          have ga14298 := ga14269.of (g14291 _ (by omega))
          have ga14299 := ga14270.of (g14291 _ (by omega))
          have ga14300 := ga14271.of (g14291 _ (by omega))
          have h14301 : HS V c _ [0, 2, 17, 18, 19, 20, 21, 22, 23] _ _ := ⟨HR.mono (Z' := Z) (by intro e; first | rfl | assumption | omega) h14290.1, h14290.2⟩
          exact m_vret F hQ e_X10_readLine_180 (⟨P14156, oP14156, (by unfold RP; omega), (by rw [eo14161]; show RM _ c n _ (stopS (tok t n) (j1, 2, j3, j4) nl3 nm3 np3 nc3 lc3 no3 sd3 md3 ln3); rw [stopS_1 (by decide)]; exact RM.l ((g14292 23 (by decide)).trans yd14277) ((g14292 24 (by decide)).trans yd14278) (by omega) (by omega) (by omega)), (fun S2 hS _ => by rw [eo14161] at hS; replace hS : stopS (tok t n) (j1, 2, j3, j4) nl3 nm3 np3 nc3 lc3 no3 sd3 md3 ln3 = .inr S2 := hS; rw [stopS_1 (by decide)] at hS; cases hS), h14301, rfl⟩)
        · refine r_getC F e_X10_readLine_154 fl_X10_110 h14155 (yd14178) ?_
          refine m_iconst F (v := 3) (by decide) e_X10_readLine_157 ?_
          refine m_icmp_eq F e_X10_readLine_158 (fun q => absurd q (by decide)) (fun _ => ?_)
          refine m_aload_n F rfl e_X10_readLine_161 ?_
          refine m_iconst F (v := 1) (by decide) e_X10_readLine_162 ?_
          refine r_callV F e_X10_readLine_163 (q_X10_wrongE (x_l X) V c T Z u h P14156 L _ _ 1 n j1 2 (nI w3) ln3 fp3 h14155.1 (hob) oP14156 (by omega) ⟨(yd14175), (yd14176), (yd14177), (yd14178), (yd14179), (yd14180), (yd14181)⟩ (by decide)) cb_X10_wrong ml_X10_150 im_X10_wrong se_X10_wrong h14155 rfl rfl (rest := []) rfl (Nat.le_of_ble_eq_true rfl) ⟨Nat.le_of_ble_eq_true rfl, Nat.le_of_ble_eq_true rfl⟩ ⟨Nat.le_of_ble_eq_true rfl, Nat.le_of_ble_eq_true rfl⟩ (fun r σ14302 hp => ?_)
          obtain ⟨h14303, hp⟩ := hp
          have h14304 := HS.trans h14155 h14303 (by decide)
          have ga14305 := ga14158.of (h14303.2 (c + 1) (by rw [kC_at (k := 1) (by decide)]; decide))
          have ga14306 := hN3.of (h14303.2 (c + 2) (by rw [kC_at (k := 2) (by decide)]; decide))
          have ga14307 := hM3.of (h14303.2 (c + 3) (by rw [kC_at (k := 3) (by decide)]; decide))
          have ga14308 := hK3.of (h14303.2 (c + 7) (by rw [kC_at (k := 7) (by decide)]; decide))
          have ga14309 := hF3.of (h14303.2 (c + 8) (by rw [kC_at (k := 8) (by decide)]; decide))
          have ga14310 := hG3.of (h14303.2 (c + 9) (by rw [kC_at (k := 9) (by decide)]; decide))
          have ga14311 := hQ3.of (h14303.2 (c + 11) (by rw [kC_at (k := 11) (by decide)]; decide))
          obtain ⟨hp, rfl⟩ := hp
          have hyd14312 := hp
          obtain ⟨yd14312, yd14313, yd14314, yd14315, yd14316, yd14317, yd14318⟩ := hyd14312
          refine m_aload_n F rfl e_X10_readLine_166 ?_
          refine r_callV F e_X10_readLine_167 (q_X10_goOnG (x_l X) V c T 0 u h P14156 L _ _  1 h14304.1 (hob) oP14156  (yd14317) (by decide)) cb_X10_goOn ml_X10_154 im_X10_goOn se_X10_goOn h14304 rfl rfl (rest := []) rfl (Nat.le_of_ble_eq_true rfl) ⟨Nat.le_of_ble_eq_true rfl, Nat.le_of_ble_eq_true rfl⟩ ⟨Nat.le_of_ble_eq_true rfl, Nat.le_of_ble_eq_true rfl⟩ (fun r σ14319 hp => ?_)
          obtain ⟨h14320, hp⟩ := hp
          have h14321 := HS.trans h14304 h14320 (by decide)
          have ga14322 := ga14305.of (h14320.2 (c + 1) (by rw [kC_at (k := 1) (by decide)]; decide))
          have ga14323 := ga14306.of (h14320.2 (c + 2) (by rw [kC_at (k := 2) (by decide)]; decide))
          have ga14324 := ga14307.of (h14320.2 (c + 3) (by rw [kC_at (k := 3) (by decide)]; decide))
          have ga14325 := ga14308.of (h14320.2 (c + 7) (by rw [kC_at (k := 7) (by decide)]; decide))
          have ga14326 := ga14309.of (h14320.2 (c + 8) (by rw [kC_at (k := 8) (by decide)]; decide))
          have ga14327 := ga14310.of (h14320.2 (c + 9) (by rw [kC_at (k := 9) (by decide)]; decide))
          have ga14328 := ga14311.of (h14320.2 (c + 11) (by rw [kC_at (k := 11) (by decide)]; decide))
          obtain ⟨rfl, rfl⟩ := hp
          refine m_aload_n F rfl e_X10_readLine_170 ?_
          refine m_dup F rfl e_X10_readLine_171 ?_
          refine r_getC F e_X10_readLine_172 fl_X10_202 h14321 (yd14312) ?_
          refine m_iconst F (v := 1) (by decide) e_X10_readLine_175 ?_
          refine m_iadd F e_X10_readLine_176 ?_
          refine Wm.topE (w := nI (ln3 + 1)) (nI_add ln3 1) ?_
          refine r_put F (g' := (⟨T, 0, u, h, P14156, L⟩ : RG)) e_X10_readLine_177 fp_X10_202 h14321 (by decide) ⟨_, rfl⟩ (fun _ _ _ _ q => q) (fun _ _ _ q => q) rfl rfl (by decide) (fun σ14329 h14330 g14331 g14332 f14333 => ?_)
          have ga14334 := ga14305.of (g14331 _ (by omega))
          have ga14335 := ga14306.of (g14331 _ (by omega))
          have ga14336 := ga14307.of (g14331 _ (by omega))
          have ga14337 := ga14308.of (g14331 _ (by omega))
          have ga14338 := ga14309.of (g14331 _ (by omega))
          have ga14339 := ga14310.of (g14331 _ (by omega))
          have ga14340 := ga14311.of (g14331 _ (by omega))
          have h14341 : HS V c _ [0, 2, 17, 18, 19, 20, 21, 22, 23] _ _ := ⟨HR.mono (Z' := Z) (by intro e; first | rfl | assumption | omega) h14330.1, h14330.2⟩
          exact m_vret F hQ e_X10_readLine_180 (⟨P14156, oP14156, (by unfold RP; omega), (by rw [eo14161]; show RM _ c n _ (stopS (tok t n) (j1, 3, j3, j4) nl3 nm3 np3 nc3 lc3 no3 sd3 md3 ln3); rw [stopS_1 (by decide)]; exact RM.l ((g14332 23 (by decide)).trans yd14317) ((g14332 24 (by decide)).trans yd14318) (by omega) (by omega) (by omega)), (fun S2 hS _ => by rw [eo14161] at hS; replace hS : stopS (tok t n) (j1, 3, j3, j4) nl3 nm3 np3 nc3 lc3 no3 sd3 md3 ln3 = .inr S2 := hS; rw [stopS_1 (by decide)] at hS; cases hS), h14341, rfl⟩)
        · refine r_getC F e_X10_readLine_154 fl_X10_110 h14155 (yd14178) ?_
          refine m_iconst F (v := 3) (by decide) e_X10_readLine_157 ?_
          refine m_icmp_eq F e_X10_readLine_158 (fun _ => ?_) (fun q => absurd (by decide) q)
          refine m_aload_n F rfl e_X10_readLine_166 ?_
          refine r_callV F e_X10_readLine_167 (q_X10_goOnE (x_l X) V c T Z u h P14156 L _ _  n j1 3 va3 ln3 fp3 t h14155.1 (hob) oP14156  ⟨(yd14175), (yd14176), (yd14177), (yd14178), (yd14179), (yd14180), (yd14181)⟩ ga14158 hn7 (by omega)) cb_X10_goOn ml_X10_154 im_X10_goOn se_X10_goOn h14155 rfl rfl (rest := []) rfl (Nat.le_of_ble_eq_true rfl) ⟨Nat.le_of_ble_eq_true rfl, Nat.le_of_ble_eq_true rfl⟩ ⟨Nat.le_of_ble_eq_true rfl, Nat.le_of_ble_eq_true rfl⟩ (fun r σ14342 hp => ?_)
          obtain ⟨P14345, oP14345, rP14345, pr14346, pr14347, h14343, hp⟩ := hp
          have h14344 := HS.trans h14155 h14343 (by decide)
          have xP14345 := oP14345
          unfold OKP at xP14345
          unfold RA at rP14345
          have ga14348 := ga14158.of (h14343.2 (c + 1) (by rw [kC_at (k := 1) (by decide)]; decide))
          have ga14349 := hN3.of (h14343.2 (c + 2) (by rw [kC_at (k := 2) (by decide)]; decide))
          have ga14350 := hM3.of (h14343.2 (c + 3) (by rw [kC_at (k := 3) (by decide)]; decide))
          have ga14351 := hK3.of (h14343.2 (c + 7) (by rw [kC_at (k := 7) (by decide)]; decide))
          have ga14352 := hF3.of (h14343.2 (c + 8) (by rw [kC_at (k := 8) (by decide)]; decide))
          have ga14353 := hG3.of (h14343.2 (c + 9) (by rw [kC_at (k := 9) (by decide)]; decide))
          have ga14354 := hQ3.of (h14343.2 (c + 11) (by rw [kC_at (k := 11) (by decide)]; decide))
          obtain rfl := hp
          rw [pa3] at pr14346 pr14347
          have b8 := tok_ok (t := t) (n := n) j4 c1
          obtain ⟨so14355, va14356, mt14357, yd14358⟩ := pr14347
          have hyd14359 := yd14358
          obtain ⟨yd14359, yd14360, yd14361, yd14362, yd14363, yd14364, yd14365⟩ := hyd14359
          refine m_aload_n F rfl e_X10_readLine_170 ?_
          refine m_dup F rfl e_X10_readLine_171 ?_
          refine r_getC F e_X10_readLine_172 fl_X10_202 h14344 (yd14359) ?_
          refine m_iconst F (v := 1) (by decide) e_X10_readLine_175 ?_
          refine m_iadd F e_X10_readLine_176 ?_
          refine Wm.topE (w := nI (ln3 + 1)) (nI_add ln3 1) ?_
          refine r_put F (g' := (⟨T, Z, u, h, P14345, L⟩ : RG)) e_X10_readLine_177 fp_X10_202 h14344 (by decide) ⟨_, rfl⟩ (fun _ _ _ _ q => q) (fun _ _ _ q => q) rfl rfl (by decide) (fun σ14366 h14367 g14368 g14369 f14370 => ?_)
          have ga14371 := ga14348.of (g14368 _ (by omega))
          have ga14372 := ga14349.of (g14368 _ (by omega))
          have ga14373 := ga14350.of (g14368 _ (by omega))
          have ga14374 := ga14351.of (g14368 _ (by omega))
          have ga14375 := ga14352.of (g14368 _ (by omega))
          have ga14376 := ga14353.of (g14368 _ (by omega))
          have ga14377 := ga14354.of (g14368 _ (by omega))
          exact m_vret F hQ e_X10_readLine_180 (⟨P14345, oP14345, (by unfold RP; omega), (by rw [eo14161]; show RM _ c n _ (stopS (tok t n) (j1, 4, j3, j4) nl3 nm3 np3 nc3 lc3 no3 sd3 md3 ln3); rw [stopS_ok]; exact RM.r mt14357 ⟨(f14370), ((g14369 18 (by decide)).trans yd14360), ((g14369 20 (by decide)).trans yd14361), ((g14369 21 (by decide)).trans yd14362), ((g14369 22 (by decide)).trans yd14363), ((g14369 23 (by decide)).trans yd14364), ((g14369 24 (by decide)).trans yd14365)⟩ (by omega) (by omega) (by omega) ga14372 ga14373 ga14374 ga14375 ga14376 ga14377 (by omega) (by omega) (by omega) (by omega) (by omega)), (fun S2 hS hz => by rw [eo14161] at hS; replace hS : stopS (tok t n) (j1, 4, j3, j4) nl3 nm3 np3 nc3 lc3 no3 sd3 md3 ln3 = .inr S2 := hS; rw [stopS_ok] at hS; cases hS; replace hz : (tok t n j4).2.1 ≠ 0 := hz; have h8 := b8.2.2.2 hz; omega), h14367, rfl⟩)
        · refine r_getC F e_X10_readLine_154 fl_X10_110 h14155 (yd14178) ?_
          refine m_iconst F (v := 3) (by decide) e_X10_readLine_157 ?_
          refine m_icmp_eq F e_X10_readLine_158 (fun q => absurd q (by decide)) (fun _ => ?_)
          refine m_aload_n F rfl e_X10_readLine_161 ?_
          refine m_iconst F (v := 1) (by decide) e_X10_readLine_162 ?_
          refine r_callV F e_X10_readLine_163 (q_X10_wrongE (x_l X) V c T Z u h P14156 L _ _ 1 n j1 5 va3 ln3 fp3 h14155.1 (hob) oP14156 (by omega) ⟨(yd14175), (yd14176), (yd14177), (yd14178), (yd14179), (yd14180), (yd14181)⟩ (by decide)) cb_X10_wrong ml_X10_150 im_X10_wrong se_X10_wrong h14155 rfl rfl (rest := []) rfl (Nat.le_of_ble_eq_true rfl) ⟨Nat.le_of_ble_eq_true rfl, Nat.le_of_ble_eq_true rfl⟩ ⟨Nat.le_of_ble_eq_true rfl, Nat.le_of_ble_eq_true rfl⟩ (fun r σ14378 hp => ?_)
          obtain ⟨h14379, hp⟩ := hp
          have h14380 := HS.trans h14155 h14379 (by decide)
          have ga14381 := ga14158.of (h14379.2 (c + 1) (by rw [kC_at (k := 1) (by decide)]; decide))
          have ga14382 := hN3.of (h14379.2 (c + 2) (by rw [kC_at (k := 2) (by decide)]; decide))
          have ga14383 := hM3.of (h14379.2 (c + 3) (by rw [kC_at (k := 3) (by decide)]; decide))
          have ga14384 := hK3.of (h14379.2 (c + 7) (by rw [kC_at (k := 7) (by decide)]; decide))
          have ga14385 := hF3.of (h14379.2 (c + 8) (by rw [kC_at (k := 8) (by decide)]; decide))
          have ga14386 := hG3.of (h14379.2 (c + 9) (by rw [kC_at (k := 9) (by decide)]; decide))
          have ga14387 := hQ3.of (h14379.2 (c + 11) (by rw [kC_at (k := 11) (by decide)]; decide))
          obtain ⟨hp, rfl⟩ := hp
          have hyd14388 := hp
          obtain ⟨yd14388, yd14389, yd14390, yd14391, yd14392, yd14393, yd14394⟩ := hyd14388
          refine m_aload_n F rfl e_X10_readLine_166 ?_
          refine r_callV F e_X10_readLine_167 (q_X10_goOnG (x_l X) V c T 0 u h P14156 L _ _  1 h14380.1 (hob) oP14156  (yd14393) (by decide)) cb_X10_goOn ml_X10_154 im_X10_goOn se_X10_goOn h14380 rfl rfl (rest := []) rfl (Nat.le_of_ble_eq_true rfl) ⟨Nat.le_of_ble_eq_true rfl, Nat.le_of_ble_eq_true rfl⟩ ⟨Nat.le_of_ble_eq_true rfl, Nat.le_of_ble_eq_true rfl⟩ (fun r σ14395 hp => ?_)
          obtain ⟨h14396, hp⟩ := hp
          have h14397 := HS.trans h14380 h14396 (by decide)
          have ga14398 := ga14381.of (h14396.2 (c + 1) (by rw [kC_at (k := 1) (by decide)]; decide))
          have ga14399 := ga14382.of (h14396.2 (c + 2) (by rw [kC_at (k := 2) (by decide)]; decide))
          have ga14400 := ga14383.of (h14396.2 (c + 3) (by rw [kC_at (k := 3) (by decide)]; decide))
          have ga14401 := ga14384.of (h14396.2 (c + 7) (by rw [kC_at (k := 7) (by decide)]; decide))
          have ga14402 := ga14385.of (h14396.2 (c + 8) (by rw [kC_at (k := 8) (by decide)]; decide))
          have ga14403 := ga14386.of (h14396.2 (c + 9) (by rw [kC_at (k := 9) (by decide)]; decide))
          have ga14404 := ga14387.of (h14396.2 (c + 11) (by rw [kC_at (k := 11) (by decide)]; decide))
          obtain ⟨rfl, rfl⟩ := hp
          refine m_aload_n F rfl e_X10_readLine_170 ?_
          refine m_dup F rfl e_X10_readLine_171 ?_
          refine r_getC F e_X10_readLine_172 fl_X10_202 h14397 (yd14388) ?_
          refine m_iconst F (v := 1) (by decide) e_X10_readLine_175 ?_
          refine m_iadd F e_X10_readLine_176 ?_
          refine Wm.topE (w := nI (ln3 + 1)) (nI_add ln3 1) ?_
          refine r_put F (g' := (⟨T, 0, u, h, P14156, L⟩ : RG)) e_X10_readLine_177 fp_X10_202 h14397 (by decide) ⟨_, rfl⟩ (fun _ _ _ _ q => q) (fun _ _ _ q => q) rfl rfl (by decide) (fun σ14405 h14406 g14407 g14408 f14409 => ?_)
          have ga14410 := ga14381.of (g14407 _ (by omega))
          have ga14411 := ga14382.of (g14407 _ (by omega))
          have ga14412 := ga14383.of (g14407 _ (by omega))
          have ga14413 := ga14384.of (g14407 _ (by omega))
          have ga14414 := ga14385.of (g14407 _ (by omega))
          have ga14415 := ga14386.of (g14407 _ (by omega))
          have ga14416 := ga14387.of (g14407 _ (by omega))
          have h14417 : HS V c _ [0, 2, 17, 18, 19, 20, 21, 22, 23] _ _ := ⟨HR.mono (Z' := Z) (by intro e; first | rfl | assumption | omega) h14406.1, h14406.2⟩
          exact m_vret F hQ e_X10_readLine_180 (⟨P14156, oP14156, (by unfold RP; omega), (by rw [eo14161]; show RM _ c n _ (stopS (tok t n) (j1, 5, j3, j4) nl3 nm3 np3 nc3 lc3 no3 sd3 md3 ln3); rw [stopS_1 (by decide)]; exact RM.l ((g14408 23 (by decide)).trans yd14393) ((g14408 24 (by decide)).trans yd14394) (by omega) (by omega) (by omega)), (fun S2 hS _ => by rw [eo14161] at hS; replace hS : stopS (tok t n) (j1, 5, j3, j4) nl3 nm3 np3 nc3 lc3 no3 sd3 md3 ln3 = .inr S2 := hS; rw [stopS_1 (by decide)] at hS; cases hS), h14417, rfl⟩)
    · refine r_getC F e_X10_readLine_1 fl_X10_110 h1 (yd14109) ?_
      refine m_if_eq F e_X10_readLine_4 (fun _ => ?_) (fun q => absurd (by decide) q)
      refine m_aload_n F rfl e_X10_readLine_15 ?_
      refine r_getC F e_X10_readLine_16 fl_X10_120 h1 (yd14110) ?_
      refine m_if_ne F e_X10_readLine_19 (fun _ => ?_) (fun q => absurd q (by decide))
      refine m_aload_n F rfl e_X10_readLine_29 ?_
      refine r_getC F e_X10_readLine_30 fl_X10_120 h1 (yd14110) ?_
      refine m_iconst F (v := 1) (by decide) e_X10_readLine_33 ?_
      refine m_icmp_ne F e_X10_readLine_34 (fun q => absurd (by decide) q) (fun _ => ?_)
      refine m_aload_n F rfl e_X10_readLine_37 ?_
      refine r_callV F e_X10_readLine_38 (q_X10_readPayE (x_l X) V c T Z u h P L _ _  n st 0 1 ln fp t 1 1 nm np lc no sd md h1.1 (hob) hP  ⟨(yd14106), (yd14107), (yd14108), (yd14109), (yd14110), (yd14111), (yd14112)⟩ hp1 hn7 (by omega) hp4 hp5 hp6 hp7 hp8 hp9 hp10 hp11 hp12 hp13 hp14) cb_X10_readPay ml_X10_181 im_X10_readPay se_X10_readPay h1 rfl rfl (rest := []) rfl (Nat.le_of_ble_eq_true rfl) ⟨Nat.le_of_ble_eq_true rfl, Nat.le_of_ble_eq_true rfl⟩ ⟨Nat.le_of_ble_eq_true rfl, Nat.le_of_ble_eq_true rfl⟩ (fun r σ14418 hp => ?_)
      obtain ⟨P14421, oP14421, rP14421, pr14422, h14419, hp⟩ := hp
      have h14420 := HS.trans h1 h14419 (by decide)
      have xP14421 := oP14421
      unfold OKP at xP14421
      unfold RP at rP14421
      have ga14423 := hp1.of (h14419.2 (c + 1) (by rw [kC_at (k := 1) (by decide)]; decide))
      have ga14424 := hp7.of (h14419.2 (c + 3) (by rw [kC_at (k := 3) (by decide)]; decide))
      have ga14425 := hp8.of (h14419.2 (c + 7) (by rw [kC_at (k := 7) (by decide)]; decide))
      have ga14426 := hp9.of (h14419.2 (c + 8) (by rw [kC_at (k := 8) (by decide)]; decide))
      have ga14427 := hp10.of (h14419.2 (c + 9) (by rw [kC_at (k := 9) (by decide)]; decide))
      have ga14428 := hp11.of (h14419.2 (c + 11) (by rw [kC_at (k := 11) (by decide)]; decide))
      obtain rfl := hp
      have rm14429 : RM σ14418 c n P14421 (lineS (tok t n) (st, 1, 1, P.a) P.n5 nm np P.n7 lc no sd md ln) := by rw [lineS_1]; exact pr14422
      cases eo14430 : lineS (tok t n) (st, 1, 1, P.a) P.n5 nm np P.n7 lc no sd md ln with
      | inl e8 =>
        rw [eo14430] at rm14429
        obtain ⟨⟨fa14431, fb14432⟩, c1, c2, c3⟩ := rm14429
        have nz8 : nI e8.1 ≠ 0 := fun e => absurd (nI_inj9 (b := 0) (by omega) (by omega) e) (by omega)
        refine m_goto F e_X10_readLine_41 ?_
        refine m_aload_n F rfl e_X10_readLine_146 ?_
        refine r_getC F e_X10_readLine_147 fl_X10_141 h14420 (fa14431) ?_
        refine m_if_ne F e_X10_readLine_150 (fun q150 => ?_) (fun q150 => ?_)
        · have c150 : e8.1 ≠ 0 := by have hh := mt (nI_eq (a := e8.1) (b := 0) (by omega) (by omega)).mpr q150; omega
          refine m_aload_n F rfl e_X10_readLine_166 ?_
          refine r_callV F e_X10_readLine_167 (q_X10_goOnG (x_l X) V c T Z u h P14421 L _ _  (nI e8.1) h14420.1 (hob) oP14421  (fa14431) (by assumption)) cb_X10_goOn ml_X10_154 im_X10_goOn se_X10_goOn h14420 rfl rfl (rest := []) rfl (Nat.le_of_ble_eq_true rfl) ⟨Nat.le_of_ble_eq_true rfl, Nat.le_of_ble_eq_true rfl⟩ ⟨Nat.le_of_ble_eq_true rfl, Nat.le_of_ble_eq_true rfl⟩ (fun r σ14433 hp => ?_)
          obtain ⟨h14434, hp⟩ := hp
          have h14435 := HS.trans h14420 h14434 (by decide)
          obtain ⟨rfl, rfl⟩ := hp
          refine m_aload_n F rfl e_X10_readLine_170 ?_
          refine m_dup F rfl e_X10_readLine_171 ?_
          refine r_get F e_X10_readLine_172 fl_X10_202 h14435 rfl (fun v hv f14436 => ?_)
          obtain ⟨x14437, rfl⟩ := hv
          refine m_iconst F (v := 1) (by decide) e_X10_readLine_175 ?_
          refine m_iadd F e_X10_readLine_176 ?_
          refine Wm.top (fun x14438 _ => ?_)
          refine r_put F (g' := (⟨T, Z, u, h, P14421, L⟩ : RG)) e_X10_readLine_177 fp_X10_202 h14435 (by decide) ⟨_, rfl⟩ (fun _ _ _ _ q => q) (fun _ _ _ q => q) rfl rfl (by decide) (fun σ14439 h14440 g14441 g14442 f14443 => ?_)
          exact m_vret F hQ e_X10_readLine_180 (⟨P14421, oP14421, (by unfold RP; omega), (by rw [eo14430]; show RM _ c n _ (.inl e8); exact RM.l ((g14442 23 (by decide)).trans fa14431) ((g14442 24 (by decide)).trans fb14432) (by omega) (by omega) (by omega)), (fun S2 hS _ => by rw [eo14430] at hS; cases hS), h14440, rfl⟩)
        · have c150 : e8.1 = 0 := (nI_eq (a := e8.1) (b := 0) (by omega) (by omega)).mp q150
          exact absurd q150 nz8
      | inr S1 =>
        rw [eo14430] at rm14429
        obtain ⟨⟨j1, j2, j3, j4⟩, nl3, nm3, np3, nc3, lc3, no3, sd3, md3, ln3⟩ := S1
        obtain ⟨so3, va3, fp3, mt3, yd3, ⟨pa3, p53, p73⟩, hN3, hM3, hK3, hF3, hG3, hQ3, c1, c2, c3, c4, c5⟩ := rm14429
        replace pa3 : _ = j4 := pa3
        replace c1 : j4 ≤ n := c1
        replace c2 : j1 ≤ n := c2
        have hyd14444 := yd3
        obtain ⟨yd14444, yd14445, yd14446, yd14447, yd14448, yd14449, yd14450⟩ := hyd14444
        refine m_goto F e_X10_readLine_41 ?_
        refine m_aload_n F rfl e_X10_readLine_146 ?_
        refine r_getC F e_X10_readLine_147 fl_X10_141 h14420 (yd14449) ?_
        refine m_if_ne F e_X10_readLine_150 (fun q => absurd (by decide) q) (fun _ => ?_)
        refine m_aload_n F rfl e_X10_readLine_153 ?_
        have hmt := mt3
        rcases hmt with ⟨rfl, rfl⟩ | ⟨rfl, rfl, rfl, hv3⟩ | ⟨rfl, rfl, rfl, hv3⟩ | ⟨rfl, rfl, w3, hw3, rfl, hm3⟩ | ⟨rfl, rfl⟩ | ⟨rfl, rfl⟩
        · refine r_getC F e_X10_readLine_154 fl_X10_110 h14420 (yd14447) ?_
          refine m_iconst F (v := 3) (by decide) e_X10_readLine_157 ?_
          refine m_icmp_eq F e_X10_readLine_158 (fun q => absurd q (by decide)) (fun _ => ?_)
          refine m_aload_n F rfl e_X10_readLine_161 ?_
          refine m_iconst F (v := 1) (by decide) e_X10_readLine_162 ?_
          refine r_callV F e_X10_readLine_163 (q_X10_wrongE (x_l X) V c T Z u h P14421 L _ _ 1 n j1 4 va3 ln3 fp3 h14420.1 (hob) oP14421 (by omega) ⟨(yd14444), (yd14445), (yd14446), (yd14447), (yd14448), (yd14449), (yd14450)⟩ (by decide)) cb_X10_wrong ml_X10_150 im_X10_wrong se_X10_wrong h14420 rfl rfl (rest := []) rfl (Nat.le_of_ble_eq_true rfl) ⟨Nat.le_of_ble_eq_true rfl, Nat.le_of_ble_eq_true rfl⟩ ⟨Nat.le_of_ble_eq_true rfl, Nat.le_of_ble_eq_true rfl⟩ (fun r σ14451 hp => ?_)
          obtain ⟨h14452, hp⟩ := hp
          have h14453 := HS.trans h14420 h14452 (by decide)
          have ga14454 := ga14423.of (h14452.2 (c + 1) (by rw [kC_at (k := 1) (by decide)]; decide))
          have ga14455 := hN3.of (h14452.2 (c + 2) (by rw [kC_at (k := 2) (by decide)]; decide))
          have ga14456 := hM3.of (h14452.2 (c + 3) (by rw [kC_at (k := 3) (by decide)]; decide))
          have ga14457 := hK3.of (h14452.2 (c + 7) (by rw [kC_at (k := 7) (by decide)]; decide))
          have ga14458 := hF3.of (h14452.2 (c + 8) (by rw [kC_at (k := 8) (by decide)]; decide))
          have ga14459 := hG3.of (h14452.2 (c + 9) (by rw [kC_at (k := 9) (by decide)]; decide))
          have ga14460 := hQ3.of (h14452.2 (c + 11) (by rw [kC_at (k := 11) (by decide)]; decide))
          obtain ⟨hp, rfl⟩ := hp
          have hyd14461 := hp
          obtain ⟨yd14461, yd14462, yd14463, yd14464, yd14465, yd14466, yd14467⟩ := hyd14461
          refine m_aload_n F rfl e_X10_readLine_166 ?_
          refine r_callV F e_X10_readLine_167 (q_X10_goOnG (x_l X) V c T 0 u h P14421 L _ _  1 h14453.1 (hob) oP14421  (yd14466) (by decide)) cb_X10_goOn ml_X10_154 im_X10_goOn se_X10_goOn h14453 rfl rfl (rest := []) rfl (Nat.le_of_ble_eq_true rfl) ⟨Nat.le_of_ble_eq_true rfl, Nat.le_of_ble_eq_true rfl⟩ ⟨Nat.le_of_ble_eq_true rfl, Nat.le_of_ble_eq_true rfl⟩ (fun r σ14468 hp => ?_)
          obtain ⟨h14469, hp⟩ := hp
          have h14470 := HS.trans h14453 h14469 (by decide)
          have ga14471 := ga14454.of (h14469.2 (c + 1) (by rw [kC_at (k := 1) (by decide)]; decide))
          have ga14472 := ga14455.of (h14469.2 (c + 2) (by rw [kC_at (k := 2) (by decide)]; decide))
          have ga14473 := ga14456.of (h14469.2 (c + 3) (by rw [kC_at (k := 3) (by decide)]; decide))
          have ga14474 := ga14457.of (h14469.2 (c + 7) (by rw [kC_at (k := 7) (by decide)]; decide))
          have ga14475 := ga14458.of (h14469.2 (c + 8) (by rw [kC_at (k := 8) (by decide)]; decide))
          have ga14476 := ga14459.of (h14469.2 (c + 9) (by rw [kC_at (k := 9) (by decide)]; decide))
          have ga14477 := ga14460.of (h14469.2 (c + 11) (by rw [kC_at (k := 11) (by decide)]; decide))
          obtain ⟨rfl, rfl⟩ := hp
          refine m_aload_n F rfl e_X10_readLine_170 ?_
          refine m_dup F rfl e_X10_readLine_171 ?_
          refine r_getC F e_X10_readLine_172 fl_X10_202 h14470 (yd14461) ?_
          refine m_iconst F (v := 1) (by decide) e_X10_readLine_175 ?_
          refine m_iadd F e_X10_readLine_176 ?_
          refine Wm.topE (w := nI (ln3 + 1)) (nI_add ln3 1) ?_
          refine r_put F (g' := (⟨T, 0, u, h, P14421, L⟩ : RG)) e_X10_readLine_177 fp_X10_202 h14470 (by decide) ⟨_, rfl⟩ (fun _ _ _ _ q => q) (fun _ _ _ q => q) rfl rfl (by decide) (fun σ14478 h14479 g14480 g14481 f14482 => ?_)
          have ga14483 := ga14454.of (g14480 _ (by omega))
          have ga14484 := ga14455.of (g14480 _ (by omega))
          have ga14485 := ga14456.of (g14480 _ (by omega))
          have ga14486 := ga14457.of (g14480 _ (by omega))
          have ga14487 := ga14458.of (g14480 _ (by omega))
          have ga14488 := ga14459.of (g14480 _ (by omega))
          have ga14489 := ga14460.of (g14480 _ (by omega))
          have h14490 : HS V c _ [0, 2, 17, 18, 19, 20, 21, 22, 23] _ _ := ⟨HR.mono (Z' := Z) (by intro e; first | rfl | assumption | omega) h14479.1, h14479.2⟩
          exact m_vret F hQ e_X10_readLine_180 (⟨P14421, oP14421, (by unfold RP; omega), (by rw [eo14430]; show RM _ c n _ (stopS (tok t n) (j1, 0, j3, j4) nl3 nm3 np3 nc3 lc3 no3 sd3 md3 ln3); rw [stopS_1 (by decide)]; exact RM.l ((g14481 23 (by decide)).trans yd14466) ((g14481 24 (by decide)).trans yd14467) (by omega) (by omega) (by omega)), (fun S2 hS _ => by rw [eo14430] at hS; replace hS : stopS (tok t n) (j1, 0, j3, j4) nl3 nm3 np3 nc3 lc3 no3 sd3 md3 ln3 = .inr S2 := hS; rw [stopS_1 (by decide)] at hS; cases hS), h14490, rfl⟩)
        · refine r_getC F e_X10_readLine_154 fl_X10_110 h14420 (yd14447) ?_
          refine m_iconst F (v := 3) (by decide) e_X10_readLine_157 ?_
          refine m_icmp_eq F e_X10_readLine_158 (fun q => absurd q (by decide)) (fun _ => ?_)
          refine m_aload_n F rfl e_X10_readLine_161 ?_
          refine m_iconst F (v := 1) (by decide) e_X10_readLine_162 ?_
          refine r_callV F e_X10_readLine_163 (q_X10_wrongE (x_l X) V c T Z u h P14421 L _ _ 1 n j1 0 (nI j3) ln3 fp3 h14420.1 (hob) oP14421 (by omega) ⟨(yd14444), (yd14445), (yd14446), (yd14447), (yd14448), (yd14449), (yd14450)⟩ (by decide)) cb_X10_wrong ml_X10_150 im_X10_wrong se_X10_wrong h14420 rfl rfl (rest := []) rfl (Nat.le_of_ble_eq_true rfl) ⟨Nat.le_of_ble_eq_true rfl, Nat.le_of_ble_eq_true rfl⟩ ⟨Nat.le_of_ble_eq_true rfl, Nat.le_of_ble_eq_true rfl⟩ (fun r σ14491 hp => ?_)
          obtain ⟨h14492, hp⟩ := hp
          have h14493 := HS.trans h14420 h14492 (by decide)
          have ga14494 := ga14423.of (h14492.2 (c + 1) (by rw [kC_at (k := 1) (by decide)]; decide))
          have ga14495 := hN3.of (h14492.2 (c + 2) (by rw [kC_at (k := 2) (by decide)]; decide))
          have ga14496 := hM3.of (h14492.2 (c + 3) (by rw [kC_at (k := 3) (by decide)]; decide))
          have ga14497 := hK3.of (h14492.2 (c + 7) (by rw [kC_at (k := 7) (by decide)]; decide))
          have ga14498 := hF3.of (h14492.2 (c + 8) (by rw [kC_at (k := 8) (by decide)]; decide))
          have ga14499 := hG3.of (h14492.2 (c + 9) (by rw [kC_at (k := 9) (by decide)]; decide))
          have ga14500 := hQ3.of (h14492.2 (c + 11) (by rw [kC_at (k := 11) (by decide)]; decide))
          obtain ⟨hp, rfl⟩ := hp
          have hyd14501 := hp
          obtain ⟨yd14501, yd14502, yd14503, yd14504, yd14505, yd14506, yd14507⟩ := hyd14501
          refine m_aload_n F rfl e_X10_readLine_166 ?_
          refine r_callV F e_X10_readLine_167 (q_X10_goOnG (x_l X) V c T 0 u h P14421 L _ _  1 h14493.1 (hob) oP14421  (yd14506) (by decide)) cb_X10_goOn ml_X10_154 im_X10_goOn se_X10_goOn h14493 rfl rfl (rest := []) rfl (Nat.le_of_ble_eq_true rfl) ⟨Nat.le_of_ble_eq_true rfl, Nat.le_of_ble_eq_true rfl⟩ ⟨Nat.le_of_ble_eq_true rfl, Nat.le_of_ble_eq_true rfl⟩ (fun r σ14508 hp => ?_)
          obtain ⟨h14509, hp⟩ := hp
          have h14510 := HS.trans h14493 h14509 (by decide)
          have ga14511 := ga14494.of (h14509.2 (c + 1) (by rw [kC_at (k := 1) (by decide)]; decide))
          have ga14512 := ga14495.of (h14509.2 (c + 2) (by rw [kC_at (k := 2) (by decide)]; decide))
          have ga14513 := ga14496.of (h14509.2 (c + 3) (by rw [kC_at (k := 3) (by decide)]; decide))
          have ga14514 := ga14497.of (h14509.2 (c + 7) (by rw [kC_at (k := 7) (by decide)]; decide))
          have ga14515 := ga14498.of (h14509.2 (c + 8) (by rw [kC_at (k := 8) (by decide)]; decide))
          have ga14516 := ga14499.of (h14509.2 (c + 9) (by rw [kC_at (k := 9) (by decide)]; decide))
          have ga14517 := ga14500.of (h14509.2 (c + 11) (by rw [kC_at (k := 11) (by decide)]; decide))
          obtain ⟨rfl, rfl⟩ := hp
          refine m_aload_n F rfl e_X10_readLine_170 ?_
          refine m_dup F rfl e_X10_readLine_171 ?_
          refine r_getC F e_X10_readLine_172 fl_X10_202 h14510 (yd14501) ?_
          refine m_iconst F (v := 1) (by decide) e_X10_readLine_175 ?_
          refine m_iadd F e_X10_readLine_176 ?_
          refine Wm.topE (w := nI (ln3 + 1)) (nI_add ln3 1) ?_
          refine r_put F (g' := (⟨T, 0, u, h, P14421, L⟩ : RG)) e_X10_readLine_177 fp_X10_202 h14510 (by decide) ⟨_, rfl⟩ (fun _ _ _ _ q => q) (fun _ _ _ q => q) rfl rfl (by decide) (fun σ14518 h14519 g14520 g14521 f14522 => ?_)
          have ga14523 := ga14494.of (g14520 _ (by omega))
          have ga14524 := ga14495.of (g14520 _ (by omega))
          have ga14525 := ga14496.of (g14520 _ (by omega))
          have ga14526 := ga14497.of (g14520 _ (by omega))
          have ga14527 := ga14498.of (g14520 _ (by omega))
          have ga14528 := ga14499.of (g14520 _ (by omega))
          have ga14529 := ga14500.of (g14520 _ (by omega))
          have h14530 : HS V c _ [0, 2, 17, 18, 19, 20, 21, 22, 23] _ _ := ⟨HR.mono (Z' := Z) (by intro e; first | rfl | assumption | omega) h14519.1, h14519.2⟩
          exact m_vret F hQ e_X10_readLine_180 (⟨P14421, oP14421, (by unfold RP; omega), (by rw [eo14430]; show RM _ c n _ (stopS (tok t n) (j1, 1, j3, j4) nl3 nm3 np3 nc3 lc3 no3 sd3 md3 ln3); rw [stopS_1 (by decide)]; exact RM.l ((g14521 23 (by decide)).trans yd14506) ((g14521 24 (by decide)).trans yd14507) (by omega) (by omega) (by omega)), (fun S2 hS _ => by rw [eo14430] at hS; replace hS : stopS (tok t n) (j1, 1, j3, j4) nl3 nm3 np3 nc3 lc3 no3 sd3 md3 ln3 = .inr S2 := hS; rw [stopS_1 (by decide)] at hS; cases hS), h14530, rfl⟩)
        · refine r_getC F e_X10_readLine_154 fl_X10_110 h14420 (yd14447) ?_
          refine m_iconst F (v := 3) (by decide) e_X10_readLine_157 ?_
          refine m_icmp_eq F e_X10_readLine_158 (fun q => absurd q (by decide)) (fun _ => ?_)
          refine m_aload_n F rfl e_X10_readLine_161 ?_
          refine m_iconst F (v := 1) (by decide) e_X10_readLine_162 ?_
          refine r_callV F e_X10_readLine_163 (q_X10_wrongE (x_l X) V c T Z u h P14421 L _ _ 1 n j1 1 (nI j3) ln3 fp3 h14420.1 (hob) oP14421 (by omega) ⟨(yd14444), (yd14445), (yd14446), (yd14447), (yd14448), (yd14449), (yd14450)⟩ (by decide)) cb_X10_wrong ml_X10_150 im_X10_wrong se_X10_wrong h14420 rfl rfl (rest := []) rfl (Nat.le_of_ble_eq_true rfl) ⟨Nat.le_of_ble_eq_true rfl, Nat.le_of_ble_eq_true rfl⟩ ⟨Nat.le_of_ble_eq_true rfl, Nat.le_of_ble_eq_true rfl⟩ (fun r σ14531 hp => ?_)
          obtain ⟨h14532, hp⟩ := hp
          have h14533 := HS.trans h14420 h14532 (by decide)
          have ga14534 := ga14423.of (h14532.2 (c + 1) (by rw [kC_at (k := 1) (by decide)]; decide))
          have ga14535 := hN3.of (h14532.2 (c + 2) (by rw [kC_at (k := 2) (by decide)]; decide))
          have ga14536 := hM3.of (h14532.2 (c + 3) (by rw [kC_at (k := 3) (by decide)]; decide))
          have ga14537 := hK3.of (h14532.2 (c + 7) (by rw [kC_at (k := 7) (by decide)]; decide))
          have ga14538 := hF3.of (h14532.2 (c + 8) (by rw [kC_at (k := 8) (by decide)]; decide))
          have ga14539 := hG3.of (h14532.2 (c + 9) (by rw [kC_at (k := 9) (by decide)]; decide))
          have ga14540 := hQ3.of (h14532.2 (c + 11) (by rw [kC_at (k := 11) (by decide)]; decide))
          obtain ⟨hp, rfl⟩ := hp
          have hyd14541 := hp
          obtain ⟨yd14541, yd14542, yd14543, yd14544, yd14545, yd14546, yd14547⟩ := hyd14541
          refine m_aload_n F rfl e_X10_readLine_166 ?_
          refine r_callV F e_X10_readLine_167 (q_X10_goOnG (x_l X) V c T 0 u h P14421 L _ _  1 h14533.1 (hob) oP14421  (yd14546) (by decide)) cb_X10_goOn ml_X10_154 im_X10_goOn se_X10_goOn h14533 rfl rfl (rest := []) rfl (Nat.le_of_ble_eq_true rfl) ⟨Nat.le_of_ble_eq_true rfl, Nat.le_of_ble_eq_true rfl⟩ ⟨Nat.le_of_ble_eq_true rfl, Nat.le_of_ble_eq_true rfl⟩ (fun r σ14548 hp => ?_)
          obtain ⟨h14549, hp⟩ := hp
          have h14550 := HS.trans h14533 h14549 (by decide)
          have ga14551 := ga14534.of (h14549.2 (c + 1) (by rw [kC_at (k := 1) (by decide)]; decide))
          have ga14552 := ga14535.of (h14549.2 (c + 2) (by rw [kC_at (k := 2) (by decide)]; decide))
          have ga14553 := ga14536.of (h14549.2 (c + 3) (by rw [kC_at (k := 3) (by decide)]; decide))
          have ga14554 := ga14537.of (h14549.2 (c + 7) (by rw [kC_at (k := 7) (by decide)]; decide))
          have ga14555 := ga14538.of (h14549.2 (c + 8) (by rw [kC_at (k := 8) (by decide)]; decide))
          have ga14556 := ga14539.of (h14549.2 (c + 9) (by rw [kC_at (k := 9) (by decide)]; decide))
          have ga14557 := ga14540.of (h14549.2 (c + 11) (by rw [kC_at (k := 11) (by decide)]; decide))
          obtain ⟨rfl, rfl⟩ := hp
          refine m_aload_n F rfl e_X10_readLine_170 ?_
          refine m_dup F rfl e_X10_readLine_171 ?_
          refine r_getC F e_X10_readLine_172 fl_X10_202 h14550 (yd14541) ?_
          refine m_iconst F (v := 1) (by decide) e_X10_readLine_175 ?_
          refine m_iadd F e_X10_readLine_176 ?_
          refine Wm.topE (w := nI (ln3 + 1)) (nI_add ln3 1) ?_
          refine r_put F (g' := (⟨T, 0, u, h, P14421, L⟩ : RG)) e_X10_readLine_177 fp_X10_202 h14550 (by decide) ⟨_, rfl⟩ (fun _ _ _ _ q => q) (fun _ _ _ q => q) rfl rfl (by decide) (fun σ14558 h14559 g14560 g14561 f14562 => ?_)
          have ga14563 := ga14534.of (g14560 _ (by omega))
          have ga14564 := ga14535.of (g14560 _ (by omega))
          have ga14565 := ga14536.of (g14560 _ (by omega))
          have ga14566 := ga14537.of (g14560 _ (by omega))
          have ga14567 := ga14538.of (g14560 _ (by omega))
          have ga14568 := ga14539.of (g14560 _ (by omega))
          have ga14569 := ga14540.of (g14560 _ (by omega))
          have h14570 : HS V c _ [0, 2, 17, 18, 19, 20, 21, 22, 23] _ _ := ⟨HR.mono (Z' := Z) (by intro e; first | rfl | assumption | omega) h14559.1, h14559.2⟩
          exact m_vret F hQ e_X10_readLine_180 (⟨P14421, oP14421, (by unfold RP; omega), (by rw [eo14430]; show RM _ c n _ (stopS (tok t n) (j1, 2, j3, j4) nl3 nm3 np3 nc3 lc3 no3 sd3 md3 ln3); rw [stopS_1 (by decide)]; exact RM.l ((g14561 23 (by decide)).trans yd14546) ((g14561 24 (by decide)).trans yd14547) (by omega) (by omega) (by omega)), (fun S2 hS _ => by rw [eo14430] at hS; replace hS : stopS (tok t n) (j1, 2, j3, j4) nl3 nm3 np3 nc3 lc3 no3 sd3 md3 ln3 = .inr S2 := hS; rw [stopS_1 (by decide)] at hS; cases hS), h14570, rfl⟩)
        · refine r_getC F e_X10_readLine_154 fl_X10_110 h14420 (yd14447) ?_
          refine m_iconst F (v := 3) (by decide) e_X10_readLine_157 ?_
          refine m_icmp_eq F e_X10_readLine_158 (fun q => absurd q (by decide)) (fun _ => ?_)
          refine m_aload_n F rfl e_X10_readLine_161 ?_
          refine m_iconst F (v := 1) (by decide) e_X10_readLine_162 ?_
          refine r_callV F e_X10_readLine_163 (q_X10_wrongE (x_l X) V c T Z u h P14421 L _ _ 1 n j1 2 (nI w3) ln3 fp3 h14420.1 (hob) oP14421 (by omega) ⟨(yd14444), (yd14445), (yd14446), (yd14447), (yd14448), (yd14449), (yd14450)⟩ (by decide)) cb_X10_wrong ml_X10_150 im_X10_wrong se_X10_wrong h14420 rfl rfl (rest := []) rfl (Nat.le_of_ble_eq_true rfl) ⟨Nat.le_of_ble_eq_true rfl, Nat.le_of_ble_eq_true rfl⟩ ⟨Nat.le_of_ble_eq_true rfl, Nat.le_of_ble_eq_true rfl⟩ (fun r σ14571 hp => ?_)
          obtain ⟨h14572, hp⟩ := hp
          have h14573 := HS.trans h14420 h14572 (by decide)
          have ga14574 := ga14423.of (h14572.2 (c + 1) (by rw [kC_at (k := 1) (by decide)]; decide))
          have ga14575 := hN3.of (h14572.2 (c + 2) (by rw [kC_at (k := 2) (by decide)]; decide))
          have ga14576 := hM3.of (h14572.2 (c + 3) (by rw [kC_at (k := 3) (by decide)]; decide))
          have ga14577 := hK3.of (h14572.2 (c + 7) (by rw [kC_at (k := 7) (by decide)]; decide))
          have ga14578 := hF3.of (h14572.2 (c + 8) (by rw [kC_at (k := 8) (by decide)]; decide))
          have ga14579 := hG3.of (h14572.2 (c + 9) (by rw [kC_at (k := 9) (by decide)]; decide))
          have ga14580 := hQ3.of (h14572.2 (c + 11) (by rw [kC_at (k := 11) (by decide)]; decide))
          obtain ⟨hp, rfl⟩ := hp
          have hyd14581 := hp
          obtain ⟨yd14581, yd14582, yd14583, yd14584, yd14585, yd14586, yd14587⟩ := hyd14581
          refine m_aload_n F rfl e_X10_readLine_166 ?_
          refine r_callV F e_X10_readLine_167 (q_X10_goOnG (x_l X) V c T 0 u h P14421 L _ _  1 h14573.1 (hob) oP14421  (yd14586) (by decide)) cb_X10_goOn ml_X10_154 im_X10_goOn se_X10_goOn h14573 rfl rfl (rest := []) rfl (Nat.le_of_ble_eq_true rfl) ⟨Nat.le_of_ble_eq_true rfl, Nat.le_of_ble_eq_true rfl⟩ ⟨Nat.le_of_ble_eq_true rfl, Nat.le_of_ble_eq_true rfl⟩ (fun r σ14588 hp => ?_)
          obtain ⟨h14589, hp⟩ := hp
          have h14590 := HS.trans h14573 h14589 (by decide)
          have ga14591 := ga14574.of (h14589.2 (c + 1) (by rw [kC_at (k := 1) (by decide)]; decide))
          have ga14592 := ga14575.of (h14589.2 (c + 2) (by rw [kC_at (k := 2) (by decide)]; decide))
          have ga14593 := ga14576.of (h14589.2 (c + 3) (by rw [kC_at (k := 3) (by decide)]; decide))
          have ga14594 := ga14577.of (h14589.2 (c + 7) (by rw [kC_at (k := 7) (by decide)]; decide))
          have ga14595 := ga14578.of (h14589.2 (c + 8) (by rw [kC_at (k := 8) (by decide)]; decide))
          have ga14596 := ga14579.of (h14589.2 (c + 9) (by rw [kC_at (k := 9) (by decide)]; decide))
          have ga14597 := ga14580.of (h14589.2 (c + 11) (by rw [kC_at (k := 11) (by decide)]; decide))
          obtain ⟨rfl, rfl⟩ := hp
          refine m_aload_n F rfl e_X10_readLine_170 ?_
          refine m_dup F rfl e_X10_readLine_171 ?_
          refine r_getC F e_X10_readLine_172 fl_X10_202 h14590 (yd14581) ?_
          refine m_iconst F (v := 1) (by decide) e_X10_readLine_175 ?_
          refine m_iadd F e_X10_readLine_176 ?_
          refine Wm.topE (w := nI (ln3 + 1)) (nI_add ln3 1) ?_
          refine r_put F (g' := (⟨T, 0, u, h, P14421, L⟩ : RG)) e_X10_readLine_177 fp_X10_202 h14590 (by decide) ⟨_, rfl⟩ (fun _ _ _ _ q => q) (fun _ _ _ q => q) rfl rfl (by decide) (fun σ14598 h14599 g14600 g14601 f14602 => ?_)
          have ga14603 := ga14574.of (g14600 _ (by omega))
          have ga14604 := ga14575.of (g14600 _ (by omega))
          have ga14605 := ga14576.of (g14600 _ (by omega))
          have ga14606 := ga14577.of (g14600 _ (by omega))
          have ga14607 := ga14578.of (g14600 _ (by omega))
          have ga14608 := ga14579.of (g14600 _ (by omega))
          have ga14609 := ga14580.of (g14600 _ (by omega))
          have h14610 : HS V c _ [0, 2, 17, 18, 19, 20, 21, 22, 23] _ _ := ⟨HR.mono (Z' := Z) (by intro e; first | rfl | assumption | omega) h14599.1, h14599.2⟩
          exact m_vret F hQ e_X10_readLine_180 (⟨P14421, oP14421, (by unfold RP; omega), (by rw [eo14430]; show RM _ c n _ (stopS (tok t n) (j1, 3, j3, j4) nl3 nm3 np3 nc3 lc3 no3 sd3 md3 ln3); rw [stopS_1 (by decide)]; exact RM.l ((g14601 23 (by decide)).trans yd14586) ((g14601 24 (by decide)).trans yd14587) (by omega) (by omega) (by omega)), (fun S2 hS _ => by rw [eo14430] at hS; replace hS : stopS (tok t n) (j1, 3, j3, j4) nl3 nm3 np3 nc3 lc3 no3 sd3 md3 ln3 = .inr S2 := hS; rw [stopS_1 (by decide)] at hS; cases hS), h14610, rfl⟩)
        · refine r_getC F e_X10_readLine_154 fl_X10_110 h14420 (yd14447) ?_
          refine m_iconst F (v := 3) (by decide) e_X10_readLine_157 ?_
          refine m_icmp_eq F e_X10_readLine_158 (fun _ => ?_) (fun q => absurd (by decide) q)
          refine m_aload_n F rfl e_X10_readLine_166 ?_
          refine r_callV F e_X10_readLine_167 (q_X10_goOnE (x_l X) V c T Z u h P14421 L _ _  n j1 3 va3 ln3 fp3 t h14420.1 (hob) oP14421  ⟨(yd14444), (yd14445), (yd14446), (yd14447), (yd14448), (yd14449), (yd14450)⟩ ga14423 hn7 (by omega)) cb_X10_goOn ml_X10_154 im_X10_goOn se_X10_goOn h14420 rfl rfl (rest := []) rfl (Nat.le_of_ble_eq_true rfl) ⟨Nat.le_of_ble_eq_true rfl, Nat.le_of_ble_eq_true rfl⟩ ⟨Nat.le_of_ble_eq_true rfl, Nat.le_of_ble_eq_true rfl⟩ (fun r σ14611 hp => ?_)
          obtain ⟨P14614, oP14614, rP14614, pr14615, pr14616, h14612, hp⟩ := hp
          have h14613 := HS.trans h14420 h14612 (by decide)
          have xP14614 := oP14614
          unfold OKP at xP14614
          unfold RA at rP14614
          have ga14617 := ga14423.of (h14612.2 (c + 1) (by rw [kC_at (k := 1) (by decide)]; decide))
          have ga14618 := hN3.of (h14612.2 (c + 2) (by rw [kC_at (k := 2) (by decide)]; decide))
          have ga14619 := hM3.of (h14612.2 (c + 3) (by rw [kC_at (k := 3) (by decide)]; decide))
          have ga14620 := hK3.of (h14612.2 (c + 7) (by rw [kC_at (k := 7) (by decide)]; decide))
          have ga14621 := hF3.of (h14612.2 (c + 8) (by rw [kC_at (k := 8) (by decide)]; decide))
          have ga14622 := hG3.of (h14612.2 (c + 9) (by rw [kC_at (k := 9) (by decide)]; decide))
          have ga14623 := hQ3.of (h14612.2 (c + 11) (by rw [kC_at (k := 11) (by decide)]; decide))
          obtain rfl := hp
          rw [pa3] at pr14615 pr14616
          have b8 := tok_ok (t := t) (n := n) j4 c1
          obtain ⟨so14624, va14625, mt14626, yd14627⟩ := pr14616
          have hyd14628 := yd14627
          obtain ⟨yd14628, yd14629, yd14630, yd14631, yd14632, yd14633, yd14634⟩ := hyd14628
          refine m_aload_n F rfl e_X10_readLine_170 ?_
          refine m_dup F rfl e_X10_readLine_171 ?_
          refine r_getC F e_X10_readLine_172 fl_X10_202 h14613 (yd14628) ?_
          refine m_iconst F (v := 1) (by decide) e_X10_readLine_175 ?_
          refine m_iadd F e_X10_readLine_176 ?_
          refine Wm.topE (w := nI (ln3 + 1)) (nI_add ln3 1) ?_
          refine r_put F (g' := (⟨T, Z, u, h, P14614, L⟩ : RG)) e_X10_readLine_177 fp_X10_202 h14613 (by decide) ⟨_, rfl⟩ (fun _ _ _ _ q => q) (fun _ _ _ q => q) rfl rfl (by decide) (fun σ14635 h14636 g14637 g14638 f14639 => ?_)
          have ga14640 := ga14617.of (g14637 _ (by omega))
          have ga14641 := ga14618.of (g14637 _ (by omega))
          have ga14642 := ga14619.of (g14637 _ (by omega))
          have ga14643 := ga14620.of (g14637 _ (by omega))
          have ga14644 := ga14621.of (g14637 _ (by omega))
          have ga14645 := ga14622.of (g14637 _ (by omega))
          have ga14646 := ga14623.of (g14637 _ (by omega))
          exact m_vret F hQ e_X10_readLine_180 (⟨P14614, oP14614, (by unfold RP; omega), (by rw [eo14430]; show RM _ c n _ (stopS (tok t n) (j1, 4, j3, j4) nl3 nm3 np3 nc3 lc3 no3 sd3 md3 ln3); rw [stopS_ok]; exact RM.r mt14626 ⟨(f14639), ((g14638 18 (by decide)).trans yd14629), ((g14638 20 (by decide)).trans yd14630), ((g14638 21 (by decide)).trans yd14631), ((g14638 22 (by decide)).trans yd14632), ((g14638 23 (by decide)).trans yd14633), ((g14638 24 (by decide)).trans yd14634)⟩ (by omega) (by omega) (by omega) ga14641 ga14642 ga14643 ga14644 ga14645 ga14646 (by omega) (by omega) (by omega) (by omega) (by omega)), (fun S2 hS hz => by rw [eo14430] at hS; replace hS : stopS (tok t n) (j1, 4, j3, j4) nl3 nm3 np3 nc3 lc3 no3 sd3 md3 ln3 = .inr S2 := hS; rw [stopS_ok] at hS; cases hS; replace hz : (tok t n j4).2.1 ≠ 0 := hz; have h8 := b8.2.2.2 hz; omega), h14636, rfl⟩)
        · refine r_getC F e_X10_readLine_154 fl_X10_110 h14420 (yd14447) ?_
          refine m_iconst F (v := 3) (by decide) e_X10_readLine_157 ?_
          refine m_icmp_eq F e_X10_readLine_158 (fun q => absurd q (by decide)) (fun _ => ?_)
          refine m_aload_n F rfl e_X10_readLine_161 ?_
          refine m_iconst F (v := 1) (by decide) e_X10_readLine_162 ?_
          refine r_callV F e_X10_readLine_163 (q_X10_wrongE (x_l X) V c T Z u h P14421 L _ _ 1 n j1 5 va3 ln3 fp3 h14420.1 (hob) oP14421 (by omega) ⟨(yd14444), (yd14445), (yd14446), (yd14447), (yd14448), (yd14449), (yd14450)⟩ (by decide)) cb_X10_wrong ml_X10_150 im_X10_wrong se_X10_wrong h14420 rfl rfl (rest := []) rfl (Nat.le_of_ble_eq_true rfl) ⟨Nat.le_of_ble_eq_true rfl, Nat.le_of_ble_eq_true rfl⟩ ⟨Nat.le_of_ble_eq_true rfl, Nat.le_of_ble_eq_true rfl⟩ (fun r σ14647 hp => ?_)
          obtain ⟨h14648, hp⟩ := hp
          have h14649 := HS.trans h14420 h14648 (by decide)
          have ga14650 := ga14423.of (h14648.2 (c + 1) (by rw [kC_at (k := 1) (by decide)]; decide))
          have ga14651 := hN3.of (h14648.2 (c + 2) (by rw [kC_at (k := 2) (by decide)]; decide))
          have ga14652 := hM3.of (h14648.2 (c + 3) (by rw [kC_at (k := 3) (by decide)]; decide))
          have ga14653 := hK3.of (h14648.2 (c + 7) (by rw [kC_at (k := 7) (by decide)]; decide))
          have ga14654 := hF3.of (h14648.2 (c + 8) (by rw [kC_at (k := 8) (by decide)]; decide))
          have ga14655 := hG3.of (h14648.2 (c + 9) (by rw [kC_at (k := 9) (by decide)]; decide))
          have ga14656 := hQ3.of (h14648.2 (c + 11) (by rw [kC_at (k := 11) (by decide)]; decide))
          obtain ⟨hp, rfl⟩ := hp
          have hyd14657 := hp
          obtain ⟨yd14657, yd14658, yd14659, yd14660, yd14661, yd14662, yd14663⟩ := hyd14657
          refine m_aload_n F rfl e_X10_readLine_166 ?_
          refine r_callV F e_X10_readLine_167 (q_X10_goOnG (x_l X) V c T 0 u h P14421 L _ _  1 h14649.1 (hob) oP14421  (yd14662) (by decide)) cb_X10_goOn ml_X10_154 im_X10_goOn se_X10_goOn h14649 rfl rfl (rest := []) rfl (Nat.le_of_ble_eq_true rfl) ⟨Nat.le_of_ble_eq_true rfl, Nat.le_of_ble_eq_true rfl⟩ ⟨Nat.le_of_ble_eq_true rfl, Nat.le_of_ble_eq_true rfl⟩ (fun r σ14664 hp => ?_)
          obtain ⟨h14665, hp⟩ := hp
          have h14666 := HS.trans h14649 h14665 (by decide)
          have ga14667 := ga14650.of (h14665.2 (c + 1) (by rw [kC_at (k := 1) (by decide)]; decide))
          have ga14668 := ga14651.of (h14665.2 (c + 2) (by rw [kC_at (k := 2) (by decide)]; decide))
          have ga14669 := ga14652.of (h14665.2 (c + 3) (by rw [kC_at (k := 3) (by decide)]; decide))
          have ga14670 := ga14653.of (h14665.2 (c + 7) (by rw [kC_at (k := 7) (by decide)]; decide))
          have ga14671 := ga14654.of (h14665.2 (c + 8) (by rw [kC_at (k := 8) (by decide)]; decide))
          have ga14672 := ga14655.of (h14665.2 (c + 9) (by rw [kC_at (k := 9) (by decide)]; decide))
          have ga14673 := ga14656.of (h14665.2 (c + 11) (by rw [kC_at (k := 11) (by decide)]; decide))
          obtain ⟨rfl, rfl⟩ := hp
          refine m_aload_n F rfl e_X10_readLine_170 ?_
          refine m_dup F rfl e_X10_readLine_171 ?_
          refine r_getC F e_X10_readLine_172 fl_X10_202 h14666 (yd14657) ?_
          refine m_iconst F (v := 1) (by decide) e_X10_readLine_175 ?_
          refine m_iadd F e_X10_readLine_176 ?_
          refine Wm.topE (w := nI (ln3 + 1)) (nI_add ln3 1) ?_
          refine r_put F (g' := (⟨T, 0, u, h, P14421, L⟩ : RG)) e_X10_readLine_177 fp_X10_202 h14666 (by decide) ⟨_, rfl⟩ (fun _ _ _ _ q => q) (fun _ _ _ q => q) rfl rfl (by decide) (fun σ14674 h14675 g14676 g14677 f14678 => ?_)
          have ga14679 := ga14650.of (g14676 _ (by omega))
          have ga14680 := ga14651.of (g14676 _ (by omega))
          have ga14681 := ga14652.of (g14676 _ (by omega))
          have ga14682 := ga14653.of (g14676 _ (by omega))
          have ga14683 := ga14654.of (g14676 _ (by omega))
          have ga14684 := ga14655.of (g14676 _ (by omega))
          have ga14685 := ga14656.of (g14676 _ (by omega))
          have h14686 : HS V c _ [0, 2, 17, 18, 19, 20, 21, 22, 23] _ _ := ⟨HR.mono (Z' := Z) (by intro e; first | rfl | assumption | omega) h14675.1, h14675.2⟩
          exact m_vret F hQ e_X10_readLine_180 (⟨P14421, oP14421, (by unfold RP; omega), (by rw [eo14430]; show RM _ c n _ (stopS (tok t n) (j1, 5, j3, j4) nl3 nm3 np3 nc3 lc3 no3 sd3 md3 ln3); rw [stopS_1 (by decide)]; exact RM.l ((g14677 23 (by decide)).trans yd14662) ((g14677 24 (by decide)).trans yd14663) (by omega) (by omega) (by omega)), (fun S2 hS _ => by rw [eo14430] at hS; replace hS : stopS (tok t n) (j1, 5, j3, j4) nl3 nm3 np3 nc3 lc3 no3 sd3 md3 ln3 = .inr S2 := hS; rw [stopS_1 (by decide)] at hS; cases hS), h14686, rfl⟩)
    · refine r_getC F e_X10_readLine_1 fl_X10_110 h1 (yd14109) ?_
      refine m_if_eq F e_X10_readLine_4 (fun _ => ?_) (fun q => absurd (by decide) q)
      refine m_aload_n F rfl e_X10_readLine_15 ?_
      refine r_getC F e_X10_readLine_16 fl_X10_120 h1 (yd14110) ?_
      refine m_if_ne F e_X10_readLine_19 (fun _ => ?_) (fun q => absurd q (by decide))
      refine m_aload_n F rfl e_X10_readLine_29 ?_
      refine r_getC F e_X10_readLine_30 fl_X10_120 h1 (yd14110) ?_
      refine m_iconst F (v := 1) (by decide) e_X10_readLine_33 ?_
      refine m_icmp_ne F e_X10_readLine_34 (fun _ => ?_) (fun q => absurd q (by decide))
      refine m_aload_n F rfl e_X10_readLine_44 ?_
      refine r_getC F e_X10_readLine_45 fl_X10_120 h1 (yd14110) ?_
      refine m_iconst F (v := 2) (by decide) e_X10_readLine_48 ?_
      refine m_icmp_eq F e_X10_readLine_49 (fun _ => ?_) (fun q => absurd (by decide) q)
      refine m_aload_n F rfl e_X10_readLine_60 ?_
      refine m_aload_n F rfl e_X10_readLine_61 ?_
      refine r_getC F e_X10_readLine_62 fl_X10_120 h1 (yd14110) ?_
      refine m_iconst F (v := 2) (by decide) e_X10_readLine_65 ?_
      refine m_icmp_ne F e_X10_readLine_66 (fun q => absurd (by decide) q) (fun _ => ?_)
      refine m_iconst F (v := 1) (by decide) e_X10_readLine_69 ?_
      refine m_goto F e_X10_readLine_70 ?_
      refine r_callV F e_X10_readLine_74 (q_X10_readMark1E (x_l X) V c T Z u h P L _ _  n st 0 2 ln fp t 1 2 nm np lc no sd md h1.1 (hob) hP  ⟨(yd14106), (yd14107), (yd14108), (yd14109), (yd14110), (yd14111), (yd14112)⟩ hp1 hn7 (by omega) hp4 hp5 hp6 hp7 hp8 hp9 hp10 hp11 hp12 hp13 hp14) cb_X10_readMark ml_X10_184 im_X10_readMark se_X10_readMark h1 rfl rfl (rest := []) rfl (Nat.le_of_ble_eq_true rfl) ⟨Nat.le_of_ble_eq_true rfl, Nat.le_of_ble_eq_true rfl⟩ ⟨Nat.le_of_ble_eq_true rfl, Nat.le_of_ble_eq_true rfl⟩ (fun r σ14687 hp => ?_)
      obtain ⟨P14690, oP14690, rP14690, pr14691, h14688, hp⟩ := hp
      have h14689 := HS.trans h1 h14688 (by decide)
      have xP14690 := oP14690
      unfold OKP at xP14690
      unfold RP at rP14690
      have ga14692 := hp1.of (h14688.2 (c + 1) (by rw [kC_at (k := 1) (by decide)]; decide))
      have ga14693 := hp6.of (h14688.2 (c + 2) (by rw [kC_at (k := 2) (by decide)]; decide))
      have ga14694 := hp7.of (h14688.2 (c + 3) (by rw [kC_at (k := 3) (by decide)]; decide))
      have ga14695 := hp9.of (h14688.2 (c + 8) (by rw [kC_at (k := 8) (by decide)]; decide))
      have ga14696 := hp10.of (h14688.2 (c + 9) (by rw [kC_at (k := 9) (by decide)]; decide))
      have ga14697 := hp11.of (h14688.2 (c + 11) (by rw [kC_at (k := 11) (by decide)]; decide))
      obtain rfl := hp
      have rm14698 : RM σ14687 c n P14690 (lineS (tok t n) (st, 1, 2, P.a) P.n5 nm np P.n7 lc no sd md ln) := by rw [lineS_2]; exact pr14691
      cases eo14699 : lineS (tok t n) (st, 1, 2, P.a) P.n5 nm np P.n7 lc no sd md ln with
      | inl e8 =>
        rw [eo14699] at rm14698
        obtain ⟨⟨fa14700, fb14701⟩, c1, c2, c3⟩ := rm14698
        have nz8 : nI e8.1 ≠ 0 := fun e => absurd (nI_inj9 (b := 0) (by omega) (by omega) e) (by omega)
        refine m_goto F e_X10_readLine_77 ?_
        refine m_aload_n F rfl e_X10_readLine_146 ?_
        refine r_getC F e_X10_readLine_147 fl_X10_141 h14689 (fa14700) ?_
        refine m_if_ne F e_X10_readLine_150 (fun q150 => ?_) (fun q150 => ?_)
        · have c150 : e8.1 ≠ 0 := by have hh := mt (nI_eq (a := e8.1) (b := 0) (by omega) (by omega)).mpr q150; omega
          refine m_aload_n F rfl e_X10_readLine_166 ?_
          refine r_callV F e_X10_readLine_167 (q_X10_goOnG (x_l X) V c T Z u h P14690 L _ _  (nI e8.1) h14689.1 (hob) oP14690  (fa14700) (by assumption)) cb_X10_goOn ml_X10_154 im_X10_goOn se_X10_goOn h14689 rfl rfl (rest := []) rfl (Nat.le_of_ble_eq_true rfl) ⟨Nat.le_of_ble_eq_true rfl, Nat.le_of_ble_eq_true rfl⟩ ⟨Nat.le_of_ble_eq_true rfl, Nat.le_of_ble_eq_true rfl⟩ (fun r σ14702 hp => ?_)
          obtain ⟨h14703, hp⟩ := hp
          have h14704 := HS.trans h14689 h14703 (by decide)
          obtain ⟨rfl, rfl⟩ := hp
          refine m_aload_n F rfl e_X10_readLine_170 ?_
          refine m_dup F rfl e_X10_readLine_171 ?_
          refine r_get F e_X10_readLine_172 fl_X10_202 h14704 rfl (fun v hv f14705 => ?_)
          obtain ⟨x14706, rfl⟩ := hv
          refine m_iconst F (v := 1) (by decide) e_X10_readLine_175 ?_
          refine m_iadd F e_X10_readLine_176 ?_
          refine Wm.top (fun x14707 _ => ?_)
          refine r_put F (g' := (⟨T, Z, u, h, P14690, L⟩ : RG)) e_X10_readLine_177 fp_X10_202 h14704 (by decide) ⟨_, rfl⟩ (fun _ _ _ _ q => q) (fun _ _ _ q => q) rfl rfl (by decide) (fun σ14708 h14709 g14710 g14711 f14712 => ?_)
          exact m_vret F hQ e_X10_readLine_180 (⟨P14690, oP14690, (by unfold RP; omega), (by rw [eo14699]; show RM _ c n _ (.inl e8); exact RM.l ((g14711 23 (by decide)).trans fa14700) ((g14711 24 (by decide)).trans fb14701) (by omega) (by omega) (by omega)), (fun S2 hS _ => by rw [eo14699] at hS; cases hS), h14709, rfl⟩)
        · have c150 : e8.1 = 0 := (nI_eq (a := e8.1) (b := 0) (by omega) (by omega)).mp q150
          exact absurd q150 nz8
      | inr S1 =>
        rw [eo14699] at rm14698
        obtain ⟨⟨j1, j2, j3, j4⟩, nl3, nm3, np3, nc3, lc3, no3, sd3, md3, ln3⟩ := S1
        obtain ⟨so3, va3, fp3, mt3, yd3, ⟨pa3, p53, p73⟩, hN3, hM3, hK3, hF3, hG3, hQ3, c1, c2, c3, c4, c5⟩ := rm14698
        replace pa3 : _ = j4 := pa3
        replace c1 : j4 ≤ n := c1
        replace c2 : j1 ≤ n := c2
        have hyd14713 := yd3
        obtain ⟨yd14713, yd14714, yd14715, yd14716, yd14717, yd14718, yd14719⟩ := hyd14713
        refine m_goto F e_X10_readLine_77 ?_
        refine m_aload_n F rfl e_X10_readLine_146 ?_
        refine r_getC F e_X10_readLine_147 fl_X10_141 h14689 (yd14718) ?_
        refine m_if_ne F e_X10_readLine_150 (fun q => absurd (by decide) q) (fun _ => ?_)
        refine m_aload_n F rfl e_X10_readLine_153 ?_
        have hmt := mt3
        rcases hmt with ⟨rfl, rfl⟩ | ⟨rfl, rfl, rfl, hv3⟩ | ⟨rfl, rfl, rfl, hv3⟩ | ⟨rfl, rfl, w3, hw3, rfl, hm3⟩ | ⟨rfl, rfl⟩ | ⟨rfl, rfl⟩
        · refine r_getC F e_X10_readLine_154 fl_X10_110 h14689 (yd14716) ?_
          refine m_iconst F (v := 3) (by decide) e_X10_readLine_157 ?_
          refine m_icmp_eq F e_X10_readLine_158 (fun q => absurd q (by decide)) (fun _ => ?_)
          refine m_aload_n F rfl e_X10_readLine_161 ?_
          refine m_iconst F (v := 1) (by decide) e_X10_readLine_162 ?_
          refine r_callV F e_X10_readLine_163 (q_X10_wrongE (x_l X) V c T Z u h P14690 L _ _ 1 n j1 4 va3 ln3 fp3 h14689.1 (hob) oP14690 (by omega) ⟨(yd14713), (yd14714), (yd14715), (yd14716), (yd14717), (yd14718), (yd14719)⟩ (by decide)) cb_X10_wrong ml_X10_150 im_X10_wrong se_X10_wrong h14689 rfl rfl (rest := []) rfl (Nat.le_of_ble_eq_true rfl) ⟨Nat.le_of_ble_eq_true rfl, Nat.le_of_ble_eq_true rfl⟩ ⟨Nat.le_of_ble_eq_true rfl, Nat.le_of_ble_eq_true rfl⟩ (fun r σ14720 hp => ?_)
          obtain ⟨h14721, hp⟩ := hp
          have h14722 := HS.trans h14689 h14721 (by decide)
          have ga14723 := ga14692.of (h14721.2 (c + 1) (by rw [kC_at (k := 1) (by decide)]; decide))
          have ga14724 := hN3.of (h14721.2 (c + 2) (by rw [kC_at (k := 2) (by decide)]; decide))
          have ga14725 := hM3.of (h14721.2 (c + 3) (by rw [kC_at (k := 3) (by decide)]; decide))
          have ga14726 := hK3.of (h14721.2 (c + 7) (by rw [kC_at (k := 7) (by decide)]; decide))
          have ga14727 := hF3.of (h14721.2 (c + 8) (by rw [kC_at (k := 8) (by decide)]; decide))
          have ga14728 := hG3.of (h14721.2 (c + 9) (by rw [kC_at (k := 9) (by decide)]; decide))
          have ga14729 := hQ3.of (h14721.2 (c + 11) (by rw [kC_at (k := 11) (by decide)]; decide))
          obtain ⟨hp, rfl⟩ := hp
          have hyd14730 := hp
          obtain ⟨yd14730, yd14731, yd14732, yd14733, yd14734, yd14735, yd14736⟩ := hyd14730
          refine m_aload_n F rfl e_X10_readLine_166 ?_
          refine r_callV F e_X10_readLine_167 (q_X10_goOnG (x_l X) V c T 0 u h P14690 L _ _  1 h14722.1 (hob) oP14690  (yd14735) (by decide)) cb_X10_goOn ml_X10_154 im_X10_goOn se_X10_goOn h14722 rfl rfl (rest := []) rfl (Nat.le_of_ble_eq_true rfl) ⟨Nat.le_of_ble_eq_true rfl, Nat.le_of_ble_eq_true rfl⟩ ⟨Nat.le_of_ble_eq_true rfl, Nat.le_of_ble_eq_true rfl⟩ (fun r σ14737 hp => ?_)
          obtain ⟨h14738, hp⟩ := hp
          have h14739 := HS.trans h14722 h14738 (by decide)
          have ga14740 := ga14723.of (h14738.2 (c + 1) (by rw [kC_at (k := 1) (by decide)]; decide))
          have ga14741 := ga14724.of (h14738.2 (c + 2) (by rw [kC_at (k := 2) (by decide)]; decide))
          have ga14742 := ga14725.of (h14738.2 (c + 3) (by rw [kC_at (k := 3) (by decide)]; decide))
          have ga14743 := ga14726.of (h14738.2 (c + 7) (by rw [kC_at (k := 7) (by decide)]; decide))
          have ga14744 := ga14727.of (h14738.2 (c + 8) (by rw [kC_at (k := 8) (by decide)]; decide))
          have ga14745 := ga14728.of (h14738.2 (c + 9) (by rw [kC_at (k := 9) (by decide)]; decide))
          have ga14746 := ga14729.of (h14738.2 (c + 11) (by rw [kC_at (k := 11) (by decide)]; decide))
          obtain ⟨rfl, rfl⟩ := hp
          refine m_aload_n F rfl e_X10_readLine_170 ?_
          refine m_dup F rfl e_X10_readLine_171 ?_
          refine r_getC F e_X10_readLine_172 fl_X10_202 h14739 (yd14730) ?_
          refine m_iconst F (v := 1) (by decide) e_X10_readLine_175 ?_
          refine m_iadd F e_X10_readLine_176 ?_
          refine Wm.topE (w := nI (ln3 + 1)) (nI_add ln3 1) ?_
          refine r_put F (g' := (⟨T, 0, u, h, P14690, L⟩ : RG)) e_X10_readLine_177 fp_X10_202 h14739 (by decide) ⟨_, rfl⟩ (fun _ _ _ _ q => q) (fun _ _ _ q => q) rfl rfl (by decide) (fun σ14747 h14748 g14749 g14750 f14751 => ?_)
          have ga14752 := ga14723.of (g14749 _ (by omega))
          have ga14753 := ga14724.of (g14749 _ (by omega))
          have ga14754 := ga14725.of (g14749 _ (by omega))
          have ga14755 := ga14726.of (g14749 _ (by omega))
          have ga14756 := ga14727.of (g14749 _ (by omega))
          have ga14757 := ga14728.of (g14749 _ (by omega))
          have ga14758 := ga14729.of (g14749 _ (by omega))
          have h14759 : HS V c _ [0, 2, 17, 18, 19, 20, 21, 22, 23] _ _ := ⟨HR.mono (Z' := Z) (by intro e; first | rfl | assumption | omega) h14748.1, h14748.2⟩
          exact m_vret F hQ e_X10_readLine_180 (⟨P14690, oP14690, (by unfold RP; omega), (by rw [eo14699]; show RM _ c n _ (stopS (tok t n) (j1, 0, j3, j4) nl3 nm3 np3 nc3 lc3 no3 sd3 md3 ln3); rw [stopS_1 (by decide)]; exact RM.l ((g14750 23 (by decide)).trans yd14735) ((g14750 24 (by decide)).trans yd14736) (by omega) (by omega) (by omega)), (fun S2 hS _ => by rw [eo14699] at hS; replace hS : stopS (tok t n) (j1, 0, j3, j4) nl3 nm3 np3 nc3 lc3 no3 sd3 md3 ln3 = .inr S2 := hS; rw [stopS_1 (by decide)] at hS; cases hS), h14759, rfl⟩)
        · refine r_getC F e_X10_readLine_154 fl_X10_110 h14689 (yd14716) ?_
          refine m_iconst F (v := 3) (by decide) e_X10_readLine_157 ?_
          refine m_icmp_eq F e_X10_readLine_158 (fun q => absurd q (by decide)) (fun _ => ?_)
          refine m_aload_n F rfl e_X10_readLine_161 ?_
          refine m_iconst F (v := 1) (by decide) e_X10_readLine_162 ?_
          refine r_callV F e_X10_readLine_163 (q_X10_wrongE (x_l X) V c T Z u h P14690 L _ _ 1 n j1 0 (nI j3) ln3 fp3 h14689.1 (hob) oP14690 (by omega) ⟨(yd14713), (yd14714), (yd14715), (yd14716), (yd14717), (yd14718), (yd14719)⟩ (by decide)) cb_X10_wrong ml_X10_150 im_X10_wrong se_X10_wrong h14689 rfl rfl (rest := []) rfl (Nat.le_of_ble_eq_true rfl) ⟨Nat.le_of_ble_eq_true rfl, Nat.le_of_ble_eq_true rfl⟩ ⟨Nat.le_of_ble_eq_true rfl, Nat.le_of_ble_eq_true rfl⟩ (fun r σ14760 hp => ?_)
          obtain ⟨h14761, hp⟩ := hp
          have h14762 := HS.trans h14689 h14761 (by decide)
          have ga14763 := ga14692.of (h14761.2 (c + 1) (by rw [kC_at (k := 1) (by decide)]; decide))
          have ga14764 := hN3.of (h14761.2 (c + 2) (by rw [kC_at (k := 2) (by decide)]; decide))
          have ga14765 := hM3.of (h14761.2 (c + 3) (by rw [kC_at (k := 3) (by decide)]; decide))
          have ga14766 := hK3.of (h14761.2 (c + 7) (by rw [kC_at (k := 7) (by decide)]; decide))
          have ga14767 := hF3.of (h14761.2 (c + 8) (by rw [kC_at (k := 8) (by decide)]; decide))
          have ga14768 := hG3.of (h14761.2 (c + 9) (by rw [kC_at (k := 9) (by decide)]; decide))
          have ga14769 := hQ3.of (h14761.2 (c + 11) (by rw [kC_at (k := 11) (by decide)]; decide))
          obtain ⟨hp, rfl⟩ := hp
          have hyd14770 := hp
          obtain ⟨yd14770, yd14771, yd14772, yd14773, yd14774, yd14775, yd14776⟩ := hyd14770
          refine m_aload_n F rfl e_X10_readLine_166 ?_
          refine r_callV F e_X10_readLine_167 (q_X10_goOnG (x_l X) V c T 0 u h P14690 L _ _  1 h14762.1 (hob) oP14690  (yd14775) (by decide)) cb_X10_goOn ml_X10_154 im_X10_goOn se_X10_goOn h14762 rfl rfl (rest := []) rfl (Nat.le_of_ble_eq_true rfl) ⟨Nat.le_of_ble_eq_true rfl, Nat.le_of_ble_eq_true rfl⟩ ⟨Nat.le_of_ble_eq_true rfl, Nat.le_of_ble_eq_true rfl⟩ (fun r σ14777 hp => ?_)
          obtain ⟨h14778, hp⟩ := hp
          have h14779 := HS.trans h14762 h14778 (by decide)
          have ga14780 := ga14763.of (h14778.2 (c + 1) (by rw [kC_at (k := 1) (by decide)]; decide))
          have ga14781 := ga14764.of (h14778.2 (c + 2) (by rw [kC_at (k := 2) (by decide)]; decide))
          have ga14782 := ga14765.of (h14778.2 (c + 3) (by rw [kC_at (k := 3) (by decide)]; decide))
          have ga14783 := ga14766.of (h14778.2 (c + 7) (by rw [kC_at (k := 7) (by decide)]; decide))
          have ga14784 := ga14767.of (h14778.2 (c + 8) (by rw [kC_at (k := 8) (by decide)]; decide))
          have ga14785 := ga14768.of (h14778.2 (c + 9) (by rw [kC_at (k := 9) (by decide)]; decide))
          have ga14786 := ga14769.of (h14778.2 (c + 11) (by rw [kC_at (k := 11) (by decide)]; decide))
          obtain ⟨rfl, rfl⟩ := hp
          refine m_aload_n F rfl e_X10_readLine_170 ?_
          refine m_dup F rfl e_X10_readLine_171 ?_
          refine r_getC F e_X10_readLine_172 fl_X10_202 h14779 (yd14770) ?_
          refine m_iconst F (v := 1) (by decide) e_X10_readLine_175 ?_
          refine m_iadd F e_X10_readLine_176 ?_
          refine Wm.topE (w := nI (ln3 + 1)) (nI_add ln3 1) ?_
          refine r_put F (g' := (⟨T, 0, u, h, P14690, L⟩ : RG)) e_X10_readLine_177 fp_X10_202 h14779 (by decide) ⟨_, rfl⟩ (fun _ _ _ _ q => q) (fun _ _ _ q => q) rfl rfl (by decide) (fun σ14787 h14788 g14789 g14790 f14791 => ?_)
          have ga14792 := ga14763.of (g14789 _ (by omega))
          have ga14793 := ga14764.of (g14789 _ (by omega))
          have ga14794 := ga14765.of (g14789 _ (by omega))
          have ga14795 := ga14766.of (g14789 _ (by omega))
          have ga14796 := ga14767.of (g14789 _ (by omega))
          have ga14797 := ga14768.of (g14789 _ (by omega))
          have ga14798 := ga14769.of (g14789 _ (by omega))
          have h14799 : HS V c _ [0, 2, 17, 18, 19, 20, 21, 22, 23] _ _ := ⟨HR.mono (Z' := Z) (by intro e; first | rfl | assumption | omega) h14788.1, h14788.2⟩
          exact m_vret F hQ e_X10_readLine_180 (⟨P14690, oP14690, (by unfold RP; omega), (by rw [eo14699]; show RM _ c n _ (stopS (tok t n) (j1, 1, j3, j4) nl3 nm3 np3 nc3 lc3 no3 sd3 md3 ln3); rw [stopS_1 (by decide)]; exact RM.l ((g14790 23 (by decide)).trans yd14775) ((g14790 24 (by decide)).trans yd14776) (by omega) (by omega) (by omega)), (fun S2 hS _ => by rw [eo14699] at hS; replace hS : stopS (tok t n) (j1, 1, j3, j4) nl3 nm3 np3 nc3 lc3 no3 sd3 md3 ln3 = .inr S2 := hS; rw [stopS_1 (by decide)] at hS; cases hS), h14799, rfl⟩)
        · refine r_getC F e_X10_readLine_154 fl_X10_110 h14689 (yd14716) ?_
          refine m_iconst F (v := 3) (by decide) e_X10_readLine_157 ?_
          refine m_icmp_eq F e_X10_readLine_158 (fun q => absurd q (by decide)) (fun _ => ?_)
          refine m_aload_n F rfl e_X10_readLine_161 ?_
          refine m_iconst F (v := 1) (by decide) e_X10_readLine_162 ?_
          refine r_callV F e_X10_readLine_163 (q_X10_wrongE (x_l X) V c T Z u h P14690 L _ _ 1 n j1 1 (nI j3) ln3 fp3 h14689.1 (hob) oP14690 (by omega) ⟨(yd14713), (yd14714), (yd14715), (yd14716), (yd14717), (yd14718), (yd14719)⟩ (by decide)) cb_X10_wrong ml_X10_150 im_X10_wrong se_X10_wrong h14689 rfl rfl (rest := []) rfl (Nat.le_of_ble_eq_true rfl) ⟨Nat.le_of_ble_eq_true rfl, Nat.le_of_ble_eq_true rfl⟩ ⟨Nat.le_of_ble_eq_true rfl, Nat.le_of_ble_eq_true rfl⟩ (fun r σ14800 hp => ?_)
          obtain ⟨h14801, hp⟩ := hp
          have h14802 := HS.trans h14689 h14801 (by decide)
          have ga14803 := ga14692.of (h14801.2 (c + 1) (by rw [kC_at (k := 1) (by decide)]; decide))
          have ga14804 := hN3.of (h14801.2 (c + 2) (by rw [kC_at (k := 2) (by decide)]; decide))
          have ga14805 := hM3.of (h14801.2 (c + 3) (by rw [kC_at (k := 3) (by decide)]; decide))
          have ga14806 := hK3.of (h14801.2 (c + 7) (by rw [kC_at (k := 7) (by decide)]; decide))
          have ga14807 := hF3.of (h14801.2 (c + 8) (by rw [kC_at (k := 8) (by decide)]; decide))
          have ga14808 := hG3.of (h14801.2 (c + 9) (by rw [kC_at (k := 9) (by decide)]; decide))
          have ga14809 := hQ3.of (h14801.2 (c + 11) (by rw [kC_at (k := 11) (by decide)]; decide))
          obtain ⟨hp, rfl⟩ := hp
          have hyd14810 := hp
          obtain ⟨yd14810, yd14811, yd14812, yd14813, yd14814, yd14815, yd14816⟩ := hyd14810
          refine m_aload_n F rfl e_X10_readLine_166 ?_
          refine r_callV F e_X10_readLine_167 (q_X10_goOnG (x_l X) V c T 0 u h P14690 L _ _  1 h14802.1 (hob) oP14690  (yd14815) (by decide)) cb_X10_goOn ml_X10_154 im_X10_goOn se_X10_goOn h14802 rfl rfl (rest := []) rfl (Nat.le_of_ble_eq_true rfl) ⟨Nat.le_of_ble_eq_true rfl, Nat.le_of_ble_eq_true rfl⟩ ⟨Nat.le_of_ble_eq_true rfl, Nat.le_of_ble_eq_true rfl⟩ (fun r σ14817 hp => ?_)
          obtain ⟨h14818, hp⟩ := hp
          have h14819 := HS.trans h14802 h14818 (by decide)
          have ga14820 := ga14803.of (h14818.2 (c + 1) (by rw [kC_at (k := 1) (by decide)]; decide))
          have ga14821 := ga14804.of (h14818.2 (c + 2) (by rw [kC_at (k := 2) (by decide)]; decide))
          have ga14822 := ga14805.of (h14818.2 (c + 3) (by rw [kC_at (k := 3) (by decide)]; decide))
          have ga14823 := ga14806.of (h14818.2 (c + 7) (by rw [kC_at (k := 7) (by decide)]; decide))
          have ga14824 := ga14807.of (h14818.2 (c + 8) (by rw [kC_at (k := 8) (by decide)]; decide))
          have ga14825 := ga14808.of (h14818.2 (c + 9) (by rw [kC_at (k := 9) (by decide)]; decide))
          have ga14826 := ga14809.of (h14818.2 (c + 11) (by rw [kC_at (k := 11) (by decide)]; decide))
          obtain ⟨rfl, rfl⟩ := hp
          refine m_aload_n F rfl e_X10_readLine_170 ?_
          refine m_dup F rfl e_X10_readLine_171 ?_
          refine r_getC F e_X10_readLine_172 fl_X10_202 h14819 (yd14810) ?_
          refine m_iconst F (v := 1) (by decide) e_X10_readLine_175 ?_
          refine m_iadd F e_X10_readLine_176 ?_
          refine Wm.topE (w := nI (ln3 + 1)) (nI_add ln3 1) ?_
          refine r_put F (g' := (⟨T, 0, u, h, P14690, L⟩ : RG)) e_X10_readLine_177 fp_X10_202 h14819 (by decide) ⟨_, rfl⟩ (fun _ _ _ _ q => q) (fun _ _ _ q => q) rfl rfl (by decide) (fun σ14827 h14828 g14829 g14830 f14831 => ?_)
          have ga14832 := ga14803.of (g14829 _ (by omega))
          have ga14833 := ga14804.of (g14829 _ (by omega))
          have ga14834 := ga14805.of (g14829 _ (by omega))
          have ga14835 := ga14806.of (g14829 _ (by omega))
          have ga14836 := ga14807.of (g14829 _ (by omega))
          have ga14837 := ga14808.of (g14829 _ (by omega))
          have ga14838 := ga14809.of (g14829 _ (by omega))
          have h14839 : HS V c _ [0, 2, 17, 18, 19, 20, 21, 22, 23] _ _ := ⟨HR.mono (Z' := Z) (by intro e; first | rfl | assumption | omega) h14828.1, h14828.2⟩
          exact m_vret F hQ e_X10_readLine_180 (⟨P14690, oP14690, (by unfold RP; omega), (by rw [eo14699]; show RM _ c n _ (stopS (tok t n) (j1, 2, j3, j4) nl3 nm3 np3 nc3 lc3 no3 sd3 md3 ln3); rw [stopS_1 (by decide)]; exact RM.l ((g14830 23 (by decide)).trans yd14815) ((g14830 24 (by decide)).trans yd14816) (by omega) (by omega) (by omega)), (fun S2 hS _ => by rw [eo14699] at hS; replace hS : stopS (tok t n) (j1, 2, j3, j4) nl3 nm3 np3 nc3 lc3 no3 sd3 md3 ln3 = .inr S2 := hS; rw [stopS_1 (by decide)] at hS; cases hS), h14839, rfl⟩)
        · refine r_getC F e_X10_readLine_154 fl_X10_110 h14689 (yd14716) ?_
          refine m_iconst F (v := 3) (by decide) e_X10_readLine_157 ?_
          refine m_icmp_eq F e_X10_readLine_158 (fun q => absurd q (by decide)) (fun _ => ?_)
          refine m_aload_n F rfl e_X10_readLine_161 ?_
          refine m_iconst F (v := 1) (by decide) e_X10_readLine_162 ?_
          refine r_callV F e_X10_readLine_163 (q_X10_wrongE (x_l X) V c T Z u h P14690 L _ _ 1 n j1 2 (nI w3) ln3 fp3 h14689.1 (hob) oP14690 (by omega) ⟨(yd14713), (yd14714), (yd14715), (yd14716), (yd14717), (yd14718), (yd14719)⟩ (by decide)) cb_X10_wrong ml_X10_150 im_X10_wrong se_X10_wrong h14689 rfl rfl (rest := []) rfl (Nat.le_of_ble_eq_true rfl) ⟨Nat.le_of_ble_eq_true rfl, Nat.le_of_ble_eq_true rfl⟩ ⟨Nat.le_of_ble_eq_true rfl, Nat.le_of_ble_eq_true rfl⟩ (fun r σ14840 hp => ?_)
          obtain ⟨h14841, hp⟩ := hp
          have h14842 := HS.trans h14689 h14841 (by decide)
          have ga14843 := ga14692.of (h14841.2 (c + 1) (by rw [kC_at (k := 1) (by decide)]; decide))
          have ga14844 := hN3.of (h14841.2 (c + 2) (by rw [kC_at (k := 2) (by decide)]; decide))
          have ga14845 := hM3.of (h14841.2 (c + 3) (by rw [kC_at (k := 3) (by decide)]; decide))
          have ga14846 := hK3.of (h14841.2 (c + 7) (by rw [kC_at (k := 7) (by decide)]; decide))
          have ga14847 := hF3.of (h14841.2 (c + 8) (by rw [kC_at (k := 8) (by decide)]; decide))
          have ga14848 := hG3.of (h14841.2 (c + 9) (by rw [kC_at (k := 9) (by decide)]; decide))
          have ga14849 := hQ3.of (h14841.2 (c + 11) (by rw [kC_at (k := 11) (by decide)]; decide))
          obtain ⟨hp, rfl⟩ := hp
          have hyd14850 := hp
          obtain ⟨yd14850, yd14851, yd14852, yd14853, yd14854, yd14855, yd14856⟩ := hyd14850
          refine m_aload_n F rfl e_X10_readLine_166 ?_
          refine r_callV F e_X10_readLine_167 (q_X10_goOnG (x_l X) V c T 0 u h P14690 L _ _  1 h14842.1 (hob) oP14690  (yd14855) (by decide)) cb_X10_goOn ml_X10_154 im_X10_goOn se_X10_goOn h14842 rfl rfl (rest := []) rfl (Nat.le_of_ble_eq_true rfl) ⟨Nat.le_of_ble_eq_true rfl, Nat.le_of_ble_eq_true rfl⟩ ⟨Nat.le_of_ble_eq_true rfl, Nat.le_of_ble_eq_true rfl⟩ (fun r σ14857 hp => ?_)
          obtain ⟨h14858, hp⟩ := hp
          have h14859 := HS.trans h14842 h14858 (by decide)
          have ga14860 := ga14843.of (h14858.2 (c + 1) (by rw [kC_at (k := 1) (by decide)]; decide))
          have ga14861 := ga14844.of (h14858.2 (c + 2) (by rw [kC_at (k := 2) (by decide)]; decide))
          have ga14862 := ga14845.of (h14858.2 (c + 3) (by rw [kC_at (k := 3) (by decide)]; decide))
          have ga14863 := ga14846.of (h14858.2 (c + 7) (by rw [kC_at (k := 7) (by decide)]; decide))
          have ga14864 := ga14847.of (h14858.2 (c + 8) (by rw [kC_at (k := 8) (by decide)]; decide))
          have ga14865 := ga14848.of (h14858.2 (c + 9) (by rw [kC_at (k := 9) (by decide)]; decide))
          have ga14866 := ga14849.of (h14858.2 (c + 11) (by rw [kC_at (k := 11) (by decide)]; decide))
          obtain ⟨rfl, rfl⟩ := hp
          refine m_aload_n F rfl e_X10_readLine_170 ?_
          refine m_dup F rfl e_X10_readLine_171 ?_
          refine r_getC F e_X10_readLine_172 fl_X10_202 h14859 (yd14850) ?_
          refine m_iconst F (v := 1) (by decide) e_X10_readLine_175 ?_
          refine m_iadd F e_X10_readLine_176 ?_
          refine Wm.topE (w := nI (ln3 + 1)) (nI_add ln3 1) ?_
          refine r_put F (g' := (⟨T, 0, u, h, P14690, L⟩ : RG)) e_X10_readLine_177 fp_X10_202 h14859 (by decide) ⟨_, rfl⟩ (fun _ _ _ _ q => q) (fun _ _ _ q => q) rfl rfl (by decide) (fun σ14867 h14868 g14869 g14870 f14871 => ?_)
          have ga14872 := ga14843.of (g14869 _ (by omega))
          have ga14873 := ga14844.of (g14869 _ (by omega))
          have ga14874 := ga14845.of (g14869 _ (by omega))
          have ga14875 := ga14846.of (g14869 _ (by omega))
          have ga14876 := ga14847.of (g14869 _ (by omega))
          have ga14877 := ga14848.of (g14869 _ (by omega))
          have ga14878 := ga14849.of (g14869 _ (by omega))
          have h14879 : HS V c _ [0, 2, 17, 18, 19, 20, 21, 22, 23] _ _ := ⟨HR.mono (Z' := Z) (by intro e; first | rfl | assumption | omega) h14868.1, h14868.2⟩
          exact m_vret F hQ e_X10_readLine_180 (⟨P14690, oP14690, (by unfold RP; omega), (by rw [eo14699]; show RM _ c n _ (stopS (tok t n) (j1, 3, j3, j4) nl3 nm3 np3 nc3 lc3 no3 sd3 md3 ln3); rw [stopS_1 (by decide)]; exact RM.l ((g14870 23 (by decide)).trans yd14855) ((g14870 24 (by decide)).trans yd14856) (by omega) (by omega) (by omega)), (fun S2 hS _ => by rw [eo14699] at hS; replace hS : stopS (tok t n) (j1, 3, j3, j4) nl3 nm3 np3 nc3 lc3 no3 sd3 md3 ln3 = .inr S2 := hS; rw [stopS_1 (by decide)] at hS; cases hS), h14879, rfl⟩)
        · refine r_getC F e_X10_readLine_154 fl_X10_110 h14689 (yd14716) ?_
          refine m_iconst F (v := 3) (by decide) e_X10_readLine_157 ?_
          refine m_icmp_eq F e_X10_readLine_158 (fun _ => ?_) (fun q => absurd (by decide) q)
          refine m_aload_n F rfl e_X10_readLine_166 ?_
          refine r_callV F e_X10_readLine_167 (q_X10_goOnE (x_l X) V c T Z u h P14690 L _ _  n j1 3 va3 ln3 fp3 t h14689.1 (hob) oP14690  ⟨(yd14713), (yd14714), (yd14715), (yd14716), (yd14717), (yd14718), (yd14719)⟩ ga14692 hn7 (by omega)) cb_X10_goOn ml_X10_154 im_X10_goOn se_X10_goOn h14689 rfl rfl (rest := []) rfl (Nat.le_of_ble_eq_true rfl) ⟨Nat.le_of_ble_eq_true rfl, Nat.le_of_ble_eq_true rfl⟩ ⟨Nat.le_of_ble_eq_true rfl, Nat.le_of_ble_eq_true rfl⟩ (fun r σ14880 hp => ?_)
          obtain ⟨P14883, oP14883, rP14883, pr14884, pr14885, h14881, hp⟩ := hp
          have h14882 := HS.trans h14689 h14881 (by decide)
          have xP14883 := oP14883
          unfold OKP at xP14883
          unfold RA at rP14883
          have ga14886 := ga14692.of (h14881.2 (c + 1) (by rw [kC_at (k := 1) (by decide)]; decide))
          have ga14887 := hN3.of (h14881.2 (c + 2) (by rw [kC_at (k := 2) (by decide)]; decide))
          have ga14888 := hM3.of (h14881.2 (c + 3) (by rw [kC_at (k := 3) (by decide)]; decide))
          have ga14889 := hK3.of (h14881.2 (c + 7) (by rw [kC_at (k := 7) (by decide)]; decide))
          have ga14890 := hF3.of (h14881.2 (c + 8) (by rw [kC_at (k := 8) (by decide)]; decide))
          have ga14891 := hG3.of (h14881.2 (c + 9) (by rw [kC_at (k := 9) (by decide)]; decide))
          have ga14892 := hQ3.of (h14881.2 (c + 11) (by rw [kC_at (k := 11) (by decide)]; decide))
          obtain rfl := hp
          rw [pa3] at pr14884 pr14885
          have b8 := tok_ok (t := t) (n := n) j4 c1
          obtain ⟨so14893, va14894, mt14895, yd14896⟩ := pr14885
          have hyd14897 := yd14896
          obtain ⟨yd14897, yd14898, yd14899, yd14900, yd14901, yd14902, yd14903⟩ := hyd14897
          refine m_aload_n F rfl e_X10_readLine_170 ?_
          refine m_dup F rfl e_X10_readLine_171 ?_
          refine r_getC F e_X10_readLine_172 fl_X10_202 h14882 (yd14897) ?_
          refine m_iconst F (v := 1) (by decide) e_X10_readLine_175 ?_
          refine m_iadd F e_X10_readLine_176 ?_
          refine Wm.topE (w := nI (ln3 + 1)) (nI_add ln3 1) ?_
          refine r_put F (g' := (⟨T, Z, u, h, P14883, L⟩ : RG)) e_X10_readLine_177 fp_X10_202 h14882 (by decide) ⟨_, rfl⟩ (fun _ _ _ _ q => q) (fun _ _ _ q => q) rfl rfl (by decide) (fun σ14904 h14905 g14906 g14907 f14908 => ?_)
          have ga14909 := ga14886.of (g14906 _ (by omega))
          have ga14910 := ga14887.of (g14906 _ (by omega))
          have ga14911 := ga14888.of (g14906 _ (by omega))
          have ga14912 := ga14889.of (g14906 _ (by omega))
          have ga14913 := ga14890.of (g14906 _ (by omega))
          have ga14914 := ga14891.of (g14906 _ (by omega))
          have ga14915 := ga14892.of (g14906 _ (by omega))
          exact m_vret F hQ e_X10_readLine_180 (⟨P14883, oP14883, (by unfold RP; omega), (by rw [eo14699]; show RM _ c n _ (stopS (tok t n) (j1, 4, j3, j4) nl3 nm3 np3 nc3 lc3 no3 sd3 md3 ln3); rw [stopS_ok]; exact RM.r mt14895 ⟨(f14908), ((g14907 18 (by decide)).trans yd14898), ((g14907 20 (by decide)).trans yd14899), ((g14907 21 (by decide)).trans yd14900), ((g14907 22 (by decide)).trans yd14901), ((g14907 23 (by decide)).trans yd14902), ((g14907 24 (by decide)).trans yd14903)⟩ (by omega) (by omega) (by omega) ga14910 ga14911 ga14912 ga14913 ga14914 ga14915 (by omega) (by omega) (by omega) (by omega) (by omega)), (fun S2 hS hz => by rw [eo14699] at hS; replace hS : stopS (tok t n) (j1, 4, j3, j4) nl3 nm3 np3 nc3 lc3 no3 sd3 md3 ln3 = .inr S2 := hS; rw [stopS_ok] at hS; cases hS; replace hz : (tok t n j4).2.1 ≠ 0 := hz; have h8 := b8.2.2.2 hz; omega), h14905, rfl⟩)
        · refine r_getC F e_X10_readLine_154 fl_X10_110 h14689 (yd14716) ?_
          refine m_iconst F (v := 3) (by decide) e_X10_readLine_157 ?_
          refine m_icmp_eq F e_X10_readLine_158 (fun q => absurd q (by decide)) (fun _ => ?_)
          refine m_aload_n F rfl e_X10_readLine_161 ?_
          refine m_iconst F (v := 1) (by decide) e_X10_readLine_162 ?_
          refine r_callV F e_X10_readLine_163 (q_X10_wrongE (x_l X) V c T Z u h P14690 L _ _ 1 n j1 5 va3 ln3 fp3 h14689.1 (hob) oP14690 (by omega) ⟨(yd14713), (yd14714), (yd14715), (yd14716), (yd14717), (yd14718), (yd14719)⟩ (by decide)) cb_X10_wrong ml_X10_150 im_X10_wrong se_X10_wrong h14689 rfl rfl (rest := []) rfl (Nat.le_of_ble_eq_true rfl) ⟨Nat.le_of_ble_eq_true rfl, Nat.le_of_ble_eq_true rfl⟩ ⟨Nat.le_of_ble_eq_true rfl, Nat.le_of_ble_eq_true rfl⟩ (fun r σ14916 hp => ?_)
          obtain ⟨h14917, hp⟩ := hp
          have h14918 := HS.trans h14689 h14917 (by decide)
          have ga14919 := ga14692.of (h14917.2 (c + 1) (by rw [kC_at (k := 1) (by decide)]; decide))
          have ga14920 := hN3.of (h14917.2 (c + 2) (by rw [kC_at (k := 2) (by decide)]; decide))
          have ga14921 := hM3.of (h14917.2 (c + 3) (by rw [kC_at (k := 3) (by decide)]; decide))
          have ga14922 := hK3.of (h14917.2 (c + 7) (by rw [kC_at (k := 7) (by decide)]; decide))
          have ga14923 := hF3.of (h14917.2 (c + 8) (by rw [kC_at (k := 8) (by decide)]; decide))
          have ga14924 := hG3.of (h14917.2 (c + 9) (by rw [kC_at (k := 9) (by decide)]; decide))
          have ga14925 := hQ3.of (h14917.2 (c + 11) (by rw [kC_at (k := 11) (by decide)]; decide))
          obtain ⟨hp, rfl⟩ := hp
          have hyd14926 := hp
          obtain ⟨yd14926, yd14927, yd14928, yd14929, yd14930, yd14931, yd14932⟩ := hyd14926
          refine m_aload_n F rfl e_X10_readLine_166 ?_
          refine r_callV F e_X10_readLine_167 (q_X10_goOnG (x_l X) V c T 0 u h P14690 L _ _  1 h14918.1 (hob) oP14690  (yd14931) (by decide)) cb_X10_goOn ml_X10_154 im_X10_goOn se_X10_goOn h14918 rfl rfl (rest := []) rfl (Nat.le_of_ble_eq_true rfl) ⟨Nat.le_of_ble_eq_true rfl, Nat.le_of_ble_eq_true rfl⟩ ⟨Nat.le_of_ble_eq_true rfl, Nat.le_of_ble_eq_true rfl⟩ (fun r σ14933 hp => ?_)
          obtain ⟨h14934, hp⟩ := hp
          have h14935 := HS.trans h14918 h14934 (by decide)
          have ga14936 := ga14919.of (h14934.2 (c + 1) (by rw [kC_at (k := 1) (by decide)]; decide))
          have ga14937 := ga14920.of (h14934.2 (c + 2) (by rw [kC_at (k := 2) (by decide)]; decide))
          have ga14938 := ga14921.of (h14934.2 (c + 3) (by rw [kC_at (k := 3) (by decide)]; decide))
          have ga14939 := ga14922.of (h14934.2 (c + 7) (by rw [kC_at (k := 7) (by decide)]; decide))
          have ga14940 := ga14923.of (h14934.2 (c + 8) (by rw [kC_at (k := 8) (by decide)]; decide))
          have ga14941 := ga14924.of (h14934.2 (c + 9) (by rw [kC_at (k := 9) (by decide)]; decide))
          have ga14942 := ga14925.of (h14934.2 (c + 11) (by rw [kC_at (k := 11) (by decide)]; decide))
          obtain ⟨rfl, rfl⟩ := hp
          refine m_aload_n F rfl e_X10_readLine_170 ?_
          refine m_dup F rfl e_X10_readLine_171 ?_
          refine r_getC F e_X10_readLine_172 fl_X10_202 h14935 (yd14926) ?_
          refine m_iconst F (v := 1) (by decide) e_X10_readLine_175 ?_
          refine m_iadd F e_X10_readLine_176 ?_
          refine Wm.topE (w := nI (ln3 + 1)) (nI_add ln3 1) ?_
          refine r_put F (g' := (⟨T, 0, u, h, P14690, L⟩ : RG)) e_X10_readLine_177 fp_X10_202 h14935 (by decide) ⟨_, rfl⟩ (fun _ _ _ _ q => q) (fun _ _ _ q => q) rfl rfl (by decide) (fun σ14943 h14944 g14945 g14946 f14947 => ?_)
          have ga14948 := ga14919.of (g14945 _ (by omega))
          have ga14949 := ga14920.of (g14945 _ (by omega))
          have ga14950 := ga14921.of (g14945 _ (by omega))
          have ga14951 := ga14922.of (g14945 _ (by omega))
          have ga14952 := ga14923.of (g14945 _ (by omega))
          have ga14953 := ga14924.of (g14945 _ (by omega))
          have ga14954 := ga14925.of (g14945 _ (by omega))
          have h14955 : HS V c _ [0, 2, 17, 18, 19, 20, 21, 22, 23] _ _ := ⟨HR.mono (Z' := Z) (by intro e; first | rfl | assumption | omega) h14944.1, h14944.2⟩
          exact m_vret F hQ e_X10_readLine_180 (⟨P14690, oP14690, (by unfold RP; omega), (by rw [eo14699]; show RM _ c n _ (stopS (tok t n) (j1, 5, j3, j4) nl3 nm3 np3 nc3 lc3 no3 sd3 md3 ln3); rw [stopS_1 (by decide)]; exact RM.l ((g14946 23 (by decide)).trans yd14931) ((g14946 24 (by decide)).trans yd14932) (by omega) (by omega) (by omega)), (fun S2 hS _ => by rw [eo14699] at hS; replace hS : stopS (tok t n) (j1, 5, j3, j4) nl3 nm3 np3 nc3 lc3 no3 sd3 md3 ln3 = .inr S2 := hS; rw [stopS_1 (by decide)] at hS; cases hS), h14955, rfl⟩)
    · refine r_getC F e_X10_readLine_1 fl_X10_110 h1 (yd14109) ?_
      refine m_if_eq F e_X10_readLine_4 (fun _ => ?_) (fun q => absurd (by decide) q)
      refine m_aload_n F rfl e_X10_readLine_15 ?_
      refine r_getC F e_X10_readLine_16 fl_X10_120 h1 (yd14110) ?_
      refine m_if_ne F e_X10_readLine_19 (fun _ => ?_) (fun q => absurd q (by decide))
      refine m_aload_n F rfl e_X10_readLine_29 ?_
      refine r_getC F e_X10_readLine_30 fl_X10_120 h1 (yd14110) ?_
      refine m_iconst F (v := 1) (by decide) e_X10_readLine_33 ?_
      refine m_icmp_ne F e_X10_readLine_34 (fun _ => ?_) (fun q => absurd q (by decide))
      refine m_aload_n F rfl e_X10_readLine_44 ?_
      refine r_getC F e_X10_readLine_45 fl_X10_120 h1 (yd14110) ?_
      refine m_iconst F (v := 2) (by decide) e_X10_readLine_48 ?_
      refine m_icmp_eq F e_X10_readLine_49 (fun q => absurd q (by decide)) (fun _ => ?_)
      refine m_aload_n F rfl e_X10_readLine_52 ?_
      refine r_getC F e_X10_readLine_53 fl_X10_120 h1 (yd14110) ?_
      refine m_iconst F (v := 5) (by decide) e_X10_readLine_56 ?_
      refine m_icmp_ne F e_X10_readLine_57 (fun _ => ?_) (fun q => absurd q (by decide))
      refine m_aload_n F rfl e_X10_readLine_80 ?_
      refine r_getC F e_X10_readLine_81 fl_X10_120 h1 (yd14110) ?_
      refine m_iconst F (v := 3) (by decide) e_X10_readLine_84 ?_
      refine m_icmp_ne F e_X10_readLine_85 (fun q => absurd (by decide) q) (fun _ => ?_)
      refine m_aload_n F rfl e_X10_readLine_88 ?_
      refine r_callV F e_X10_readLine_89 (q_X10_readFairE (x_l X) V c T Z u h P L _ _  n st 0 3 ln fp t 1 3 nm np lc no sd md h1.1 (hob) hP  ⟨(yd14106), (yd14107), (yd14108), (yd14109), (yd14110), (yd14111), (yd14112)⟩ hp1 hn7 (by omega) hp4 hp5 hp6 hp7 hp8 hp9 hp10 hp11 hp12 hp13 hp14) cb_X10_readFair ml_X10_187 im_X10_readFair se_X10_readFair h1 rfl rfl (rest := []) rfl (Nat.le_of_ble_eq_true rfl) ⟨Nat.le_of_ble_eq_true rfl, Nat.le_of_ble_eq_true rfl⟩ ⟨Nat.le_of_ble_eq_true rfl, Nat.le_of_ble_eq_true rfl⟩ (fun r σ14956 hp => ?_)
      obtain ⟨P14959, oP14959, rP14959, pr14960, h14957, hp⟩ := hp
      have h14958 := HS.trans h1 h14957 (by decide)
      have xP14959 := oP14959
      unfold OKP at xP14959
      unfold RP at rP14959
      have ga14961 := hp1.of (h14957.2 (c + 1) (by rw [kC_at (k := 1) (by decide)]; decide))
      have ga14962 := hp6.of (h14957.2 (c + 2) (by rw [kC_at (k := 2) (by decide)]; decide))
      have ga14963 := hp7.of (h14957.2 (c + 3) (by rw [kC_at (k := 3) (by decide)]; decide))
      have ga14964 := hp8.of (h14957.2 (c + 7) (by rw [kC_at (k := 7) (by decide)]; decide))
      have ga14965 := hp10.of (h14957.2 (c + 9) (by rw [kC_at (k := 9) (by decide)]; decide))
      have ga14966 := hp11.of (h14957.2 (c + 11) (by rw [kC_at (k := 11) (by decide)]; decide))
      obtain rfl := hp
      have rm14967 : RM σ14956 c n P14959 (lineS (tok t n) (st, 1, 3, P.a) P.n5 nm np P.n7 lc no sd md ln) := by rw [lineS_3]; exact pr14960
      cases eo14968 : lineS (tok t n) (st, 1, 3, P.a) P.n5 nm np P.n7 lc no sd md ln with
      | inl e8 =>
        rw [eo14968] at rm14967
        obtain ⟨⟨fa14969, fb14970⟩, c1, c2, c3⟩ := rm14967
        have nz8 : nI e8.1 ≠ 0 := fun e => absurd (nI_inj9 (b := 0) (by omega) (by omega) e) (by omega)
        refine m_goto F e_X10_readLine_92 ?_
        refine m_aload_n F rfl e_X10_readLine_146 ?_
        refine r_getC F e_X10_readLine_147 fl_X10_141 h14958 (fa14969) ?_
        refine m_if_ne F e_X10_readLine_150 (fun q150 => ?_) (fun q150 => ?_)
        · have c150 : e8.1 ≠ 0 := by have hh := mt (nI_eq (a := e8.1) (b := 0) (by omega) (by omega)).mpr q150; omega
          refine m_aload_n F rfl e_X10_readLine_166 ?_
          refine r_callV F e_X10_readLine_167 (q_X10_goOnG (x_l X) V c T Z u h P14959 L _ _  (nI e8.1) h14958.1 (hob) oP14959  (fa14969) (by assumption)) cb_X10_goOn ml_X10_154 im_X10_goOn se_X10_goOn h14958 rfl rfl (rest := []) rfl (Nat.le_of_ble_eq_true rfl) ⟨Nat.le_of_ble_eq_true rfl, Nat.le_of_ble_eq_true rfl⟩ ⟨Nat.le_of_ble_eq_true rfl, Nat.le_of_ble_eq_true rfl⟩ (fun r σ14971 hp => ?_)
          obtain ⟨h14972, hp⟩ := hp
          have h14973 := HS.trans h14958 h14972 (by decide)
          obtain ⟨rfl, rfl⟩ := hp
          refine m_aload_n F rfl e_X10_readLine_170 ?_
          refine m_dup F rfl e_X10_readLine_171 ?_
          refine r_get F e_X10_readLine_172 fl_X10_202 h14973 rfl (fun v hv f14974 => ?_)
          obtain ⟨x14975, rfl⟩ := hv
          refine m_iconst F (v := 1) (by decide) e_X10_readLine_175 ?_
          refine m_iadd F e_X10_readLine_176 ?_
          refine Wm.top (fun x14976 _ => ?_)
          refine r_put F (g' := (⟨T, Z, u, h, P14959, L⟩ : RG)) e_X10_readLine_177 fp_X10_202 h14973 (by decide) ⟨_, rfl⟩ (fun _ _ _ _ q => q) (fun _ _ _ q => q) rfl rfl (by decide) (fun σ14977 h14978 g14979 g14980 f14981 => ?_)
          exact m_vret F hQ e_X10_readLine_180 (⟨P14959, oP14959, (by unfold RP; omega), (by rw [eo14968]; show RM _ c n _ (.inl e8); exact RM.l ((g14980 23 (by decide)).trans fa14969) ((g14980 24 (by decide)).trans fb14970) (by omega) (by omega) (by omega)), (fun S2 hS _ => by rw [eo14968] at hS; cases hS), h14978, rfl⟩)
        · have c150 : e8.1 = 0 := (nI_eq (a := e8.1) (b := 0) (by omega) (by omega)).mp q150
          exact absurd q150 nz8
      | inr S1 =>
        rw [eo14968] at rm14967
        obtain ⟨⟨j1, j2, j3, j4⟩, nl3, nm3, np3, nc3, lc3, no3, sd3, md3, ln3⟩ := S1
        obtain ⟨so3, va3, fp3, mt3, yd3, ⟨pa3, p53, p73⟩, hN3, hM3, hK3, hF3, hG3, hQ3, c1, c2, c3, c4, c5⟩ := rm14967
        replace pa3 : _ = j4 := pa3
        replace c1 : j4 ≤ n := c1
        replace c2 : j1 ≤ n := c2
        have hyd14982 := yd3
        obtain ⟨yd14982, yd14983, yd14984, yd14985, yd14986, yd14987, yd14988⟩ := hyd14982
        refine m_goto F e_X10_readLine_92 ?_
        refine m_aload_n F rfl e_X10_readLine_146 ?_
        refine r_getC F e_X10_readLine_147 fl_X10_141 h14958 (yd14987) ?_
        refine m_if_ne F e_X10_readLine_150 (fun q => absurd (by decide) q) (fun _ => ?_)
        refine m_aload_n F rfl e_X10_readLine_153 ?_
        have hmt := mt3
        rcases hmt with ⟨rfl, rfl⟩ | ⟨rfl, rfl, rfl, hv3⟩ | ⟨rfl, rfl, rfl, hv3⟩ | ⟨rfl, rfl, w3, hw3, rfl, hm3⟩ | ⟨rfl, rfl⟩ | ⟨rfl, rfl⟩
        · refine r_getC F e_X10_readLine_154 fl_X10_110 h14958 (yd14985) ?_
          refine m_iconst F (v := 3) (by decide) e_X10_readLine_157 ?_
          refine m_icmp_eq F e_X10_readLine_158 (fun q => absurd q (by decide)) (fun _ => ?_)
          refine m_aload_n F rfl e_X10_readLine_161 ?_
          refine m_iconst F (v := 1) (by decide) e_X10_readLine_162 ?_
          refine r_callV F e_X10_readLine_163 (q_X10_wrongE (x_l X) V c T Z u h P14959 L _ _ 1 n j1 4 va3 ln3 fp3 h14958.1 (hob) oP14959 (by omega) ⟨(yd14982), (yd14983), (yd14984), (yd14985), (yd14986), (yd14987), (yd14988)⟩ (by decide)) cb_X10_wrong ml_X10_150 im_X10_wrong se_X10_wrong h14958 rfl rfl (rest := []) rfl (Nat.le_of_ble_eq_true rfl) ⟨Nat.le_of_ble_eq_true rfl, Nat.le_of_ble_eq_true rfl⟩ ⟨Nat.le_of_ble_eq_true rfl, Nat.le_of_ble_eq_true rfl⟩ (fun r σ14989 hp => ?_)
          obtain ⟨h14990, hp⟩ := hp
          have h14991 := HS.trans h14958 h14990 (by decide)
          have ga14992 := ga14961.of (h14990.2 (c + 1) (by rw [kC_at (k := 1) (by decide)]; decide))
          have ga14993 := hN3.of (h14990.2 (c + 2) (by rw [kC_at (k := 2) (by decide)]; decide))
          have ga14994 := hM3.of (h14990.2 (c + 3) (by rw [kC_at (k := 3) (by decide)]; decide))
          have ga14995 := hK3.of (h14990.2 (c + 7) (by rw [kC_at (k := 7) (by decide)]; decide))
          have ga14996 := hF3.of (h14990.2 (c + 8) (by rw [kC_at (k := 8) (by decide)]; decide))
          have ga14997 := hG3.of (h14990.2 (c + 9) (by rw [kC_at (k := 9) (by decide)]; decide))
          have ga14998 := hQ3.of (h14990.2 (c + 11) (by rw [kC_at (k := 11) (by decide)]; decide))
          obtain ⟨hp, rfl⟩ := hp
          have hyd14999 := hp
          obtain ⟨yd14999, yd15000, yd15001, yd15002, yd15003, yd15004, yd15005⟩ := hyd14999
          refine m_aload_n F rfl e_X10_readLine_166 ?_
          refine r_callV F e_X10_readLine_167 (q_X10_goOnG (x_l X) V c T 0 u h P14959 L _ _  1 h14991.1 (hob) oP14959  (yd15004) (by decide)) cb_X10_goOn ml_X10_154 im_X10_goOn se_X10_goOn h14991 rfl rfl (rest := []) rfl (Nat.le_of_ble_eq_true rfl) ⟨Nat.le_of_ble_eq_true rfl, Nat.le_of_ble_eq_true rfl⟩ ⟨Nat.le_of_ble_eq_true rfl, Nat.le_of_ble_eq_true rfl⟩ (fun r σ15006 hp => ?_)
          obtain ⟨h15007, hp⟩ := hp
          have h15008 := HS.trans h14991 h15007 (by decide)
          have ga15009 := ga14992.of (h15007.2 (c + 1) (by rw [kC_at (k := 1) (by decide)]; decide))
          have ga15010 := ga14993.of (h15007.2 (c + 2) (by rw [kC_at (k := 2) (by decide)]; decide))
          have ga15011 := ga14994.of (h15007.2 (c + 3) (by rw [kC_at (k := 3) (by decide)]; decide))
          have ga15012 := ga14995.of (h15007.2 (c + 7) (by rw [kC_at (k := 7) (by decide)]; decide))
          have ga15013 := ga14996.of (h15007.2 (c + 8) (by rw [kC_at (k := 8) (by decide)]; decide))
          have ga15014 := ga14997.of (h15007.2 (c + 9) (by rw [kC_at (k := 9) (by decide)]; decide))
          have ga15015 := ga14998.of (h15007.2 (c + 11) (by rw [kC_at (k := 11) (by decide)]; decide))
          obtain ⟨rfl, rfl⟩ := hp
          refine m_aload_n F rfl e_X10_readLine_170 ?_
          refine m_dup F rfl e_X10_readLine_171 ?_
          refine r_getC F e_X10_readLine_172 fl_X10_202 h15008 (yd14999) ?_
          refine m_iconst F (v := 1) (by decide) e_X10_readLine_175 ?_
          refine m_iadd F e_X10_readLine_176 ?_
          refine Wm.topE (w := nI (ln3 + 1)) (nI_add ln3 1) ?_
          refine r_put F (g' := (⟨T, 0, u, h, P14959, L⟩ : RG)) e_X10_readLine_177 fp_X10_202 h15008 (by decide) ⟨_, rfl⟩ (fun _ _ _ _ q => q) (fun _ _ _ q => q) rfl rfl (by decide) (fun σ15016 h15017 g15018 g15019 f15020 => ?_)
          have ga15021 := ga14992.of (g15018 _ (by omega))
          have ga15022 := ga14993.of (g15018 _ (by omega))
          have ga15023 := ga14994.of (g15018 _ (by omega))
          have ga15024 := ga14995.of (g15018 _ (by omega))
          have ga15025 := ga14996.of (g15018 _ (by omega))
          have ga15026 := ga14997.of (g15018 _ (by omega))
          have ga15027 := ga14998.of (g15018 _ (by omega))
          have h15028 : HS V c _ [0, 2, 17, 18, 19, 20, 21, 22, 23] _ _ := ⟨HR.mono (Z' := Z) (by intro e; first | rfl | assumption | omega) h15017.1, h15017.2⟩
          exact m_vret F hQ e_X10_readLine_180 (⟨P14959, oP14959, (by unfold RP; omega), (by rw [eo14968]; show RM _ c n _ (stopS (tok t n) (j1, 0, j3, j4) nl3 nm3 np3 nc3 lc3 no3 sd3 md3 ln3); rw [stopS_1 (by decide)]; exact RM.l ((g15019 23 (by decide)).trans yd15004) ((g15019 24 (by decide)).trans yd15005) (by omega) (by omega) (by omega)), (fun S2 hS _ => by rw [eo14968] at hS; replace hS : stopS (tok t n) (j1, 0, j3, j4) nl3 nm3 np3 nc3 lc3 no3 sd3 md3 ln3 = .inr S2 := hS; rw [stopS_1 (by decide)] at hS; cases hS), h15028, rfl⟩)
        · refine r_getC F e_X10_readLine_154 fl_X10_110 h14958 (yd14985) ?_
          refine m_iconst F (v := 3) (by decide) e_X10_readLine_157 ?_
          refine m_icmp_eq F e_X10_readLine_158 (fun q => absurd q (by decide)) (fun _ => ?_)
          refine m_aload_n F rfl e_X10_readLine_161 ?_
          refine m_iconst F (v := 1) (by decide) e_X10_readLine_162 ?_
          refine r_callV F e_X10_readLine_163 (q_X10_wrongE (x_l X) V c T Z u h P14959 L _ _ 1 n j1 0 (nI j3) ln3 fp3 h14958.1 (hob) oP14959 (by omega) ⟨(yd14982), (yd14983), (yd14984), (yd14985), (yd14986), (yd14987), (yd14988)⟩ (by decide)) cb_X10_wrong ml_X10_150 im_X10_wrong se_X10_wrong h14958 rfl rfl (rest := []) rfl (Nat.le_of_ble_eq_true rfl) ⟨Nat.le_of_ble_eq_true rfl, Nat.le_of_ble_eq_true rfl⟩ ⟨Nat.le_of_ble_eq_true rfl, Nat.le_of_ble_eq_true rfl⟩ (fun r σ15029 hp => ?_)
          obtain ⟨h15030, hp⟩ := hp
          have h15031 := HS.trans h14958 h15030 (by decide)
          have ga15032 := ga14961.of (h15030.2 (c + 1) (by rw [kC_at (k := 1) (by decide)]; decide))
          have ga15033 := hN3.of (h15030.2 (c + 2) (by rw [kC_at (k := 2) (by decide)]; decide))
          have ga15034 := hM3.of (h15030.2 (c + 3) (by rw [kC_at (k := 3) (by decide)]; decide))
          have ga15035 := hK3.of (h15030.2 (c + 7) (by rw [kC_at (k := 7) (by decide)]; decide))
          have ga15036 := hF3.of (h15030.2 (c + 8) (by rw [kC_at (k := 8) (by decide)]; decide))
          have ga15037 := hG3.of (h15030.2 (c + 9) (by rw [kC_at (k := 9) (by decide)]; decide))
          have ga15038 := hQ3.of (h15030.2 (c + 11) (by rw [kC_at (k := 11) (by decide)]; decide))
          obtain ⟨hp, rfl⟩ := hp
          have hyd15039 := hp
          obtain ⟨yd15039, yd15040, yd15041, yd15042, yd15043, yd15044, yd15045⟩ := hyd15039
          refine m_aload_n F rfl e_X10_readLine_166 ?_
          refine r_callV F e_X10_readLine_167 (q_X10_goOnG (x_l X) V c T 0 u h P14959 L _ _  1 h15031.1 (hob) oP14959  (yd15044) (by decide)) cb_X10_goOn ml_X10_154 im_X10_goOn se_X10_goOn h15031 rfl rfl (rest := []) rfl (Nat.le_of_ble_eq_true rfl) ⟨Nat.le_of_ble_eq_true rfl, Nat.le_of_ble_eq_true rfl⟩ ⟨Nat.le_of_ble_eq_true rfl, Nat.le_of_ble_eq_true rfl⟩ (fun r σ15046 hp => ?_)
          obtain ⟨h15047, hp⟩ := hp
          have h15048 := HS.trans h15031 h15047 (by decide)
          have ga15049 := ga15032.of (h15047.2 (c + 1) (by rw [kC_at (k := 1) (by decide)]; decide))
          have ga15050 := ga15033.of (h15047.2 (c + 2) (by rw [kC_at (k := 2) (by decide)]; decide))
          have ga15051 := ga15034.of (h15047.2 (c + 3) (by rw [kC_at (k := 3) (by decide)]; decide))
          have ga15052 := ga15035.of (h15047.2 (c + 7) (by rw [kC_at (k := 7) (by decide)]; decide))
          have ga15053 := ga15036.of (h15047.2 (c + 8) (by rw [kC_at (k := 8) (by decide)]; decide))
          have ga15054 := ga15037.of (h15047.2 (c + 9) (by rw [kC_at (k := 9) (by decide)]; decide))
          have ga15055 := ga15038.of (h15047.2 (c + 11) (by rw [kC_at (k := 11) (by decide)]; decide))
          obtain ⟨rfl, rfl⟩ := hp
          refine m_aload_n F rfl e_X10_readLine_170 ?_
          refine m_dup F rfl e_X10_readLine_171 ?_
          refine r_getC F e_X10_readLine_172 fl_X10_202 h15048 (yd15039) ?_
          refine m_iconst F (v := 1) (by decide) e_X10_readLine_175 ?_
          refine m_iadd F e_X10_readLine_176 ?_
          refine Wm.topE (w := nI (ln3 + 1)) (nI_add ln3 1) ?_
          refine r_put F (g' := (⟨T, 0, u, h, P14959, L⟩ : RG)) e_X10_readLine_177 fp_X10_202 h15048 (by decide) ⟨_, rfl⟩ (fun _ _ _ _ q => q) (fun _ _ _ q => q) rfl rfl (by decide) (fun σ15056 h15057 g15058 g15059 f15060 => ?_)
          have ga15061 := ga15032.of (g15058 _ (by omega))
          have ga15062 := ga15033.of (g15058 _ (by omega))
          have ga15063 := ga15034.of (g15058 _ (by omega))
          have ga15064 := ga15035.of (g15058 _ (by omega))
          have ga15065 := ga15036.of (g15058 _ (by omega))
          have ga15066 := ga15037.of (g15058 _ (by omega))
          have ga15067 := ga15038.of (g15058 _ (by omega))
          have h15068 : HS V c _ [0, 2, 17, 18, 19, 20, 21, 22, 23] _ _ := ⟨HR.mono (Z' := Z) (by intro e; first | rfl | assumption | omega) h15057.1, h15057.2⟩
          exact m_vret F hQ e_X10_readLine_180 (⟨P14959, oP14959, (by unfold RP; omega), (by rw [eo14968]; show RM _ c n _ (stopS (tok t n) (j1, 1, j3, j4) nl3 nm3 np3 nc3 lc3 no3 sd3 md3 ln3); rw [stopS_1 (by decide)]; exact RM.l ((g15059 23 (by decide)).trans yd15044) ((g15059 24 (by decide)).trans yd15045) (by omega) (by omega) (by omega)), (fun S2 hS _ => by rw [eo14968] at hS; replace hS : stopS (tok t n) (j1, 1, j3, j4) nl3 nm3 np3 nc3 lc3 no3 sd3 md3 ln3 = .inr S2 := hS; rw [stopS_1 (by decide)] at hS; cases hS), h15068, rfl⟩)
        · refine r_getC F e_X10_readLine_154 fl_X10_110 h14958 (yd14985) ?_
          refine m_iconst F (v := 3) (by decide) e_X10_readLine_157 ?_
          refine m_icmp_eq F e_X10_readLine_158 (fun q => absurd q (by decide)) (fun _ => ?_)
          refine m_aload_n F rfl e_X10_readLine_161 ?_
          refine m_iconst F (v := 1) (by decide) e_X10_readLine_162 ?_
          refine r_callV F e_X10_readLine_163 (q_X10_wrongE (x_l X) V c T Z u h P14959 L _ _ 1 n j1 1 (nI j3) ln3 fp3 h14958.1 (hob) oP14959 (by omega) ⟨(yd14982), (yd14983), (yd14984), (yd14985), (yd14986), (yd14987), (yd14988)⟩ (by decide)) cb_X10_wrong ml_X10_150 im_X10_wrong se_X10_wrong h14958 rfl rfl (rest := []) rfl (Nat.le_of_ble_eq_true rfl) ⟨Nat.le_of_ble_eq_true rfl, Nat.le_of_ble_eq_true rfl⟩ ⟨Nat.le_of_ble_eq_true rfl, Nat.le_of_ble_eq_true rfl⟩ (fun r σ15069 hp => ?_)
          obtain ⟨h15070, hp⟩ := hp
          have h15071 := HS.trans h14958 h15070 (by decide)
          have ga15072 := ga14961.of (h15070.2 (c + 1) (by rw [kC_at (k := 1) (by decide)]; decide))
          have ga15073 := hN3.of (h15070.2 (c + 2) (by rw [kC_at (k := 2) (by decide)]; decide))
          have ga15074 := hM3.of (h15070.2 (c + 3) (by rw [kC_at (k := 3) (by decide)]; decide))
          have ga15075 := hK3.of (h15070.2 (c + 7) (by rw [kC_at (k := 7) (by decide)]; decide))
          have ga15076 := hF3.of (h15070.2 (c + 8) (by rw [kC_at (k := 8) (by decide)]; decide))
          have ga15077 := hG3.of (h15070.2 (c + 9) (by rw [kC_at (k := 9) (by decide)]; decide))
          have ga15078 := hQ3.of (h15070.2 (c + 11) (by rw [kC_at (k := 11) (by decide)]; decide))
          obtain ⟨hp, rfl⟩ := hp
          have hyd15079 := hp
          obtain ⟨yd15079, yd15080, yd15081, yd15082, yd15083, yd15084, yd15085⟩ := hyd15079
          refine m_aload_n F rfl e_X10_readLine_166 ?_
          refine r_callV F e_X10_readLine_167 (q_X10_goOnG (x_l X) V c T 0 u h P14959 L _ _  1 h15071.1 (hob) oP14959  (yd15084) (by decide)) cb_X10_goOn ml_X10_154 im_X10_goOn se_X10_goOn h15071 rfl rfl (rest := []) rfl (Nat.le_of_ble_eq_true rfl) ⟨Nat.le_of_ble_eq_true rfl, Nat.le_of_ble_eq_true rfl⟩ ⟨Nat.le_of_ble_eq_true rfl, Nat.le_of_ble_eq_true rfl⟩ (fun r σ15086 hp => ?_)
          obtain ⟨h15087, hp⟩ := hp
          have h15088 := HS.trans h15071 h15087 (by decide)
          have ga15089 := ga15072.of (h15087.2 (c + 1) (by rw [kC_at (k := 1) (by decide)]; decide))
          have ga15090 := ga15073.of (h15087.2 (c + 2) (by rw [kC_at (k := 2) (by decide)]; decide))
          have ga15091 := ga15074.of (h15087.2 (c + 3) (by rw [kC_at (k := 3) (by decide)]; decide))
          have ga15092 := ga15075.of (h15087.2 (c + 7) (by rw [kC_at (k := 7) (by decide)]; decide))
          have ga15093 := ga15076.of (h15087.2 (c + 8) (by rw [kC_at (k := 8) (by decide)]; decide))
          have ga15094 := ga15077.of (h15087.2 (c + 9) (by rw [kC_at (k := 9) (by decide)]; decide))
          have ga15095 := ga15078.of (h15087.2 (c + 11) (by rw [kC_at (k := 11) (by decide)]; decide))
          obtain ⟨rfl, rfl⟩ := hp
          refine m_aload_n F rfl e_X10_readLine_170 ?_
          refine m_dup F rfl e_X10_readLine_171 ?_
          refine r_getC F e_X10_readLine_172 fl_X10_202 h15088 (yd15079) ?_
          refine m_iconst F (v := 1) (by decide) e_X10_readLine_175 ?_
          refine m_iadd F e_X10_readLine_176 ?_
          refine Wm.topE (w := nI (ln3 + 1)) (nI_add ln3 1) ?_
          refine r_put F (g' := (⟨T, 0, u, h, P14959, L⟩ : RG)) e_X10_readLine_177 fp_X10_202 h15088 (by decide) ⟨_, rfl⟩ (fun _ _ _ _ q => q) (fun _ _ _ q => q) rfl rfl (by decide) (fun σ15096 h15097 g15098 g15099 f15100 => ?_)
          have ga15101 := ga15072.of (g15098 _ (by omega))
          have ga15102 := ga15073.of (g15098 _ (by omega))
          have ga15103 := ga15074.of (g15098 _ (by omega))
          have ga15104 := ga15075.of (g15098 _ (by omega))
          have ga15105 := ga15076.of (g15098 _ (by omega))
          have ga15106 := ga15077.of (g15098 _ (by omega))
          have ga15107 := ga15078.of (g15098 _ (by omega))
          have h15108 : HS V c _ [0, 2, 17, 18, 19, 20, 21, 22, 23] _ _ := ⟨HR.mono (Z' := Z) (by intro e; first | rfl | assumption | omega) h15097.1, h15097.2⟩
          exact m_vret F hQ e_X10_readLine_180 (⟨P14959, oP14959, (by unfold RP; omega), (by rw [eo14968]; show RM _ c n _ (stopS (tok t n) (j1, 2, j3, j4) nl3 nm3 np3 nc3 lc3 no3 sd3 md3 ln3); rw [stopS_1 (by decide)]; exact RM.l ((g15099 23 (by decide)).trans yd15084) ((g15099 24 (by decide)).trans yd15085) (by omega) (by omega) (by omega)), (fun S2 hS _ => by rw [eo14968] at hS; replace hS : stopS (tok t n) (j1, 2, j3, j4) nl3 nm3 np3 nc3 lc3 no3 sd3 md3 ln3 = .inr S2 := hS; rw [stopS_1 (by decide)] at hS; cases hS), h15108, rfl⟩)
        · refine r_getC F e_X10_readLine_154 fl_X10_110 h14958 (yd14985) ?_
          refine m_iconst F (v := 3) (by decide) e_X10_readLine_157 ?_
          refine m_icmp_eq F e_X10_readLine_158 (fun q => absurd q (by decide)) (fun _ => ?_)
          refine m_aload_n F rfl e_X10_readLine_161 ?_
          refine m_iconst F (v := 1) (by decide) e_X10_readLine_162 ?_
          refine r_callV F e_X10_readLine_163 (q_X10_wrongE (x_l X) V c T Z u h P14959 L _ _ 1 n j1 2 (nI w3) ln3 fp3 h14958.1 (hob) oP14959 (by omega) ⟨(yd14982), (yd14983), (yd14984), (yd14985), (yd14986), (yd14987), (yd14988)⟩ (by decide)) cb_X10_wrong ml_X10_150 im_X10_wrong se_X10_wrong h14958 rfl rfl (rest := []) rfl (Nat.le_of_ble_eq_true rfl) ⟨Nat.le_of_ble_eq_true rfl, Nat.le_of_ble_eq_true rfl⟩ ⟨Nat.le_of_ble_eq_true rfl, Nat.le_of_ble_eq_true rfl⟩ (fun r σ15109 hp => ?_)
          obtain ⟨h15110, hp⟩ := hp
          have h15111 := HS.trans h14958 h15110 (by decide)
          have ga15112 := ga14961.of (h15110.2 (c + 1) (by rw [kC_at (k := 1) (by decide)]; decide))
          have ga15113 := hN3.of (h15110.2 (c + 2) (by rw [kC_at (k := 2) (by decide)]; decide))
          have ga15114 := hM3.of (h15110.2 (c + 3) (by rw [kC_at (k := 3) (by decide)]; decide))
          have ga15115 := hK3.of (h15110.2 (c + 7) (by rw [kC_at (k := 7) (by decide)]; decide))
          have ga15116 := hF3.of (h15110.2 (c + 8) (by rw [kC_at (k := 8) (by decide)]; decide))
          have ga15117 := hG3.of (h15110.2 (c + 9) (by rw [kC_at (k := 9) (by decide)]; decide))
          have ga15118 := hQ3.of (h15110.2 (c + 11) (by rw [kC_at (k := 11) (by decide)]; decide))
          obtain ⟨hp, rfl⟩ := hp
          have hyd15119 := hp
          obtain ⟨yd15119, yd15120, yd15121, yd15122, yd15123, yd15124, yd15125⟩ := hyd15119
          refine m_aload_n F rfl e_X10_readLine_166 ?_
          refine r_callV F e_X10_readLine_167 (q_X10_goOnG (x_l X) V c T 0 u h P14959 L _ _  1 h15111.1 (hob) oP14959  (yd15124) (by decide)) cb_X10_goOn ml_X10_154 im_X10_goOn se_X10_goOn h15111 rfl rfl (rest := []) rfl (Nat.le_of_ble_eq_true rfl) ⟨Nat.le_of_ble_eq_true rfl, Nat.le_of_ble_eq_true rfl⟩ ⟨Nat.le_of_ble_eq_true rfl, Nat.le_of_ble_eq_true rfl⟩ (fun r σ15126 hp => ?_)
          obtain ⟨h15127, hp⟩ := hp
          have h15128 := HS.trans h15111 h15127 (by decide)
          have ga15129 := ga15112.of (h15127.2 (c + 1) (by rw [kC_at (k := 1) (by decide)]; decide))
          have ga15130 := ga15113.of (h15127.2 (c + 2) (by rw [kC_at (k := 2) (by decide)]; decide))
          have ga15131 := ga15114.of (h15127.2 (c + 3) (by rw [kC_at (k := 3) (by decide)]; decide))
          have ga15132 := ga15115.of (h15127.2 (c + 7) (by rw [kC_at (k := 7) (by decide)]; decide))
          have ga15133 := ga15116.of (h15127.2 (c + 8) (by rw [kC_at (k := 8) (by decide)]; decide))
          have ga15134 := ga15117.of (h15127.2 (c + 9) (by rw [kC_at (k := 9) (by decide)]; decide))
          have ga15135 := ga15118.of (h15127.2 (c + 11) (by rw [kC_at (k := 11) (by decide)]; decide))
          obtain ⟨rfl, rfl⟩ := hp
          refine m_aload_n F rfl e_X10_readLine_170 ?_
          refine m_dup F rfl e_X10_readLine_171 ?_
          refine r_getC F e_X10_readLine_172 fl_X10_202 h15128 (yd15119) ?_
          refine m_iconst F (v := 1) (by decide) e_X10_readLine_175 ?_
          refine m_iadd F e_X10_readLine_176 ?_
          refine Wm.topE (w := nI (ln3 + 1)) (nI_add ln3 1) ?_
          refine r_put F (g' := (⟨T, 0, u, h, P14959, L⟩ : RG)) e_X10_readLine_177 fp_X10_202 h15128 (by decide) ⟨_, rfl⟩ (fun _ _ _ _ q => q) (fun _ _ _ q => q) rfl rfl (by decide) (fun σ15136 h15137 g15138 g15139 f15140 => ?_)
          have ga15141 := ga15112.of (g15138 _ (by omega))
          have ga15142 := ga15113.of (g15138 _ (by omega))
          have ga15143 := ga15114.of (g15138 _ (by omega))
          have ga15144 := ga15115.of (g15138 _ (by omega))
          have ga15145 := ga15116.of (g15138 _ (by omega))
          have ga15146 := ga15117.of (g15138 _ (by omega))
          have ga15147 := ga15118.of (g15138 _ (by omega))
          have h15148 : HS V c _ [0, 2, 17, 18, 19, 20, 21, 22, 23] _ _ := ⟨HR.mono (Z' := Z) (by intro e; first | rfl | assumption | omega) h15137.1, h15137.2⟩
          exact m_vret F hQ e_X10_readLine_180 (⟨P14959, oP14959, (by unfold RP; omega), (by rw [eo14968]; show RM _ c n _ (stopS (tok t n) (j1, 3, j3, j4) nl3 nm3 np3 nc3 lc3 no3 sd3 md3 ln3); rw [stopS_1 (by decide)]; exact RM.l ((g15139 23 (by decide)).trans yd15124) ((g15139 24 (by decide)).trans yd15125) (by omega) (by omega) (by omega)), (fun S2 hS _ => by rw [eo14968] at hS; replace hS : stopS (tok t n) (j1, 3, j3, j4) nl3 nm3 np3 nc3 lc3 no3 sd3 md3 ln3 = .inr S2 := hS; rw [stopS_1 (by decide)] at hS; cases hS), h15148, rfl⟩)
        · refine r_getC F e_X10_readLine_154 fl_X10_110 h14958 (yd14985) ?_
          refine m_iconst F (v := 3) (by decide) e_X10_readLine_157 ?_
          refine m_icmp_eq F e_X10_readLine_158 (fun _ => ?_) (fun q => absurd (by decide) q)
          refine m_aload_n F rfl e_X10_readLine_166 ?_
          refine r_callV F e_X10_readLine_167 (q_X10_goOnE (x_l X) V c T Z u h P14959 L _ _  n j1 3 va3 ln3 fp3 t h14958.1 (hob) oP14959  ⟨(yd14982), (yd14983), (yd14984), (yd14985), (yd14986), (yd14987), (yd14988)⟩ ga14961 hn7 (by omega)) cb_X10_goOn ml_X10_154 im_X10_goOn se_X10_goOn h14958 rfl rfl (rest := []) rfl (Nat.le_of_ble_eq_true rfl) ⟨Nat.le_of_ble_eq_true rfl, Nat.le_of_ble_eq_true rfl⟩ ⟨Nat.le_of_ble_eq_true rfl, Nat.le_of_ble_eq_true rfl⟩ (fun r σ15149 hp => ?_)
          obtain ⟨P15152, oP15152, rP15152, pr15153, pr15154, h15150, hp⟩ := hp
          have h15151 := HS.trans h14958 h15150 (by decide)
          have xP15152 := oP15152
          unfold OKP at xP15152
          unfold RA at rP15152
          have ga15155 := ga14961.of (h15150.2 (c + 1) (by rw [kC_at (k := 1) (by decide)]; decide))
          have ga15156 := hN3.of (h15150.2 (c + 2) (by rw [kC_at (k := 2) (by decide)]; decide))
          have ga15157 := hM3.of (h15150.2 (c + 3) (by rw [kC_at (k := 3) (by decide)]; decide))
          have ga15158 := hK3.of (h15150.2 (c + 7) (by rw [kC_at (k := 7) (by decide)]; decide))
          have ga15159 := hF3.of (h15150.2 (c + 8) (by rw [kC_at (k := 8) (by decide)]; decide))
          have ga15160 := hG3.of (h15150.2 (c + 9) (by rw [kC_at (k := 9) (by decide)]; decide))
          have ga15161 := hQ3.of (h15150.2 (c + 11) (by rw [kC_at (k := 11) (by decide)]; decide))
          obtain rfl := hp
          rw [pa3] at pr15153 pr15154
          have b8 := tok_ok (t := t) (n := n) j4 c1
          obtain ⟨so15162, va15163, mt15164, yd15165⟩ := pr15154
          have hyd15166 := yd15165
          obtain ⟨yd15166, yd15167, yd15168, yd15169, yd15170, yd15171, yd15172⟩ := hyd15166
          refine m_aload_n F rfl e_X10_readLine_170 ?_
          refine m_dup F rfl e_X10_readLine_171 ?_
          refine r_getC F e_X10_readLine_172 fl_X10_202 h15151 (yd15166) ?_
          refine m_iconst F (v := 1) (by decide) e_X10_readLine_175 ?_
          refine m_iadd F e_X10_readLine_176 ?_
          refine Wm.topE (w := nI (ln3 + 1)) (nI_add ln3 1) ?_
          refine r_put F (g' := (⟨T, Z, u, h, P15152, L⟩ : RG)) e_X10_readLine_177 fp_X10_202 h15151 (by decide) ⟨_, rfl⟩ (fun _ _ _ _ q => q) (fun _ _ _ q => q) rfl rfl (by decide) (fun σ15173 h15174 g15175 g15176 f15177 => ?_)
          have ga15178 := ga15155.of (g15175 _ (by omega))
          have ga15179 := ga15156.of (g15175 _ (by omega))
          have ga15180 := ga15157.of (g15175 _ (by omega))
          have ga15181 := ga15158.of (g15175 _ (by omega))
          have ga15182 := ga15159.of (g15175 _ (by omega))
          have ga15183 := ga15160.of (g15175 _ (by omega))
          have ga15184 := ga15161.of (g15175 _ (by omega))
          exact m_vret F hQ e_X10_readLine_180 (⟨P15152, oP15152, (by unfold RP; omega), (by rw [eo14968]; show RM _ c n _ (stopS (tok t n) (j1, 4, j3, j4) nl3 nm3 np3 nc3 lc3 no3 sd3 md3 ln3); rw [stopS_ok]; exact RM.r mt15164 ⟨(f15177), ((g15176 18 (by decide)).trans yd15167), ((g15176 20 (by decide)).trans yd15168), ((g15176 21 (by decide)).trans yd15169), ((g15176 22 (by decide)).trans yd15170), ((g15176 23 (by decide)).trans yd15171), ((g15176 24 (by decide)).trans yd15172)⟩ (by omega) (by omega) (by omega) ga15179 ga15180 ga15181 ga15182 ga15183 ga15184 (by omega) (by omega) (by omega) (by omega) (by omega)), (fun S2 hS hz => by rw [eo14968] at hS; replace hS : stopS (tok t n) (j1, 4, j3, j4) nl3 nm3 np3 nc3 lc3 no3 sd3 md3 ln3 = .inr S2 := hS; rw [stopS_ok] at hS; cases hS; replace hz : (tok t n j4).2.1 ≠ 0 := hz; have h8 := b8.2.2.2 hz; omega), h15174, rfl⟩)
        · refine r_getC F e_X10_readLine_154 fl_X10_110 h14958 (yd14985) ?_
          refine m_iconst F (v := 3) (by decide) e_X10_readLine_157 ?_
          refine m_icmp_eq F e_X10_readLine_158 (fun q => absurd q (by decide)) (fun _ => ?_)
          refine m_aload_n F rfl e_X10_readLine_161 ?_
          refine m_iconst F (v := 1) (by decide) e_X10_readLine_162 ?_
          refine r_callV F e_X10_readLine_163 (q_X10_wrongE (x_l X) V c T Z u h P14959 L _ _ 1 n j1 5 va3 ln3 fp3 h14958.1 (hob) oP14959 (by omega) ⟨(yd14982), (yd14983), (yd14984), (yd14985), (yd14986), (yd14987), (yd14988)⟩ (by decide)) cb_X10_wrong ml_X10_150 im_X10_wrong se_X10_wrong h14958 rfl rfl (rest := []) rfl (Nat.le_of_ble_eq_true rfl) ⟨Nat.le_of_ble_eq_true rfl, Nat.le_of_ble_eq_true rfl⟩ ⟨Nat.le_of_ble_eq_true rfl, Nat.le_of_ble_eq_true rfl⟩ (fun r σ15185 hp => ?_)
          obtain ⟨h15186, hp⟩ := hp
          have h15187 := HS.trans h14958 h15186 (by decide)
          have ga15188 := ga14961.of (h15186.2 (c + 1) (by rw [kC_at (k := 1) (by decide)]; decide))
          have ga15189 := hN3.of (h15186.2 (c + 2) (by rw [kC_at (k := 2) (by decide)]; decide))
          have ga15190 := hM3.of (h15186.2 (c + 3) (by rw [kC_at (k := 3) (by decide)]; decide))
          have ga15191 := hK3.of (h15186.2 (c + 7) (by rw [kC_at (k := 7) (by decide)]; decide))
          have ga15192 := hF3.of (h15186.2 (c + 8) (by rw [kC_at (k := 8) (by decide)]; decide))
          have ga15193 := hG3.of (h15186.2 (c + 9) (by rw [kC_at (k := 9) (by decide)]; decide))
          have ga15194 := hQ3.of (h15186.2 (c + 11) (by rw [kC_at (k := 11) (by decide)]; decide))
          obtain ⟨hp, rfl⟩ := hp
          have hyd15195 := hp
          obtain ⟨yd15195, yd15196, yd15197, yd15198, yd15199, yd15200, yd15201⟩ := hyd15195
          refine m_aload_n F rfl e_X10_readLine_166 ?_
          refine r_callV F e_X10_readLine_167 (q_X10_goOnG (x_l X) V c T 0 u h P14959 L _ _  1 h15187.1 (hob) oP14959  (yd15200) (by decide)) cb_X10_goOn ml_X10_154 im_X10_goOn se_X10_goOn h15187 rfl rfl (rest := []) rfl (Nat.le_of_ble_eq_true rfl) ⟨Nat.le_of_ble_eq_true rfl, Nat.le_of_ble_eq_true rfl⟩ ⟨Nat.le_of_ble_eq_true rfl, Nat.le_of_ble_eq_true rfl⟩ (fun r σ15202 hp => ?_)
          obtain ⟨h15203, hp⟩ := hp
          have h15204 := HS.trans h15187 h15203 (by decide)
          have ga15205 := ga15188.of (h15203.2 (c + 1) (by rw [kC_at (k := 1) (by decide)]; decide))
          have ga15206 := ga15189.of (h15203.2 (c + 2) (by rw [kC_at (k := 2) (by decide)]; decide))
          have ga15207 := ga15190.of (h15203.2 (c + 3) (by rw [kC_at (k := 3) (by decide)]; decide))
          have ga15208 := ga15191.of (h15203.2 (c + 7) (by rw [kC_at (k := 7) (by decide)]; decide))
          have ga15209 := ga15192.of (h15203.2 (c + 8) (by rw [kC_at (k := 8) (by decide)]; decide))
          have ga15210 := ga15193.of (h15203.2 (c + 9) (by rw [kC_at (k := 9) (by decide)]; decide))
          have ga15211 := ga15194.of (h15203.2 (c + 11) (by rw [kC_at (k := 11) (by decide)]; decide))
          obtain ⟨rfl, rfl⟩ := hp
          refine m_aload_n F rfl e_X10_readLine_170 ?_
          refine m_dup F rfl e_X10_readLine_171 ?_
          refine r_getC F e_X10_readLine_172 fl_X10_202 h15204 (yd15195) ?_
          refine m_iconst F (v := 1) (by decide) e_X10_readLine_175 ?_
          refine m_iadd F e_X10_readLine_176 ?_
          refine Wm.topE (w := nI (ln3 + 1)) (nI_add ln3 1) ?_
          refine r_put F (g' := (⟨T, 0, u, h, P14959, L⟩ : RG)) e_X10_readLine_177 fp_X10_202 h15204 (by decide) ⟨_, rfl⟩ (fun _ _ _ _ q => q) (fun _ _ _ q => q) rfl rfl (by decide) (fun σ15212 h15213 g15214 g15215 f15216 => ?_)
          have ga15217 := ga15188.of (g15214 _ (by omega))
          have ga15218 := ga15189.of (g15214 _ (by omega))
          have ga15219 := ga15190.of (g15214 _ (by omega))
          have ga15220 := ga15191.of (g15214 _ (by omega))
          have ga15221 := ga15192.of (g15214 _ (by omega))
          have ga15222 := ga15193.of (g15214 _ (by omega))
          have ga15223 := ga15194.of (g15214 _ (by omega))
          have h15224 : HS V c _ [0, 2, 17, 18, 19, 20, 21, 22, 23] _ _ := ⟨HR.mono (Z' := Z) (by intro e; first | rfl | assumption | omega) h15213.1, h15213.2⟩
          exact m_vret F hQ e_X10_readLine_180 (⟨P14959, oP14959, (by unfold RP; omega), (by rw [eo14968]; show RM _ c n _ (stopS (tok t n) (j1, 5, j3, j4) nl3 nm3 np3 nc3 lc3 no3 sd3 md3 ln3); rw [stopS_1 (by decide)]; exact RM.l ((g15215 23 (by decide)).trans yd15200) ((g15215 24 (by decide)).trans yd15201) (by omega) (by omega) (by omega)), (fun S2 hS _ => by rw [eo14968] at hS; replace hS : stopS (tok t n) (j1, 5, j3, j4) nl3 nm3 np3 nc3 lc3 no3 sd3 md3 ln3 = .inr S2 := hS; rw [stopS_1 (by decide)] at hS; cases hS), h15224, rfl⟩)
    · refine r_getC F e_X10_readLine_1 fl_X10_110 h1 (yd14109) ?_
      refine m_if_eq F e_X10_readLine_4 (fun _ => ?_) (fun q => absurd (by decide) q)
      refine m_aload_n F rfl e_X10_readLine_15 ?_
      refine r_getC F e_X10_readLine_16 fl_X10_120 h1 (yd14110) ?_
      refine m_if_ne F e_X10_readLine_19 (fun _ => ?_) (fun q => absurd q (by decide))
      refine m_aload_n F rfl e_X10_readLine_29 ?_
      refine r_getC F e_X10_readLine_30 fl_X10_120 h1 (yd14110) ?_
      refine m_iconst F (v := 1) (by decide) e_X10_readLine_33 ?_
      refine m_icmp_ne F e_X10_readLine_34 (fun _ => ?_) (fun q => absurd q (by decide))
      refine m_aload_n F rfl e_X10_readLine_44 ?_
      refine r_getC F e_X10_readLine_45 fl_X10_120 h1 (yd14110) ?_
      refine m_iconst F (v := 2) (by decide) e_X10_readLine_48 ?_
      refine m_icmp_eq F e_X10_readLine_49 (fun q => absurd q (by decide)) (fun _ => ?_)
      refine m_aload_n F rfl e_X10_readLine_52 ?_
      refine r_getC F e_X10_readLine_53 fl_X10_120 h1 (yd14110) ?_
      refine m_iconst F (v := 5) (by decide) e_X10_readLine_56 ?_
      refine m_icmp_ne F e_X10_readLine_57 (fun _ => ?_) (fun q => absurd q (by decide))
      refine m_aload_n F rfl e_X10_readLine_80 ?_
      refine r_getC F e_X10_readLine_81 fl_X10_120 h1 (yd14110) ?_
      refine m_iconst F (v := 3) (by decide) e_X10_readLine_84 ?_
      refine m_icmp_ne F e_X10_readLine_85 (fun _ => ?_) (fun q => absurd q (by decide))
      refine m_aload_n F rfl e_X10_readLine_95 ?_
      refine r_getC F e_X10_readLine_96 fl_X10_120 h1 (yd14110) ?_
      refine m_iconst F (v := 4) (by decide) e_X10_readLine_99 ?_
      refine m_icmp_ne F e_X10_readLine_100 (fun q => absurd (by decide) q) (fun _ => ?_)
      refine m_aload_n F rfl e_X10_readLine_103 ?_
      refine r_callV F e_X10_readLine_104 (q_X10_readFeeE (x_l X) V c T Z u h P L _ _  n st 0 4 ln fp t 1 4 nm np lc no sd md h1.1 (hob) hP  ⟨(yd14106), (yd14107), (yd14108), (yd14109), (yd14110), (yd14111), (yd14112)⟩ hp1 hn7 (by omega) hp4 hp5 hp6 hp7 hp8 hp9 hp10 hp11 hp12 hp13 hp14) cb_X10_readFee ml_X10_190 im_X10_readFee se_X10_readFee h1 rfl rfl (rest := []) rfl (Nat.le_of_ble_eq_true rfl) ⟨Nat.le_of_ble_eq_true rfl, Nat.le_of_ble_eq_true rfl⟩ ⟨Nat.le_of_ble_eq_true rfl, Nat.le_of_ble_eq_true rfl⟩ (fun r σ15225 hp => ?_)
      obtain ⟨P15228, oP15228, rP15228, pr15229, h15226, hp⟩ := hp
      have h15227 := HS.trans h1 h15226 (by decide)
      have xP15228 := oP15228
      unfold OKP at xP15228
      unfold RP at rP15228
      have ga15230 := hp1.of (h15226.2 (c + 1) (by rw [kC_at (k := 1) (by decide)]; decide))
      have ga15231 := hp6.of (h15226.2 (c + 2) (by rw [kC_at (k := 2) (by decide)]; decide))
      have ga15232 := hp7.of (h15226.2 (c + 3) (by rw [kC_at (k := 3) (by decide)]; decide))
      have ga15233 := hp8.of (h15226.2 (c + 7) (by rw [kC_at (k := 7) (by decide)]; decide))
      have ga15234 := hp9.of (h15226.2 (c + 8) (by rw [kC_at (k := 8) (by decide)]; decide))
      have ga15235 := hp11.of (h15226.2 (c + 11) (by rw [kC_at (k := 11) (by decide)]; decide))
      obtain rfl := hp
      have rm15236 : RM σ15225 c n P15228 (lineS (tok t n) (st, 1, 4, P.a) P.n5 nm np P.n7 lc no sd md ln) := by rw [lineS_4]; exact pr15229
      cases eo15237 : lineS (tok t n) (st, 1, 4, P.a) P.n5 nm np P.n7 lc no sd md ln with
      | inl e8 =>
        rw [eo15237] at rm15236
        obtain ⟨⟨fa15238, fb15239⟩, c1, c2, c3⟩ := rm15236
        have nz8 : nI e8.1 ≠ 0 := fun e => absurd (nI_inj9 (b := 0) (by omega) (by omega) e) (by omega)
        refine m_goto F e_X10_readLine_107 ?_
        refine m_aload_n F rfl e_X10_readLine_146 ?_
        refine r_getC F e_X10_readLine_147 fl_X10_141 h15227 (fa15238) ?_
        refine m_if_ne F e_X10_readLine_150 (fun q150 => ?_) (fun q150 => ?_)
        · have c150 : e8.1 ≠ 0 := by have hh := mt (nI_eq (a := e8.1) (b := 0) (by omega) (by omega)).mpr q150; omega
          refine m_aload_n F rfl e_X10_readLine_166 ?_
          refine r_callV F e_X10_readLine_167 (q_X10_goOnG (x_l X) V c T Z u h P15228 L _ _  (nI e8.1) h15227.1 (hob) oP15228  (fa15238) (by assumption)) cb_X10_goOn ml_X10_154 im_X10_goOn se_X10_goOn h15227 rfl rfl (rest := []) rfl (Nat.le_of_ble_eq_true rfl) ⟨Nat.le_of_ble_eq_true rfl, Nat.le_of_ble_eq_true rfl⟩ ⟨Nat.le_of_ble_eq_true rfl, Nat.le_of_ble_eq_true rfl⟩ (fun r σ15240 hp => ?_)
          obtain ⟨h15241, hp⟩ := hp
          have h15242 := HS.trans h15227 h15241 (by decide)
          obtain ⟨rfl, rfl⟩ := hp
          refine m_aload_n F rfl e_X10_readLine_170 ?_
          refine m_dup F rfl e_X10_readLine_171 ?_
          refine r_get F e_X10_readLine_172 fl_X10_202 h15242 rfl (fun v hv f15243 => ?_)
          obtain ⟨x15244, rfl⟩ := hv
          refine m_iconst F (v := 1) (by decide) e_X10_readLine_175 ?_
          refine m_iadd F e_X10_readLine_176 ?_
          refine Wm.top (fun x15245 _ => ?_)
          refine r_put F (g' := (⟨T, Z, u, h, P15228, L⟩ : RG)) e_X10_readLine_177 fp_X10_202 h15242 (by decide) ⟨_, rfl⟩ (fun _ _ _ _ q => q) (fun _ _ _ q => q) rfl rfl (by decide) (fun σ15246 h15247 g15248 g15249 f15250 => ?_)
          exact m_vret F hQ e_X10_readLine_180 (⟨P15228, oP15228, (by unfold RP; omega), (by rw [eo15237]; show RM _ c n _ (.inl e8); exact RM.l ((g15249 23 (by decide)).trans fa15238) ((g15249 24 (by decide)).trans fb15239) (by omega) (by omega) (by omega)), (fun S2 hS _ => by rw [eo15237] at hS; cases hS), h15247, rfl⟩)
        · have c150 : e8.1 = 0 := (nI_eq (a := e8.1) (b := 0) (by omega) (by omega)).mp q150
          exact absurd q150 nz8
      | inr S1 =>
        rw [eo15237] at rm15236
        obtain ⟨⟨j1, j2, j3, j4⟩, nl3, nm3, np3, nc3, lc3, no3, sd3, md3, ln3⟩ := S1
        obtain ⟨so3, va3, fp3, mt3, yd3, ⟨pa3, p53, p73⟩, hN3, hM3, hK3, hF3, hG3, hQ3, c1, c2, c3, c4, c5⟩ := rm15236
        replace pa3 : _ = j4 := pa3
        replace c1 : j4 ≤ n := c1
        replace c2 : j1 ≤ n := c2
        have hyd15251 := yd3
        obtain ⟨yd15251, yd15252, yd15253, yd15254, yd15255, yd15256, yd15257⟩ := hyd15251
        refine m_goto F e_X10_readLine_107 ?_
        refine m_aload_n F rfl e_X10_readLine_146 ?_
        refine r_getC F e_X10_readLine_147 fl_X10_141 h15227 (yd15256) ?_
        refine m_if_ne F e_X10_readLine_150 (fun q => absurd (by decide) q) (fun _ => ?_)
        refine m_aload_n F rfl e_X10_readLine_153 ?_
        have hmt := mt3
        rcases hmt with ⟨rfl, rfl⟩ | ⟨rfl, rfl, rfl, hv3⟩ | ⟨rfl, rfl, rfl, hv3⟩ | ⟨rfl, rfl, w3, hw3, rfl, hm3⟩ | ⟨rfl, rfl⟩ | ⟨rfl, rfl⟩
        · refine r_getC F e_X10_readLine_154 fl_X10_110 h15227 (yd15254) ?_
          refine m_iconst F (v := 3) (by decide) e_X10_readLine_157 ?_
          refine m_icmp_eq F e_X10_readLine_158 (fun q => absurd q (by decide)) (fun _ => ?_)
          refine m_aload_n F rfl e_X10_readLine_161 ?_
          refine m_iconst F (v := 1) (by decide) e_X10_readLine_162 ?_
          refine r_callV F e_X10_readLine_163 (q_X10_wrongE (x_l X) V c T Z u h P15228 L _ _ 1 n j1 4 va3 ln3 fp3 h15227.1 (hob) oP15228 (by omega) ⟨(yd15251), (yd15252), (yd15253), (yd15254), (yd15255), (yd15256), (yd15257)⟩ (by decide)) cb_X10_wrong ml_X10_150 im_X10_wrong se_X10_wrong h15227 rfl rfl (rest := []) rfl (Nat.le_of_ble_eq_true rfl) ⟨Nat.le_of_ble_eq_true rfl, Nat.le_of_ble_eq_true rfl⟩ ⟨Nat.le_of_ble_eq_true rfl, Nat.le_of_ble_eq_true rfl⟩ (fun r σ15258 hp => ?_)
          obtain ⟨h15259, hp⟩ := hp
          have h15260 := HS.trans h15227 h15259 (by decide)
          have ga15261 := ga15230.of (h15259.2 (c + 1) (by rw [kC_at (k := 1) (by decide)]; decide))
          have ga15262 := hN3.of (h15259.2 (c + 2) (by rw [kC_at (k := 2) (by decide)]; decide))
          have ga15263 := hM3.of (h15259.2 (c + 3) (by rw [kC_at (k := 3) (by decide)]; decide))
          have ga15264 := hK3.of (h15259.2 (c + 7) (by rw [kC_at (k := 7) (by decide)]; decide))
          have ga15265 := hF3.of (h15259.2 (c + 8) (by rw [kC_at (k := 8) (by decide)]; decide))
          have ga15266 := hG3.of (h15259.2 (c + 9) (by rw [kC_at (k := 9) (by decide)]; decide))
          have ga15267 := hQ3.of (h15259.2 (c + 11) (by rw [kC_at (k := 11) (by decide)]; decide))
          obtain ⟨hp, rfl⟩ := hp
          have hyd15268 := hp
          obtain ⟨yd15268, yd15269, yd15270, yd15271, yd15272, yd15273, yd15274⟩ := hyd15268
          refine m_aload_n F rfl e_X10_readLine_166 ?_
          refine r_callV F e_X10_readLine_167 (q_X10_goOnG (x_l X) V c T 0 u h P15228 L _ _  1 h15260.1 (hob) oP15228  (yd15273) (by decide)) cb_X10_goOn ml_X10_154 im_X10_goOn se_X10_goOn h15260 rfl rfl (rest := []) rfl (Nat.le_of_ble_eq_true rfl) ⟨Nat.le_of_ble_eq_true rfl, Nat.le_of_ble_eq_true rfl⟩ ⟨Nat.le_of_ble_eq_true rfl, Nat.le_of_ble_eq_true rfl⟩ (fun r σ15275 hp => ?_)
          obtain ⟨h15276, hp⟩ := hp
          have h15277 := HS.trans h15260 h15276 (by decide)
          have ga15278 := ga15261.of (h15276.2 (c + 1) (by rw [kC_at (k := 1) (by decide)]; decide))
          have ga15279 := ga15262.of (h15276.2 (c + 2) (by rw [kC_at (k := 2) (by decide)]; decide))
          have ga15280 := ga15263.of (h15276.2 (c + 3) (by rw [kC_at (k := 3) (by decide)]; decide))
          have ga15281 := ga15264.of (h15276.2 (c + 7) (by rw [kC_at (k := 7) (by decide)]; decide))
          have ga15282 := ga15265.of (h15276.2 (c + 8) (by rw [kC_at (k := 8) (by decide)]; decide))
          have ga15283 := ga15266.of (h15276.2 (c + 9) (by rw [kC_at (k := 9) (by decide)]; decide))
          have ga15284 := ga15267.of (h15276.2 (c + 11) (by rw [kC_at (k := 11) (by decide)]; decide))
          obtain ⟨rfl, rfl⟩ := hp
          refine m_aload_n F rfl e_X10_readLine_170 ?_
          refine m_dup F rfl e_X10_readLine_171 ?_
          refine r_getC F e_X10_readLine_172 fl_X10_202 h15277 (yd15268) ?_
          refine m_iconst F (v := 1) (by decide) e_X10_readLine_175 ?_
          refine m_iadd F e_X10_readLine_176 ?_
          refine Wm.topE (w := nI (ln3 + 1)) (nI_add ln3 1) ?_
          refine r_put F (g' := (⟨T, 0, u, h, P15228, L⟩ : RG)) e_X10_readLine_177 fp_X10_202 h15277 (by decide) ⟨_, rfl⟩ (fun _ _ _ _ q => q) (fun _ _ _ q => q) rfl rfl (by decide) (fun σ15285 h15286 g15287 g15288 f15289 => ?_)
          have ga15290 := ga15261.of (g15287 _ (by omega))
          have ga15291 := ga15262.of (g15287 _ (by omega))
          have ga15292 := ga15263.of (g15287 _ (by omega))
          have ga15293 := ga15264.of (g15287 _ (by omega))
          have ga15294 := ga15265.of (g15287 _ (by omega))
          have ga15295 := ga15266.of (g15287 _ (by omega))
          have ga15296 := ga15267.of (g15287 _ (by omega))
          have h15297 : HS V c _ [0, 2, 17, 18, 19, 20, 21, 22, 23] _ _ := ⟨HR.mono (Z' := Z) (by intro e; first | rfl | assumption | omega) h15286.1, h15286.2⟩
          exact m_vret F hQ e_X10_readLine_180 (⟨P15228, oP15228, (by unfold RP; omega), (by rw [eo15237]; show RM _ c n _ (stopS (tok t n) (j1, 0, j3, j4) nl3 nm3 np3 nc3 lc3 no3 sd3 md3 ln3); rw [stopS_1 (by decide)]; exact RM.l ((g15288 23 (by decide)).trans yd15273) ((g15288 24 (by decide)).trans yd15274) (by omega) (by omega) (by omega)), (fun S2 hS _ => by rw [eo15237] at hS; replace hS : stopS (tok t n) (j1, 0, j3, j4) nl3 nm3 np3 nc3 lc3 no3 sd3 md3 ln3 = .inr S2 := hS; rw [stopS_1 (by decide)] at hS; cases hS), h15297, rfl⟩)
        · refine r_getC F e_X10_readLine_154 fl_X10_110 h15227 (yd15254) ?_
          refine m_iconst F (v := 3) (by decide) e_X10_readLine_157 ?_
          refine m_icmp_eq F e_X10_readLine_158 (fun q => absurd q (by decide)) (fun _ => ?_)
          refine m_aload_n F rfl e_X10_readLine_161 ?_
          refine m_iconst F (v := 1) (by decide) e_X10_readLine_162 ?_
          refine r_callV F e_X10_readLine_163 (q_X10_wrongE (x_l X) V c T Z u h P15228 L _ _ 1 n j1 0 (nI j3) ln3 fp3 h15227.1 (hob) oP15228 (by omega) ⟨(yd15251), (yd15252), (yd15253), (yd15254), (yd15255), (yd15256), (yd15257)⟩ (by decide)) cb_X10_wrong ml_X10_150 im_X10_wrong se_X10_wrong h15227 rfl rfl (rest := []) rfl (Nat.le_of_ble_eq_true rfl) ⟨Nat.le_of_ble_eq_true rfl, Nat.le_of_ble_eq_true rfl⟩ ⟨Nat.le_of_ble_eq_true rfl, Nat.le_of_ble_eq_true rfl⟩ (fun r σ15298 hp => ?_)
          obtain ⟨h15299, hp⟩ := hp
          have h15300 := HS.trans h15227 h15299 (by decide)
          have ga15301 := ga15230.of (h15299.2 (c + 1) (by rw [kC_at (k := 1) (by decide)]; decide))
          have ga15302 := hN3.of (h15299.2 (c + 2) (by rw [kC_at (k := 2) (by decide)]; decide))
          have ga15303 := hM3.of (h15299.2 (c + 3) (by rw [kC_at (k := 3) (by decide)]; decide))
          have ga15304 := hK3.of (h15299.2 (c + 7) (by rw [kC_at (k := 7) (by decide)]; decide))
          have ga15305 := hF3.of (h15299.2 (c + 8) (by rw [kC_at (k := 8) (by decide)]; decide))
          have ga15306 := hG3.of (h15299.2 (c + 9) (by rw [kC_at (k := 9) (by decide)]; decide))
          have ga15307 := hQ3.of (h15299.2 (c + 11) (by rw [kC_at (k := 11) (by decide)]; decide))
          obtain ⟨hp, rfl⟩ := hp
          have hyd15308 := hp
          obtain ⟨yd15308, yd15309, yd15310, yd15311, yd15312, yd15313, yd15314⟩ := hyd15308
          refine m_aload_n F rfl e_X10_readLine_166 ?_
          refine r_callV F e_X10_readLine_167 (q_X10_goOnG (x_l X) V c T 0 u h P15228 L _ _  1 h15300.1 (hob) oP15228  (yd15313) (by decide)) cb_X10_goOn ml_X10_154 im_X10_goOn se_X10_goOn h15300 rfl rfl (rest := []) rfl (Nat.le_of_ble_eq_true rfl) ⟨Nat.le_of_ble_eq_true rfl, Nat.le_of_ble_eq_true rfl⟩ ⟨Nat.le_of_ble_eq_true rfl, Nat.le_of_ble_eq_true rfl⟩ (fun r σ15315 hp => ?_)
          obtain ⟨h15316, hp⟩ := hp
          have h15317 := HS.trans h15300 h15316 (by decide)
          have ga15318 := ga15301.of (h15316.2 (c + 1) (by rw [kC_at (k := 1) (by decide)]; decide))
          have ga15319 := ga15302.of (h15316.2 (c + 2) (by rw [kC_at (k := 2) (by decide)]; decide))
          have ga15320 := ga15303.of (h15316.2 (c + 3) (by rw [kC_at (k := 3) (by decide)]; decide))
          have ga15321 := ga15304.of (h15316.2 (c + 7) (by rw [kC_at (k := 7) (by decide)]; decide))
          have ga15322 := ga15305.of (h15316.2 (c + 8) (by rw [kC_at (k := 8) (by decide)]; decide))
          have ga15323 := ga15306.of (h15316.2 (c + 9) (by rw [kC_at (k := 9) (by decide)]; decide))
          have ga15324 := ga15307.of (h15316.2 (c + 11) (by rw [kC_at (k := 11) (by decide)]; decide))
          obtain ⟨rfl, rfl⟩ := hp
          refine m_aload_n F rfl e_X10_readLine_170 ?_
          refine m_dup F rfl e_X10_readLine_171 ?_
          refine r_getC F e_X10_readLine_172 fl_X10_202 h15317 (yd15308) ?_
          refine m_iconst F (v := 1) (by decide) e_X10_readLine_175 ?_
          refine m_iadd F e_X10_readLine_176 ?_
          refine Wm.topE (w := nI (ln3 + 1)) (nI_add ln3 1) ?_
          refine r_put F (g' := (⟨T, 0, u, h, P15228, L⟩ : RG)) e_X10_readLine_177 fp_X10_202 h15317 (by decide) ⟨_, rfl⟩ (fun _ _ _ _ q => q) (fun _ _ _ q => q) rfl rfl (by decide) (fun σ15325 h15326 g15327 g15328 f15329 => ?_)
          have ga15330 := ga15301.of (g15327 _ (by omega))
          have ga15331 := ga15302.of (g15327 _ (by omega))
          have ga15332 := ga15303.of (g15327 _ (by omega))
          have ga15333 := ga15304.of (g15327 _ (by omega))
          have ga15334 := ga15305.of (g15327 _ (by omega))
          have ga15335 := ga15306.of (g15327 _ (by omega))
          have ga15336 := ga15307.of (g15327 _ (by omega))
          have h15337 : HS V c _ [0, 2, 17, 18, 19, 20, 21, 22, 23] _ _ := ⟨HR.mono (Z' := Z) (by intro e; first | rfl | assumption | omega) h15326.1, h15326.2⟩
          exact m_vret F hQ e_X10_readLine_180 (⟨P15228, oP15228, (by unfold RP; omega), (by rw [eo15237]; show RM _ c n _ (stopS (tok t n) (j1, 1, j3, j4) nl3 nm3 np3 nc3 lc3 no3 sd3 md3 ln3); rw [stopS_1 (by decide)]; exact RM.l ((g15328 23 (by decide)).trans yd15313) ((g15328 24 (by decide)).trans yd15314) (by omega) (by omega) (by omega)), (fun S2 hS _ => by rw [eo15237] at hS; replace hS : stopS (tok t n) (j1, 1, j3, j4) nl3 nm3 np3 nc3 lc3 no3 sd3 md3 ln3 = .inr S2 := hS; rw [stopS_1 (by decide)] at hS; cases hS), h15337, rfl⟩)
        · refine r_getC F e_X10_readLine_154 fl_X10_110 h15227 (yd15254) ?_
          refine m_iconst F (v := 3) (by decide) e_X10_readLine_157 ?_
          refine m_icmp_eq F e_X10_readLine_158 (fun q => absurd q (by decide)) (fun _ => ?_)
          refine m_aload_n F rfl e_X10_readLine_161 ?_
          refine m_iconst F (v := 1) (by decide) e_X10_readLine_162 ?_
          refine r_callV F e_X10_readLine_163 (q_X10_wrongE (x_l X) V c T Z u h P15228 L _ _ 1 n j1 1 (nI j3) ln3 fp3 h15227.1 (hob) oP15228 (by omega) ⟨(yd15251), (yd15252), (yd15253), (yd15254), (yd15255), (yd15256), (yd15257)⟩ (by decide)) cb_X10_wrong ml_X10_150 im_X10_wrong se_X10_wrong h15227 rfl rfl (rest := []) rfl (Nat.le_of_ble_eq_true rfl) ⟨Nat.le_of_ble_eq_true rfl, Nat.le_of_ble_eq_true rfl⟩ ⟨Nat.le_of_ble_eq_true rfl, Nat.le_of_ble_eq_true rfl⟩ (fun r σ15338 hp => ?_)
          obtain ⟨h15339, hp⟩ := hp
          have h15340 := HS.trans h15227 h15339 (by decide)
          have ga15341 := ga15230.of (h15339.2 (c + 1) (by rw [kC_at (k := 1) (by decide)]; decide))
          have ga15342 := hN3.of (h15339.2 (c + 2) (by rw [kC_at (k := 2) (by decide)]; decide))
          have ga15343 := hM3.of (h15339.2 (c + 3) (by rw [kC_at (k := 3) (by decide)]; decide))
          have ga15344 := hK3.of (h15339.2 (c + 7) (by rw [kC_at (k := 7) (by decide)]; decide))
          have ga15345 := hF3.of (h15339.2 (c + 8) (by rw [kC_at (k := 8) (by decide)]; decide))
          have ga15346 := hG3.of (h15339.2 (c + 9) (by rw [kC_at (k := 9) (by decide)]; decide))
          have ga15347 := hQ3.of (h15339.2 (c + 11) (by rw [kC_at (k := 11) (by decide)]; decide))
          obtain ⟨hp, rfl⟩ := hp
          have hyd15348 := hp
          obtain ⟨yd15348, yd15349, yd15350, yd15351, yd15352, yd15353, yd15354⟩ := hyd15348
          refine m_aload_n F rfl e_X10_readLine_166 ?_
          refine r_callV F e_X10_readLine_167 (q_X10_goOnG (x_l X) V c T 0 u h P15228 L _ _  1 h15340.1 (hob) oP15228  (yd15353) (by decide)) cb_X10_goOn ml_X10_154 im_X10_goOn se_X10_goOn h15340 rfl rfl (rest := []) rfl (Nat.le_of_ble_eq_true rfl) ⟨Nat.le_of_ble_eq_true rfl, Nat.le_of_ble_eq_true rfl⟩ ⟨Nat.le_of_ble_eq_true rfl, Nat.le_of_ble_eq_true rfl⟩ (fun r σ15355 hp => ?_)
          obtain ⟨h15356, hp⟩ := hp
          have h15357 := HS.trans h15340 h15356 (by decide)
          have ga15358 := ga15341.of (h15356.2 (c + 1) (by rw [kC_at (k := 1) (by decide)]; decide))
          have ga15359 := ga15342.of (h15356.2 (c + 2) (by rw [kC_at (k := 2) (by decide)]; decide))
          have ga15360 := ga15343.of (h15356.2 (c + 3) (by rw [kC_at (k := 3) (by decide)]; decide))
          have ga15361 := ga15344.of (h15356.2 (c + 7) (by rw [kC_at (k := 7) (by decide)]; decide))
          have ga15362 := ga15345.of (h15356.2 (c + 8) (by rw [kC_at (k := 8) (by decide)]; decide))
          have ga15363 := ga15346.of (h15356.2 (c + 9) (by rw [kC_at (k := 9) (by decide)]; decide))
          have ga15364 := ga15347.of (h15356.2 (c + 11) (by rw [kC_at (k := 11) (by decide)]; decide))
          obtain ⟨rfl, rfl⟩ := hp
          refine m_aload_n F rfl e_X10_readLine_170 ?_
          refine m_dup F rfl e_X10_readLine_171 ?_
          refine r_getC F e_X10_readLine_172 fl_X10_202 h15357 (yd15348) ?_
          refine m_iconst F (v := 1) (by decide) e_X10_readLine_175 ?_
          refine m_iadd F e_X10_readLine_176 ?_
          refine Wm.topE (w := nI (ln3 + 1)) (nI_add ln3 1) ?_
          refine r_put F (g' := (⟨T, 0, u, h, P15228, L⟩ : RG)) e_X10_readLine_177 fp_X10_202 h15357 (by decide) ⟨_, rfl⟩ (fun _ _ _ _ q => q) (fun _ _ _ q => q) rfl rfl (by decide) (fun σ15365 h15366 g15367 g15368 f15369 => ?_)
          have ga15370 := ga15341.of (g15367 _ (by omega))
          have ga15371 := ga15342.of (g15367 _ (by omega))
          have ga15372 := ga15343.of (g15367 _ (by omega))
          have ga15373 := ga15344.of (g15367 _ (by omega))
          have ga15374 := ga15345.of (g15367 _ (by omega))
          have ga15375 := ga15346.of (g15367 _ (by omega))
          have ga15376 := ga15347.of (g15367 _ (by omega))
          have h15377 : HS V c _ [0, 2, 17, 18, 19, 20, 21, 22, 23] _ _ := ⟨HR.mono (Z' := Z) (by intro e; first | rfl | assumption | omega) h15366.1, h15366.2⟩
          exact m_vret F hQ e_X10_readLine_180 (⟨P15228, oP15228, (by unfold RP; omega), (by rw [eo15237]; show RM _ c n _ (stopS (tok t n) (j1, 2, j3, j4) nl3 nm3 np3 nc3 lc3 no3 sd3 md3 ln3); rw [stopS_1 (by decide)]; exact RM.l ((g15368 23 (by decide)).trans yd15353) ((g15368 24 (by decide)).trans yd15354) (by omega) (by omega) (by omega)), (fun S2 hS _ => by rw [eo15237] at hS; replace hS : stopS (tok t n) (j1, 2, j3, j4) nl3 nm3 np3 nc3 lc3 no3 sd3 md3 ln3 = .inr S2 := hS; rw [stopS_1 (by decide)] at hS; cases hS), h15377, rfl⟩)
        · refine r_getC F e_X10_readLine_154 fl_X10_110 h15227 (yd15254) ?_
          refine m_iconst F (v := 3) (by decide) e_X10_readLine_157 ?_
          refine m_icmp_eq F e_X10_readLine_158 (fun q => absurd q (by decide)) (fun _ => ?_)
          refine m_aload_n F rfl e_X10_readLine_161 ?_
          refine m_iconst F (v := 1) (by decide) e_X10_readLine_162 ?_
          refine r_callV F e_X10_readLine_163 (q_X10_wrongE (x_l X) V c T Z u h P15228 L _ _ 1 n j1 2 (nI w3) ln3 fp3 h15227.1 (hob) oP15228 (by omega) ⟨(yd15251), (yd15252), (yd15253), (yd15254), (yd15255), (yd15256), (yd15257)⟩ (by decide)) cb_X10_wrong ml_X10_150 im_X10_wrong se_X10_wrong h15227 rfl rfl (rest := []) rfl (Nat.le_of_ble_eq_true rfl) ⟨Nat.le_of_ble_eq_true rfl, Nat.le_of_ble_eq_true rfl⟩ ⟨Nat.le_of_ble_eq_true rfl, Nat.le_of_ble_eq_true rfl⟩ (fun r σ15378 hp => ?_)
          obtain ⟨h15379, hp⟩ := hp
          have h15380 := HS.trans h15227 h15379 (by decide)
          have ga15381 := ga15230.of (h15379.2 (c + 1) (by rw [kC_at (k := 1) (by decide)]; decide))
          have ga15382 := hN3.of (h15379.2 (c + 2) (by rw [kC_at (k := 2) (by decide)]; decide))
          have ga15383 := hM3.of (h15379.2 (c + 3) (by rw [kC_at (k := 3) (by decide)]; decide))
          have ga15384 := hK3.of (h15379.2 (c + 7) (by rw [kC_at (k := 7) (by decide)]; decide))
          have ga15385 := hF3.of (h15379.2 (c + 8) (by rw [kC_at (k := 8) (by decide)]; decide))
          have ga15386 := hG3.of (h15379.2 (c + 9) (by rw [kC_at (k := 9) (by decide)]; decide))
          have ga15387 := hQ3.of (h15379.2 (c + 11) (by rw [kC_at (k := 11) (by decide)]; decide))
          obtain ⟨hp, rfl⟩ := hp
          have hyd15388 := hp
          obtain ⟨yd15388, yd15389, yd15390, yd15391, yd15392, yd15393, yd15394⟩ := hyd15388
          refine m_aload_n F rfl e_X10_readLine_166 ?_
          refine r_callV F e_X10_readLine_167 (q_X10_goOnG (x_l X) V c T 0 u h P15228 L _ _  1 h15380.1 (hob) oP15228  (yd15393) (by decide)) cb_X10_goOn ml_X10_154 im_X10_goOn se_X10_goOn h15380 rfl rfl (rest := []) rfl (Nat.le_of_ble_eq_true rfl) ⟨Nat.le_of_ble_eq_true rfl, Nat.le_of_ble_eq_true rfl⟩ ⟨Nat.le_of_ble_eq_true rfl, Nat.le_of_ble_eq_true rfl⟩ (fun r σ15395 hp => ?_)
          obtain ⟨h15396, hp⟩ := hp
          have h15397 := HS.trans h15380 h15396 (by decide)
          have ga15398 := ga15381.of (h15396.2 (c + 1) (by rw [kC_at (k := 1) (by decide)]; decide))
          have ga15399 := ga15382.of (h15396.2 (c + 2) (by rw [kC_at (k := 2) (by decide)]; decide))
          have ga15400 := ga15383.of (h15396.2 (c + 3) (by rw [kC_at (k := 3) (by decide)]; decide))
          have ga15401 := ga15384.of (h15396.2 (c + 7) (by rw [kC_at (k := 7) (by decide)]; decide))
          have ga15402 := ga15385.of (h15396.2 (c + 8) (by rw [kC_at (k := 8) (by decide)]; decide))
          have ga15403 := ga15386.of (h15396.2 (c + 9) (by rw [kC_at (k := 9) (by decide)]; decide))
          have ga15404 := ga15387.of (h15396.2 (c + 11) (by rw [kC_at (k := 11) (by decide)]; decide))
          obtain ⟨rfl, rfl⟩ := hp
          refine m_aload_n F rfl e_X10_readLine_170 ?_
          refine m_dup F rfl e_X10_readLine_171 ?_
          refine r_getC F e_X10_readLine_172 fl_X10_202 h15397 (yd15388) ?_
          refine m_iconst F (v := 1) (by decide) e_X10_readLine_175 ?_
          refine m_iadd F e_X10_readLine_176 ?_
          refine Wm.topE (w := nI (ln3 + 1)) (nI_add ln3 1) ?_
          refine r_put F (g' := (⟨T, 0, u, h, P15228, L⟩ : RG)) e_X10_readLine_177 fp_X10_202 h15397 (by decide) ⟨_, rfl⟩ (fun _ _ _ _ q => q) (fun _ _ _ q => q) rfl rfl (by decide) (fun σ15405 h15406 g15407 g15408 f15409 => ?_)
          have ga15410 := ga15381.of (g15407 _ (by omega))
          have ga15411 := ga15382.of (g15407 _ (by omega))
          have ga15412 := ga15383.of (g15407 _ (by omega))
          have ga15413 := ga15384.of (g15407 _ (by omega))
          have ga15414 := ga15385.of (g15407 _ (by omega))
          have ga15415 := ga15386.of (g15407 _ (by omega))
          have ga15416 := ga15387.of (g15407 _ (by omega))
          have h15417 : HS V c _ [0, 2, 17, 18, 19, 20, 21, 22, 23] _ _ := ⟨HR.mono (Z' := Z) (by intro e; first | rfl | assumption | omega) h15406.1, h15406.2⟩
          exact m_vret F hQ e_X10_readLine_180 (⟨P15228, oP15228, (by unfold RP; omega), (by rw [eo15237]; show RM _ c n _ (stopS (tok t n) (j1, 3, j3, j4) nl3 nm3 np3 nc3 lc3 no3 sd3 md3 ln3); rw [stopS_1 (by decide)]; exact RM.l ((g15408 23 (by decide)).trans yd15393) ((g15408 24 (by decide)).trans yd15394) (by omega) (by omega) (by omega)), (fun S2 hS _ => by rw [eo15237] at hS; replace hS : stopS (tok t n) (j1, 3, j3, j4) nl3 nm3 np3 nc3 lc3 no3 sd3 md3 ln3 = .inr S2 := hS; rw [stopS_1 (by decide)] at hS; cases hS), h15417, rfl⟩)
        · refine r_getC F e_X10_readLine_154 fl_X10_110 h15227 (yd15254) ?_
          refine m_iconst F (v := 3) (by decide) e_X10_readLine_157 ?_
          refine m_icmp_eq F e_X10_readLine_158 (fun _ => ?_) (fun q => absurd (by decide) q)
          refine m_aload_n F rfl e_X10_readLine_166 ?_
          refine r_callV F e_X10_readLine_167 (q_X10_goOnE (x_l X) V c T Z u h P15228 L _ _  n j1 3 va3 ln3 fp3 t h15227.1 (hob) oP15228  ⟨(yd15251), (yd15252), (yd15253), (yd15254), (yd15255), (yd15256), (yd15257)⟩ ga15230 hn7 (by omega)) cb_X10_goOn ml_X10_154 im_X10_goOn se_X10_goOn h15227 rfl rfl (rest := []) rfl (Nat.le_of_ble_eq_true rfl) ⟨Nat.le_of_ble_eq_true rfl, Nat.le_of_ble_eq_true rfl⟩ ⟨Nat.le_of_ble_eq_true rfl, Nat.le_of_ble_eq_true rfl⟩ (fun r σ15418 hp => ?_)
          obtain ⟨P15421, oP15421, rP15421, pr15422, pr15423, h15419, hp⟩ := hp
          have h15420 := HS.trans h15227 h15419 (by decide)
          have xP15421 := oP15421
          unfold OKP at xP15421
          unfold RA at rP15421
          have ga15424 := ga15230.of (h15419.2 (c + 1) (by rw [kC_at (k := 1) (by decide)]; decide))
          have ga15425 := hN3.of (h15419.2 (c + 2) (by rw [kC_at (k := 2) (by decide)]; decide))
          have ga15426 := hM3.of (h15419.2 (c + 3) (by rw [kC_at (k := 3) (by decide)]; decide))
          have ga15427 := hK3.of (h15419.2 (c + 7) (by rw [kC_at (k := 7) (by decide)]; decide))
          have ga15428 := hF3.of (h15419.2 (c + 8) (by rw [kC_at (k := 8) (by decide)]; decide))
          have ga15429 := hG3.of (h15419.2 (c + 9) (by rw [kC_at (k := 9) (by decide)]; decide))
          have ga15430 := hQ3.of (h15419.2 (c + 11) (by rw [kC_at (k := 11) (by decide)]; decide))
          obtain rfl := hp
          rw [pa3] at pr15422 pr15423
          have b8 := tok_ok (t := t) (n := n) j4 c1
          obtain ⟨so15431, va15432, mt15433, yd15434⟩ := pr15423
          have hyd15435 := yd15434
          obtain ⟨yd15435, yd15436, yd15437, yd15438, yd15439, yd15440, yd15441⟩ := hyd15435
          refine m_aload_n F rfl e_X10_readLine_170 ?_
          refine m_dup F rfl e_X10_readLine_171 ?_
          refine r_getC F e_X10_readLine_172 fl_X10_202 h15420 (yd15435) ?_
          refine m_iconst F (v := 1) (by decide) e_X10_readLine_175 ?_
          refine m_iadd F e_X10_readLine_176 ?_
          refine Wm.topE (w := nI (ln3 + 1)) (nI_add ln3 1) ?_
          refine r_put F (g' := (⟨T, Z, u, h, P15421, L⟩ : RG)) e_X10_readLine_177 fp_X10_202 h15420 (by decide) ⟨_, rfl⟩ (fun _ _ _ _ q => q) (fun _ _ _ q => q) rfl rfl (by decide) (fun σ15442 h15443 g15444 g15445 f15446 => ?_)
          have ga15447 := ga15424.of (g15444 _ (by omega))
          have ga15448 := ga15425.of (g15444 _ (by omega))
          have ga15449 := ga15426.of (g15444 _ (by omega))
          have ga15450 := ga15427.of (g15444 _ (by omega))
          have ga15451 := ga15428.of (g15444 _ (by omega))
          have ga15452 := ga15429.of (g15444 _ (by omega))
          have ga15453 := ga15430.of (g15444 _ (by omega))
          exact m_vret F hQ e_X10_readLine_180 (⟨P15421, oP15421, (by unfold RP; omega), (by rw [eo15237]; show RM _ c n _ (stopS (tok t n) (j1, 4, j3, j4) nl3 nm3 np3 nc3 lc3 no3 sd3 md3 ln3); rw [stopS_ok]; exact RM.r mt15433 ⟨(f15446), ((g15445 18 (by decide)).trans yd15436), ((g15445 20 (by decide)).trans yd15437), ((g15445 21 (by decide)).trans yd15438), ((g15445 22 (by decide)).trans yd15439), ((g15445 23 (by decide)).trans yd15440), ((g15445 24 (by decide)).trans yd15441)⟩ (by omega) (by omega) (by omega) ga15448 ga15449 ga15450 ga15451 ga15452 ga15453 (by omega) (by omega) (by omega) (by omega) (by omega)), (fun S2 hS hz => by rw [eo15237] at hS; replace hS : stopS (tok t n) (j1, 4, j3, j4) nl3 nm3 np3 nc3 lc3 no3 sd3 md3 ln3 = .inr S2 := hS; rw [stopS_ok] at hS; cases hS; replace hz : (tok t n j4).2.1 ≠ 0 := hz; have h8 := b8.2.2.2 hz; omega), h15443, rfl⟩)
        · refine r_getC F e_X10_readLine_154 fl_X10_110 h15227 (yd15254) ?_
          refine m_iconst F (v := 3) (by decide) e_X10_readLine_157 ?_
          refine m_icmp_eq F e_X10_readLine_158 (fun q => absurd q (by decide)) (fun _ => ?_)
          refine m_aload_n F rfl e_X10_readLine_161 ?_
          refine m_iconst F (v := 1) (by decide) e_X10_readLine_162 ?_
          refine r_callV F e_X10_readLine_163 (q_X10_wrongE (x_l X) V c T Z u h P15228 L _ _ 1 n j1 5 va3 ln3 fp3 h15227.1 (hob) oP15228 (by omega) ⟨(yd15251), (yd15252), (yd15253), (yd15254), (yd15255), (yd15256), (yd15257)⟩ (by decide)) cb_X10_wrong ml_X10_150 im_X10_wrong se_X10_wrong h15227 rfl rfl (rest := []) rfl (Nat.le_of_ble_eq_true rfl) ⟨Nat.le_of_ble_eq_true rfl, Nat.le_of_ble_eq_true rfl⟩ ⟨Nat.le_of_ble_eq_true rfl, Nat.le_of_ble_eq_true rfl⟩ (fun r σ15454 hp => ?_)
          obtain ⟨h15455, hp⟩ := hp
          have h15456 := HS.trans h15227 h15455 (by decide)
          have ga15457 := ga15230.of (h15455.2 (c + 1) (by rw [kC_at (k := 1) (by decide)]; decide))
          have ga15458 := hN3.of (h15455.2 (c + 2) (by rw [kC_at (k := 2) (by decide)]; decide))
          have ga15459 := hM3.of (h15455.2 (c + 3) (by rw [kC_at (k := 3) (by decide)]; decide))
          have ga15460 := hK3.of (h15455.2 (c + 7) (by rw [kC_at (k := 7) (by decide)]; decide))
          have ga15461 := hF3.of (h15455.2 (c + 8) (by rw [kC_at (k := 8) (by decide)]; decide))
          have ga15462 := hG3.of (h15455.2 (c + 9) (by rw [kC_at (k := 9) (by decide)]; decide))
          have ga15463 := hQ3.of (h15455.2 (c + 11) (by rw [kC_at (k := 11) (by decide)]; decide))
          obtain ⟨hp, rfl⟩ := hp
          have hyd15464 := hp
          obtain ⟨yd15464, yd15465, yd15466, yd15467, yd15468, yd15469, yd15470⟩ := hyd15464
          refine m_aload_n F rfl e_X10_readLine_166 ?_
          refine r_callV F e_X10_readLine_167 (q_X10_goOnG (x_l X) V c T 0 u h P15228 L _ _  1 h15456.1 (hob) oP15228  (yd15469) (by decide)) cb_X10_goOn ml_X10_154 im_X10_goOn se_X10_goOn h15456 rfl rfl (rest := []) rfl (Nat.le_of_ble_eq_true rfl) ⟨Nat.le_of_ble_eq_true rfl, Nat.le_of_ble_eq_true rfl⟩ ⟨Nat.le_of_ble_eq_true rfl, Nat.le_of_ble_eq_true rfl⟩ (fun r σ15471 hp => ?_)
          obtain ⟨h15472, hp⟩ := hp
          have h15473 := HS.trans h15456 h15472 (by decide)
          have ga15474 := ga15457.of (h15472.2 (c + 1) (by rw [kC_at (k := 1) (by decide)]; decide))
          have ga15475 := ga15458.of (h15472.2 (c + 2) (by rw [kC_at (k := 2) (by decide)]; decide))
          have ga15476 := ga15459.of (h15472.2 (c + 3) (by rw [kC_at (k := 3) (by decide)]; decide))
          have ga15477 := ga15460.of (h15472.2 (c + 7) (by rw [kC_at (k := 7) (by decide)]; decide))
          have ga15478 := ga15461.of (h15472.2 (c + 8) (by rw [kC_at (k := 8) (by decide)]; decide))
          have ga15479 := ga15462.of (h15472.2 (c + 9) (by rw [kC_at (k := 9) (by decide)]; decide))
          have ga15480 := ga15463.of (h15472.2 (c + 11) (by rw [kC_at (k := 11) (by decide)]; decide))
          obtain ⟨rfl, rfl⟩ := hp
          refine m_aload_n F rfl e_X10_readLine_170 ?_
          refine m_dup F rfl e_X10_readLine_171 ?_
          refine r_getC F e_X10_readLine_172 fl_X10_202 h15473 (yd15464) ?_
          refine m_iconst F (v := 1) (by decide) e_X10_readLine_175 ?_
          refine m_iadd F e_X10_readLine_176 ?_
          refine Wm.topE (w := nI (ln3 + 1)) (nI_add ln3 1) ?_
          refine r_put F (g' := (⟨T, 0, u, h, P15228, L⟩ : RG)) e_X10_readLine_177 fp_X10_202 h15473 (by decide) ⟨_, rfl⟩ (fun _ _ _ _ q => q) (fun _ _ _ q => q) rfl rfl (by decide) (fun σ15481 h15482 g15483 g15484 f15485 => ?_)
          have ga15486 := ga15457.of (g15483 _ (by omega))
          have ga15487 := ga15458.of (g15483 _ (by omega))
          have ga15488 := ga15459.of (g15483 _ (by omega))
          have ga15489 := ga15460.of (g15483 _ (by omega))
          have ga15490 := ga15461.of (g15483 _ (by omega))
          have ga15491 := ga15462.of (g15483 _ (by omega))
          have ga15492 := ga15463.of (g15483 _ (by omega))
          have h15493 : HS V c _ [0, 2, 17, 18, 19, 20, 21, 22, 23] _ _ := ⟨HR.mono (Z' := Z) (by intro e; first | rfl | assumption | omega) h15482.1, h15482.2⟩
          exact m_vret F hQ e_X10_readLine_180 (⟨P15228, oP15228, (by unfold RP; omega), (by rw [eo15237]; show RM _ c n _ (stopS (tok t n) (j1, 5, j3, j4) nl3 nm3 np3 nc3 lc3 no3 sd3 md3 ln3); rw [stopS_1 (by decide)]; exact RM.l ((g15484 23 (by decide)).trans yd15469) ((g15484 24 (by decide)).trans yd15470) (by omega) (by omega) (by omega)), (fun S2 hS _ => by rw [eo15237] at hS; replace hS : stopS (tok t n) (j1, 5, j3, j4) nl3 nm3 np3 nc3 lc3 no3 sd3 md3 ln3 = .inr S2 := hS; rw [stopS_1 (by decide)] at hS; cases hS), h15493, rfl⟩)
    · refine r_getC F e_X10_readLine_1 fl_X10_110 h1 (yd14109) ?_
      refine m_if_eq F e_X10_readLine_4 (fun _ => ?_) (fun q => absurd (by decide) q)
      refine m_aload_n F rfl e_X10_readLine_15 ?_
      refine r_getC F e_X10_readLine_16 fl_X10_120 h1 (yd14110) ?_
      refine m_if_ne F e_X10_readLine_19 (fun _ => ?_) (fun q => absurd q (by decide))
      refine m_aload_n F rfl e_X10_readLine_29 ?_
      refine r_getC F e_X10_readLine_30 fl_X10_120 h1 (yd14110) ?_
      refine m_iconst F (v := 1) (by decide) e_X10_readLine_33 ?_
      refine m_icmp_ne F e_X10_readLine_34 (fun _ => ?_) (fun q => absurd q (by decide))
      refine m_aload_n F rfl e_X10_readLine_44 ?_
      refine r_getC F e_X10_readLine_45 fl_X10_120 h1 (yd14110) ?_
      refine m_iconst F (v := 2) (by decide) e_X10_readLine_48 ?_
      refine m_icmp_eq F e_X10_readLine_49 (fun q => absurd q (by decide)) (fun _ => ?_)
      refine m_aload_n F rfl e_X10_readLine_52 ?_
      refine r_getC F e_X10_readLine_53 fl_X10_120 h1 (yd14110) ?_
      refine m_iconst F (v := 5) (by decide) e_X10_readLine_56 ?_
      refine m_icmp_ne F e_X10_readLine_57 (fun q => absurd (by decide) q) (fun _ => ?_)
      refine m_aload_n F rfl e_X10_readLine_60 ?_
      refine m_aload_n F rfl e_X10_readLine_61 ?_
      refine r_getC F e_X10_readLine_62 fl_X10_120 h1 (yd14110) ?_
      refine m_iconst F (v := 2) (by decide) e_X10_readLine_65 ?_
      refine m_icmp_ne F e_X10_readLine_66 (fun _ => ?_) (fun q => absurd q (by decide))
      refine m_iconst F (v := 2) (by decide) e_X10_readLine_73 ?_
      refine r_callV F e_X10_readLine_74 (q_X10_readMark2E (x_l X) V c T Z u h P L _ _  n st 0 5 ln fp t 1 5 nm np lc no sd md h1.1 (hob) hP  ⟨(yd14106), (yd14107), (yd14108), (yd14109), (yd14110), (yd14111), (yd14112)⟩ hp1 hn7 (by omega) hp4 hp5 hp6 hp7 hp8 hp9 hp10 hp11 hp12 hp13 hp14) cb_X10_readMark ml_X10_184 im_X10_readMark se_X10_readMark h1 rfl rfl (rest := []) rfl (Nat.le_of_ble_eq_true rfl) ⟨Nat.le_of_ble_eq_true rfl, Nat.le_of_ble_eq_true rfl⟩ ⟨Nat.le_of_ble_eq_true rfl, Nat.le_of_ble_eq_true rfl⟩ (fun r σ15494 hp => ?_)
      obtain ⟨P15497, oP15497, rP15497, pr15498, h15495, hp⟩ := hp
      have h15496 := HS.trans h1 h15495 (by decide)
      have xP15497 := oP15497
      unfold OKP at xP15497
      unfold RP at rP15497
      have ga15499 := hp1.of (h15495.2 (c + 1) (by rw [kC_at (k := 1) (by decide)]; decide))
      have ga15500 := hp6.of (h15495.2 (c + 2) (by rw [kC_at (k := 2) (by decide)]; decide))
      have ga15501 := hp7.of (h15495.2 (c + 3) (by rw [kC_at (k := 3) (by decide)]; decide))
      have ga15502 := hp9.of (h15495.2 (c + 8) (by rw [kC_at (k := 8) (by decide)]; decide))
      have ga15503 := hp10.of (h15495.2 (c + 9) (by rw [kC_at (k := 9) (by decide)]; decide))
      have ga15504 := hp11.of (h15495.2 (c + 11) (by rw [kC_at (k := 11) (by decide)]; decide))
      obtain rfl := hp
      have rm15505 : RM σ15494 c n P15497 (lineS (tok t n) (st, 1, 5, P.a) P.n5 nm np P.n7 lc no sd md ln) := by rw [lineS_5]; exact pr15498
      cases eo15506 : lineS (tok t n) (st, 1, 5, P.a) P.n5 nm np P.n7 lc no sd md ln with
      | inl e8 =>
        rw [eo15506] at rm15505
        obtain ⟨⟨fa15507, fb15508⟩, c1, c2, c3⟩ := rm15505
        have nz8 : nI e8.1 ≠ 0 := fun e => absurd (nI_inj9 (b := 0) (by omega) (by omega) e) (by omega)
        refine m_goto F e_X10_readLine_77 ?_
        refine m_aload_n F rfl e_X10_readLine_146 ?_
        refine r_getC F e_X10_readLine_147 fl_X10_141 h15496 (fa15507) ?_
        refine m_if_ne F e_X10_readLine_150 (fun q150 => ?_) (fun q150 => ?_)
        · have c150 : e8.1 ≠ 0 := by have hh := mt (nI_eq (a := e8.1) (b := 0) (by omega) (by omega)).mpr q150; omega
          refine m_aload_n F rfl e_X10_readLine_166 ?_
          refine r_callV F e_X10_readLine_167 (q_X10_goOnG (x_l X) V c T Z u h P15497 L _ _  (nI e8.1) h15496.1 (hob) oP15497  (fa15507) (by assumption)) cb_X10_goOn ml_X10_154 im_X10_goOn se_X10_goOn h15496 rfl rfl (rest := []) rfl (Nat.le_of_ble_eq_true rfl) ⟨Nat.le_of_ble_eq_true rfl, Nat.le_of_ble_eq_true rfl⟩ ⟨Nat.le_of_ble_eq_true rfl, Nat.le_of_ble_eq_true rfl⟩ (fun r σ15509 hp => ?_)
          obtain ⟨h15510, hp⟩ := hp
          have h15511 := HS.trans h15496 h15510 (by decide)
          obtain ⟨rfl, rfl⟩ := hp
          refine m_aload_n F rfl e_X10_readLine_170 ?_
          refine m_dup F rfl e_X10_readLine_171 ?_
          refine r_get F e_X10_readLine_172 fl_X10_202 h15511 rfl (fun v hv f15512 => ?_)
          obtain ⟨x15513, rfl⟩ := hv
          refine m_iconst F (v := 1) (by decide) e_X10_readLine_175 ?_
          refine m_iadd F e_X10_readLine_176 ?_
          refine Wm.top (fun x15514 _ => ?_)
          refine r_put F (g' := (⟨T, Z, u, h, P15497, L⟩ : RG)) e_X10_readLine_177 fp_X10_202 h15511 (by decide) ⟨_, rfl⟩ (fun _ _ _ _ q => q) (fun _ _ _ q => q) rfl rfl (by decide) (fun σ15515 h15516 g15517 g15518 f15519 => ?_)
          exact m_vret F hQ e_X10_readLine_180 (⟨P15497, oP15497, (by unfold RP; omega), (by rw [eo15506]; show RM _ c n _ (.inl e8); exact RM.l ((g15518 23 (by decide)).trans fa15507) ((g15518 24 (by decide)).trans fb15508) (by omega) (by omega) (by omega)), (fun S2 hS _ => by rw [eo15506] at hS; cases hS), h15516, rfl⟩)
        · have c150 : e8.1 = 0 := (nI_eq (a := e8.1) (b := 0) (by omega) (by omega)).mp q150
          exact absurd q150 nz8
      | inr S1 =>
        rw [eo15506] at rm15505
        obtain ⟨⟨j1, j2, j3, j4⟩, nl3, nm3, np3, nc3, lc3, no3, sd3, md3, ln3⟩ := S1
        obtain ⟨so3, va3, fp3, mt3, yd3, ⟨pa3, p53, p73⟩, hN3, hM3, hK3, hF3, hG3, hQ3, c1, c2, c3, c4, c5⟩ := rm15505
        replace pa3 : _ = j4 := pa3
        replace c1 : j4 ≤ n := c1
        replace c2 : j1 ≤ n := c2
        have hyd15520 := yd3
        obtain ⟨yd15520, yd15521, yd15522, yd15523, yd15524, yd15525, yd15526⟩ := hyd15520
        refine m_goto F e_X10_readLine_77 ?_
        refine m_aload_n F rfl e_X10_readLine_146 ?_
        refine r_getC F e_X10_readLine_147 fl_X10_141 h15496 (yd15525) ?_
        refine m_if_ne F e_X10_readLine_150 (fun q => absurd (by decide) q) (fun _ => ?_)
        refine m_aload_n F rfl e_X10_readLine_153 ?_
        have hmt := mt3
        rcases hmt with ⟨rfl, rfl⟩ | ⟨rfl, rfl, rfl, hv3⟩ | ⟨rfl, rfl, rfl, hv3⟩ | ⟨rfl, rfl, w3, hw3, rfl, hm3⟩ | ⟨rfl, rfl⟩ | ⟨rfl, rfl⟩
        · refine r_getC F e_X10_readLine_154 fl_X10_110 h15496 (yd15523) ?_
          refine m_iconst F (v := 3) (by decide) e_X10_readLine_157 ?_
          refine m_icmp_eq F e_X10_readLine_158 (fun q => absurd q (by decide)) (fun _ => ?_)
          refine m_aload_n F rfl e_X10_readLine_161 ?_
          refine m_iconst F (v := 1) (by decide) e_X10_readLine_162 ?_
          refine r_callV F e_X10_readLine_163 (q_X10_wrongE (x_l X) V c T Z u h P15497 L _ _ 1 n j1 4 va3 ln3 fp3 h15496.1 (hob) oP15497 (by omega) ⟨(yd15520), (yd15521), (yd15522), (yd15523), (yd15524), (yd15525), (yd15526)⟩ (by decide)) cb_X10_wrong ml_X10_150 im_X10_wrong se_X10_wrong h15496 rfl rfl (rest := []) rfl (Nat.le_of_ble_eq_true rfl) ⟨Nat.le_of_ble_eq_true rfl, Nat.le_of_ble_eq_true rfl⟩ ⟨Nat.le_of_ble_eq_true rfl, Nat.le_of_ble_eq_true rfl⟩ (fun r σ15527 hp => ?_)
          obtain ⟨h15528, hp⟩ := hp
          have h15529 := HS.trans h15496 h15528 (by decide)
          have ga15530 := ga15499.of (h15528.2 (c + 1) (by rw [kC_at (k := 1) (by decide)]; decide))
          have ga15531 := hN3.of (h15528.2 (c + 2) (by rw [kC_at (k := 2) (by decide)]; decide))
          have ga15532 := hM3.of (h15528.2 (c + 3) (by rw [kC_at (k := 3) (by decide)]; decide))
          have ga15533 := hK3.of (h15528.2 (c + 7) (by rw [kC_at (k := 7) (by decide)]; decide))
          have ga15534 := hF3.of (h15528.2 (c + 8) (by rw [kC_at (k := 8) (by decide)]; decide))
          have ga15535 := hG3.of (h15528.2 (c + 9) (by rw [kC_at (k := 9) (by decide)]; decide))
          have ga15536 := hQ3.of (h15528.2 (c + 11) (by rw [kC_at (k := 11) (by decide)]; decide))
          obtain ⟨hp, rfl⟩ := hp
          have hyd15537 := hp
          obtain ⟨yd15537, yd15538, yd15539, yd15540, yd15541, yd15542, yd15543⟩ := hyd15537
          refine m_aload_n F rfl e_X10_readLine_166 ?_
          refine r_callV F e_X10_readLine_167 (q_X10_goOnG (x_l X) V c T 0 u h P15497 L _ _  1 h15529.1 (hob) oP15497  (yd15542) (by decide)) cb_X10_goOn ml_X10_154 im_X10_goOn se_X10_goOn h15529 rfl rfl (rest := []) rfl (Nat.le_of_ble_eq_true rfl) ⟨Nat.le_of_ble_eq_true rfl, Nat.le_of_ble_eq_true rfl⟩ ⟨Nat.le_of_ble_eq_true rfl, Nat.le_of_ble_eq_true rfl⟩ (fun r σ15544 hp => ?_)
          obtain ⟨h15545, hp⟩ := hp
          have h15546 := HS.trans h15529 h15545 (by decide)
          have ga15547 := ga15530.of (h15545.2 (c + 1) (by rw [kC_at (k := 1) (by decide)]; decide))
          have ga15548 := ga15531.of (h15545.2 (c + 2) (by rw [kC_at (k := 2) (by decide)]; decide))
          have ga15549 := ga15532.of (h15545.2 (c + 3) (by rw [kC_at (k := 3) (by decide)]; decide))
          have ga15550 := ga15533.of (h15545.2 (c + 7) (by rw [kC_at (k := 7) (by decide)]; decide))
          have ga15551 := ga15534.of (h15545.2 (c + 8) (by rw [kC_at (k := 8) (by decide)]; decide))
          have ga15552 := ga15535.of (h15545.2 (c + 9) (by rw [kC_at (k := 9) (by decide)]; decide))
          have ga15553 := ga15536.of (h15545.2 (c + 11) (by rw [kC_at (k := 11) (by decide)]; decide))
          obtain ⟨rfl, rfl⟩ := hp
          refine m_aload_n F rfl e_X10_readLine_170 ?_
          refine m_dup F rfl e_X10_readLine_171 ?_
          refine r_getC F e_X10_readLine_172 fl_X10_202 h15546 (yd15537) ?_
          refine m_iconst F (v := 1) (by decide) e_X10_readLine_175 ?_
          refine m_iadd F e_X10_readLine_176 ?_
          refine Wm.topE (w := nI (ln3 + 1)) (nI_add ln3 1) ?_
          refine r_put F (g' := (⟨T, 0, u, h, P15497, L⟩ : RG)) e_X10_readLine_177 fp_X10_202 h15546 (by decide) ⟨_, rfl⟩ (fun _ _ _ _ q => q) (fun _ _ _ q => q) rfl rfl (by decide) (fun σ15554 h15555 g15556 g15557 f15558 => ?_)
          have ga15559 := ga15530.of (g15556 _ (by omega))
          have ga15560 := ga15531.of (g15556 _ (by omega))
          have ga15561 := ga15532.of (g15556 _ (by omega))
          have ga15562 := ga15533.of (g15556 _ (by omega))
          have ga15563 := ga15534.of (g15556 _ (by omega))
          have ga15564 := ga15535.of (g15556 _ (by omega))
          have ga15565 := ga15536.of (g15556 _ (by omega))
          have h15566 : HS V c _ [0, 2, 17, 18, 19, 20, 21, 22, 23] _ _ := ⟨HR.mono (Z' := Z) (by intro e; first | rfl | assumption | omega) h15555.1, h15555.2⟩
          exact m_vret F hQ e_X10_readLine_180 (⟨P15497, oP15497, (by unfold RP; omega), (by rw [eo15506]; show RM _ c n _ (stopS (tok t n) (j1, 0, j3, j4) nl3 nm3 np3 nc3 lc3 no3 sd3 md3 ln3); rw [stopS_1 (by decide)]; exact RM.l ((g15557 23 (by decide)).trans yd15542) ((g15557 24 (by decide)).trans yd15543) (by omega) (by omega) (by omega)), (fun S2 hS _ => by rw [eo15506] at hS; replace hS : stopS (tok t n) (j1, 0, j3, j4) nl3 nm3 np3 nc3 lc3 no3 sd3 md3 ln3 = .inr S2 := hS; rw [stopS_1 (by decide)] at hS; cases hS), h15566, rfl⟩)
        · refine r_getC F e_X10_readLine_154 fl_X10_110 h15496 (yd15523) ?_
          refine m_iconst F (v := 3) (by decide) e_X10_readLine_157 ?_
          refine m_icmp_eq F e_X10_readLine_158 (fun q => absurd q (by decide)) (fun _ => ?_)
          refine m_aload_n F rfl e_X10_readLine_161 ?_
          refine m_iconst F (v := 1) (by decide) e_X10_readLine_162 ?_
          refine r_callV F e_X10_readLine_163 (q_X10_wrongE (x_l X) V c T Z u h P15497 L _ _ 1 n j1 0 (nI j3) ln3 fp3 h15496.1 (hob) oP15497 (by omega) ⟨(yd15520), (yd15521), (yd15522), (yd15523), (yd15524), (yd15525), (yd15526)⟩ (by decide)) cb_X10_wrong ml_X10_150 im_X10_wrong se_X10_wrong h15496 rfl rfl (rest := []) rfl (Nat.le_of_ble_eq_true rfl) ⟨Nat.le_of_ble_eq_true rfl, Nat.le_of_ble_eq_true rfl⟩ ⟨Nat.le_of_ble_eq_true rfl, Nat.le_of_ble_eq_true rfl⟩ (fun r σ15567 hp => ?_)
          obtain ⟨h15568, hp⟩ := hp
          have h15569 := HS.trans h15496 h15568 (by decide)
          have ga15570 := ga15499.of (h15568.2 (c + 1) (by rw [kC_at (k := 1) (by decide)]; decide))
          have ga15571 := hN3.of (h15568.2 (c + 2) (by rw [kC_at (k := 2) (by decide)]; decide))
          have ga15572 := hM3.of (h15568.2 (c + 3) (by rw [kC_at (k := 3) (by decide)]; decide))
          have ga15573 := hK3.of (h15568.2 (c + 7) (by rw [kC_at (k := 7) (by decide)]; decide))
          have ga15574 := hF3.of (h15568.2 (c + 8) (by rw [kC_at (k := 8) (by decide)]; decide))
          have ga15575 := hG3.of (h15568.2 (c + 9) (by rw [kC_at (k := 9) (by decide)]; decide))
          have ga15576 := hQ3.of (h15568.2 (c + 11) (by rw [kC_at (k := 11) (by decide)]; decide))
          obtain ⟨hp, rfl⟩ := hp
          have hyd15577 := hp
          obtain ⟨yd15577, yd15578, yd15579, yd15580, yd15581, yd15582, yd15583⟩ := hyd15577
          refine m_aload_n F rfl e_X10_readLine_166 ?_
          refine r_callV F e_X10_readLine_167 (q_X10_goOnG (x_l X) V c T 0 u h P15497 L _ _  1 h15569.1 (hob) oP15497  (yd15582) (by decide)) cb_X10_goOn ml_X10_154 im_X10_goOn se_X10_goOn h15569 rfl rfl (rest := []) rfl (Nat.le_of_ble_eq_true rfl) ⟨Nat.le_of_ble_eq_true rfl, Nat.le_of_ble_eq_true rfl⟩ ⟨Nat.le_of_ble_eq_true rfl, Nat.le_of_ble_eq_true rfl⟩ (fun r σ15584 hp => ?_)
          obtain ⟨h15585, hp⟩ := hp
          have h15586 := HS.trans h15569 h15585 (by decide)
          have ga15587 := ga15570.of (h15585.2 (c + 1) (by rw [kC_at (k := 1) (by decide)]; decide))
          have ga15588 := ga15571.of (h15585.2 (c + 2) (by rw [kC_at (k := 2) (by decide)]; decide))
          have ga15589 := ga15572.of (h15585.2 (c + 3) (by rw [kC_at (k := 3) (by decide)]; decide))
          have ga15590 := ga15573.of (h15585.2 (c + 7) (by rw [kC_at (k := 7) (by decide)]; decide))
          have ga15591 := ga15574.of (h15585.2 (c + 8) (by rw [kC_at (k := 8) (by decide)]; decide))
          have ga15592 := ga15575.of (h15585.2 (c + 9) (by rw [kC_at (k := 9) (by decide)]; decide))
          have ga15593 := ga15576.of (h15585.2 (c + 11) (by rw [kC_at (k := 11) (by decide)]; decide))
          obtain ⟨rfl, rfl⟩ := hp
          refine m_aload_n F rfl e_X10_readLine_170 ?_
          refine m_dup F rfl e_X10_readLine_171 ?_
          refine r_getC F e_X10_readLine_172 fl_X10_202 h15586 (yd15577) ?_
          refine m_iconst F (v := 1) (by decide) e_X10_readLine_175 ?_
          refine m_iadd F e_X10_readLine_176 ?_
          refine Wm.topE (w := nI (ln3 + 1)) (nI_add ln3 1) ?_
          refine r_put F (g' := (⟨T, 0, u, h, P15497, L⟩ : RG)) e_X10_readLine_177 fp_X10_202 h15586 (by decide) ⟨_, rfl⟩ (fun _ _ _ _ q => q) (fun _ _ _ q => q) rfl rfl (by decide) (fun σ15594 h15595 g15596 g15597 f15598 => ?_)
          have ga15599 := ga15570.of (g15596 _ (by omega))
          have ga15600 := ga15571.of (g15596 _ (by omega))
          have ga15601 := ga15572.of (g15596 _ (by omega))
          have ga15602 := ga15573.of (g15596 _ (by omega))
          have ga15603 := ga15574.of (g15596 _ (by omega))
          have ga15604 := ga15575.of (g15596 _ (by omega))
          have ga15605 := ga15576.of (g15596 _ (by omega))
          have h15606 : HS V c _ [0, 2, 17, 18, 19, 20, 21, 22, 23] _ _ := ⟨HR.mono (Z' := Z) (by intro e; first | rfl | assumption | omega) h15595.1, h15595.2⟩
          exact m_vret F hQ e_X10_readLine_180 (⟨P15497, oP15497, (by unfold RP; omega), (by rw [eo15506]; show RM _ c n _ (stopS (tok t n) (j1, 1, j3, j4) nl3 nm3 np3 nc3 lc3 no3 sd3 md3 ln3); rw [stopS_1 (by decide)]; exact RM.l ((g15597 23 (by decide)).trans yd15582) ((g15597 24 (by decide)).trans yd15583) (by omega) (by omega) (by omega)), (fun S2 hS _ => by rw [eo15506] at hS; replace hS : stopS (tok t n) (j1, 1, j3, j4) nl3 nm3 np3 nc3 lc3 no3 sd3 md3 ln3 = .inr S2 := hS; rw [stopS_1 (by decide)] at hS; cases hS), h15606, rfl⟩)
        · refine r_getC F e_X10_readLine_154 fl_X10_110 h15496 (yd15523) ?_
          refine m_iconst F (v := 3) (by decide) e_X10_readLine_157 ?_
          refine m_icmp_eq F e_X10_readLine_158 (fun q => absurd q (by decide)) (fun _ => ?_)
          refine m_aload_n F rfl e_X10_readLine_161 ?_
          refine m_iconst F (v := 1) (by decide) e_X10_readLine_162 ?_
          refine r_callV F e_X10_readLine_163 (q_X10_wrongE (x_l X) V c T Z u h P15497 L _ _ 1 n j1 1 (nI j3) ln3 fp3 h15496.1 (hob) oP15497 (by omega) ⟨(yd15520), (yd15521), (yd15522), (yd15523), (yd15524), (yd15525), (yd15526)⟩ (by decide)) cb_X10_wrong ml_X10_150 im_X10_wrong se_X10_wrong h15496 rfl rfl (rest := []) rfl (Nat.le_of_ble_eq_true rfl) ⟨Nat.le_of_ble_eq_true rfl, Nat.le_of_ble_eq_true rfl⟩ ⟨Nat.le_of_ble_eq_true rfl, Nat.le_of_ble_eq_true rfl⟩ (fun r σ15607 hp => ?_)
          obtain ⟨h15608, hp⟩ := hp
          have h15609 := HS.trans h15496 h15608 (by decide)
          have ga15610 := ga15499.of (h15608.2 (c + 1) (by rw [kC_at (k := 1) (by decide)]; decide))
          have ga15611 := hN3.of (h15608.2 (c + 2) (by rw [kC_at (k := 2) (by decide)]; decide))
          have ga15612 := hM3.of (h15608.2 (c + 3) (by rw [kC_at (k := 3) (by decide)]; decide))
          have ga15613 := hK3.of (h15608.2 (c + 7) (by rw [kC_at (k := 7) (by decide)]; decide))
          have ga15614 := hF3.of (h15608.2 (c + 8) (by rw [kC_at (k := 8) (by decide)]; decide))
          have ga15615 := hG3.of (h15608.2 (c + 9) (by rw [kC_at (k := 9) (by decide)]; decide))
          have ga15616 := hQ3.of (h15608.2 (c + 11) (by rw [kC_at (k := 11) (by decide)]; decide))
          obtain ⟨hp, rfl⟩ := hp
          have hyd15617 := hp
          obtain ⟨yd15617, yd15618, yd15619, yd15620, yd15621, yd15622, yd15623⟩ := hyd15617
          refine m_aload_n F rfl e_X10_readLine_166 ?_
          refine r_callV F e_X10_readLine_167 (q_X10_goOnG (x_l X) V c T 0 u h P15497 L _ _  1 h15609.1 (hob) oP15497  (yd15622) (by decide)) cb_X10_goOn ml_X10_154 im_X10_goOn se_X10_goOn h15609 rfl rfl (rest := []) rfl (Nat.le_of_ble_eq_true rfl) ⟨Nat.le_of_ble_eq_true rfl, Nat.le_of_ble_eq_true rfl⟩ ⟨Nat.le_of_ble_eq_true rfl, Nat.le_of_ble_eq_true rfl⟩ (fun r σ15624 hp => ?_)
          obtain ⟨h15625, hp⟩ := hp
          have h15626 := HS.trans h15609 h15625 (by decide)
          have ga15627 := ga15610.of (h15625.2 (c + 1) (by rw [kC_at (k := 1) (by decide)]; decide))
          have ga15628 := ga15611.of (h15625.2 (c + 2) (by rw [kC_at (k := 2) (by decide)]; decide))
          have ga15629 := ga15612.of (h15625.2 (c + 3) (by rw [kC_at (k := 3) (by decide)]; decide))
          have ga15630 := ga15613.of (h15625.2 (c + 7) (by rw [kC_at (k := 7) (by decide)]; decide))
          have ga15631 := ga15614.of (h15625.2 (c + 8) (by rw [kC_at (k := 8) (by decide)]; decide))
          have ga15632 := ga15615.of (h15625.2 (c + 9) (by rw [kC_at (k := 9) (by decide)]; decide))
          have ga15633 := ga15616.of (h15625.2 (c + 11) (by rw [kC_at (k := 11) (by decide)]; decide))
          obtain ⟨rfl, rfl⟩ := hp
          refine m_aload_n F rfl e_X10_readLine_170 ?_
          refine m_dup F rfl e_X10_readLine_171 ?_
          refine r_getC F e_X10_readLine_172 fl_X10_202 h15626 (yd15617) ?_
          refine m_iconst F (v := 1) (by decide) e_X10_readLine_175 ?_
          refine m_iadd F e_X10_readLine_176 ?_
          refine Wm.topE (w := nI (ln3 + 1)) (nI_add ln3 1) ?_
          refine r_put F (g' := (⟨T, 0, u, h, P15497, L⟩ : RG)) e_X10_readLine_177 fp_X10_202 h15626 (by decide) ⟨_, rfl⟩ (fun _ _ _ _ q => q) (fun _ _ _ q => q) rfl rfl (by decide) (fun σ15634 h15635 g15636 g15637 f15638 => ?_)
          have ga15639 := ga15610.of (g15636 _ (by omega))
          have ga15640 := ga15611.of (g15636 _ (by omega))
          have ga15641 := ga15612.of (g15636 _ (by omega))
          have ga15642 := ga15613.of (g15636 _ (by omega))
          have ga15643 := ga15614.of (g15636 _ (by omega))
          have ga15644 := ga15615.of (g15636 _ (by omega))
          have ga15645 := ga15616.of (g15636 _ (by omega))
          have h15646 : HS V c _ [0, 2, 17, 18, 19, 20, 21, 22, 23] _ _ := ⟨HR.mono (Z' := Z) (by intro e; first | rfl | assumption | omega) h15635.1, h15635.2⟩
          exact m_vret F hQ e_X10_readLine_180 (⟨P15497, oP15497, (by unfold RP; omega), (by rw [eo15506]; show RM _ c n _ (stopS (tok t n) (j1, 2, j3, j4) nl3 nm3 np3 nc3 lc3 no3 sd3 md3 ln3); rw [stopS_1 (by decide)]; exact RM.l ((g15637 23 (by decide)).trans yd15622) ((g15637 24 (by decide)).trans yd15623) (by omega) (by omega) (by omega)), (fun S2 hS _ => by rw [eo15506] at hS; replace hS : stopS (tok t n) (j1, 2, j3, j4) nl3 nm3 np3 nc3 lc3 no3 sd3 md3 ln3 = .inr S2 := hS; rw [stopS_1 (by decide)] at hS; cases hS), h15646, rfl⟩)
        · refine r_getC F e_X10_readLine_154 fl_X10_110 h15496 (yd15523) ?_
          refine m_iconst F (v := 3) (by decide) e_X10_readLine_157 ?_
          refine m_icmp_eq F e_X10_readLine_158 (fun q => absurd q (by decide)) (fun _ => ?_)
          refine m_aload_n F rfl e_X10_readLine_161 ?_
          refine m_iconst F (v := 1) (by decide) e_X10_readLine_162 ?_
          refine r_callV F e_X10_readLine_163 (q_X10_wrongE (x_l X) V c T Z u h P15497 L _ _ 1 n j1 2 (nI w3) ln3 fp3 h15496.1 (hob) oP15497 (by omega) ⟨(yd15520), (yd15521), (yd15522), (yd15523), (yd15524), (yd15525), (yd15526)⟩ (by decide)) cb_X10_wrong ml_X10_150 im_X10_wrong se_X10_wrong h15496 rfl rfl (rest := []) rfl (Nat.le_of_ble_eq_true rfl) ⟨Nat.le_of_ble_eq_true rfl, Nat.le_of_ble_eq_true rfl⟩ ⟨Nat.le_of_ble_eq_true rfl, Nat.le_of_ble_eq_true rfl⟩ (fun r σ15647 hp => ?_)
          obtain ⟨h15648, hp⟩ := hp
          have h15649 := HS.trans h15496 h15648 (by decide)
          have ga15650 := ga15499.of (h15648.2 (c + 1) (by rw [kC_at (k := 1) (by decide)]; decide))
          have ga15651 := hN3.of (h15648.2 (c + 2) (by rw [kC_at (k := 2) (by decide)]; decide))
          have ga15652 := hM3.of (h15648.2 (c + 3) (by rw [kC_at (k := 3) (by decide)]; decide))
          have ga15653 := hK3.of (h15648.2 (c + 7) (by rw [kC_at (k := 7) (by decide)]; decide))
          have ga15654 := hF3.of (h15648.2 (c + 8) (by rw [kC_at (k := 8) (by decide)]; decide))
          have ga15655 := hG3.of (h15648.2 (c + 9) (by rw [kC_at (k := 9) (by decide)]; decide))
          have ga15656 := hQ3.of (h15648.2 (c + 11) (by rw [kC_at (k := 11) (by decide)]; decide))
          obtain ⟨hp, rfl⟩ := hp
          have hyd15657 := hp
          obtain ⟨yd15657, yd15658, yd15659, yd15660, yd15661, yd15662, yd15663⟩ := hyd15657
          refine m_aload_n F rfl e_X10_readLine_166 ?_
          refine r_callV F e_X10_readLine_167 (q_X10_goOnG (x_l X) V c T 0 u h P15497 L _ _  1 h15649.1 (hob) oP15497  (yd15662) (by decide)) cb_X10_goOn ml_X10_154 im_X10_goOn se_X10_goOn h15649 rfl rfl (rest := []) rfl (Nat.le_of_ble_eq_true rfl) ⟨Nat.le_of_ble_eq_true rfl, Nat.le_of_ble_eq_true rfl⟩ ⟨Nat.le_of_ble_eq_true rfl, Nat.le_of_ble_eq_true rfl⟩ (fun r σ15664 hp => ?_)
          obtain ⟨h15665, hp⟩ := hp
          have h15666 := HS.trans h15649 h15665 (by decide)
          have ga15667 := ga15650.of (h15665.2 (c + 1) (by rw [kC_at (k := 1) (by decide)]; decide))
          have ga15668 := ga15651.of (h15665.2 (c + 2) (by rw [kC_at (k := 2) (by decide)]; decide))
          have ga15669 := ga15652.of (h15665.2 (c + 3) (by rw [kC_at (k := 3) (by decide)]; decide))
          have ga15670 := ga15653.of (h15665.2 (c + 7) (by rw [kC_at (k := 7) (by decide)]; decide))
          have ga15671 := ga15654.of (h15665.2 (c + 8) (by rw [kC_at (k := 8) (by decide)]; decide))
          have ga15672 := ga15655.of (h15665.2 (c + 9) (by rw [kC_at (k := 9) (by decide)]; decide))
          have ga15673 := ga15656.of (h15665.2 (c + 11) (by rw [kC_at (k := 11) (by decide)]; decide))
          obtain ⟨rfl, rfl⟩ := hp
          refine m_aload_n F rfl e_X10_readLine_170 ?_
          refine m_dup F rfl e_X10_readLine_171 ?_
          refine r_getC F e_X10_readLine_172 fl_X10_202 h15666 (yd15657) ?_
          refine m_iconst F (v := 1) (by decide) e_X10_readLine_175 ?_
          refine m_iadd F e_X10_readLine_176 ?_
          refine Wm.topE (w := nI (ln3 + 1)) (nI_add ln3 1) ?_
          refine r_put F (g' := (⟨T, 0, u, h, P15497, L⟩ : RG)) e_X10_readLine_177 fp_X10_202 h15666 (by decide) ⟨_, rfl⟩ (fun _ _ _ _ q => q) (fun _ _ _ q => q) rfl rfl (by decide) (fun σ15674 h15675 g15676 g15677 f15678 => ?_)
          have ga15679 := ga15650.of (g15676 _ (by omega))
          have ga15680 := ga15651.of (g15676 _ (by omega))
          have ga15681 := ga15652.of (g15676 _ (by omega))
          have ga15682 := ga15653.of (g15676 _ (by omega))
          have ga15683 := ga15654.of (g15676 _ (by omega))
          have ga15684 := ga15655.of (g15676 _ (by omega))
          have ga15685 := ga15656.of (g15676 _ (by omega))
          have h15686 : HS V c _ [0, 2, 17, 18, 19, 20, 21, 22, 23] _ _ := ⟨HR.mono (Z' := Z) (by intro e; first | rfl | assumption | omega) h15675.1, h15675.2⟩
          exact m_vret F hQ e_X10_readLine_180 (⟨P15497, oP15497, (by unfold RP; omega), (by rw [eo15506]; show RM _ c n _ (stopS (tok t n) (j1, 3, j3, j4) nl3 nm3 np3 nc3 lc3 no3 sd3 md3 ln3); rw [stopS_1 (by decide)]; exact RM.l ((g15677 23 (by decide)).trans yd15662) ((g15677 24 (by decide)).trans yd15663) (by omega) (by omega) (by omega)), (fun S2 hS _ => by rw [eo15506] at hS; replace hS : stopS (tok t n) (j1, 3, j3, j4) nl3 nm3 np3 nc3 lc3 no3 sd3 md3 ln3 = .inr S2 := hS; rw [stopS_1 (by decide)] at hS; cases hS), h15686, rfl⟩)
        · refine r_getC F e_X10_readLine_154 fl_X10_110 h15496 (yd15523) ?_
          refine m_iconst F (v := 3) (by decide) e_X10_readLine_157 ?_
          refine m_icmp_eq F e_X10_readLine_158 (fun _ => ?_) (fun q => absurd (by decide) q)
          refine m_aload_n F rfl e_X10_readLine_166 ?_
          refine r_callV F e_X10_readLine_167 (q_X10_goOnE (x_l X) V c T Z u h P15497 L _ _  n j1 3 va3 ln3 fp3 t h15496.1 (hob) oP15497  ⟨(yd15520), (yd15521), (yd15522), (yd15523), (yd15524), (yd15525), (yd15526)⟩ ga15499 hn7 (by omega)) cb_X10_goOn ml_X10_154 im_X10_goOn se_X10_goOn h15496 rfl rfl (rest := []) rfl (Nat.le_of_ble_eq_true rfl) ⟨Nat.le_of_ble_eq_true rfl, Nat.le_of_ble_eq_true rfl⟩ ⟨Nat.le_of_ble_eq_true rfl, Nat.le_of_ble_eq_true rfl⟩ (fun r σ15687 hp => ?_)
          obtain ⟨P15690, oP15690, rP15690, pr15691, pr15692, h15688, hp⟩ := hp
          have h15689 := HS.trans h15496 h15688 (by decide)
          have xP15690 := oP15690
          unfold OKP at xP15690
          unfold RA at rP15690
          have ga15693 := ga15499.of (h15688.2 (c + 1) (by rw [kC_at (k := 1) (by decide)]; decide))
          have ga15694 := hN3.of (h15688.2 (c + 2) (by rw [kC_at (k := 2) (by decide)]; decide))
          have ga15695 := hM3.of (h15688.2 (c + 3) (by rw [kC_at (k := 3) (by decide)]; decide))
          have ga15696 := hK3.of (h15688.2 (c + 7) (by rw [kC_at (k := 7) (by decide)]; decide))
          have ga15697 := hF3.of (h15688.2 (c + 8) (by rw [kC_at (k := 8) (by decide)]; decide))
          have ga15698 := hG3.of (h15688.2 (c + 9) (by rw [kC_at (k := 9) (by decide)]; decide))
          have ga15699 := hQ3.of (h15688.2 (c + 11) (by rw [kC_at (k := 11) (by decide)]; decide))
          obtain rfl := hp
          rw [pa3] at pr15691 pr15692
          have b8 := tok_ok (t := t) (n := n) j4 c1
          obtain ⟨so15700, va15701, mt15702, yd15703⟩ := pr15692
          have hyd15704 := yd15703
          obtain ⟨yd15704, yd15705, yd15706, yd15707, yd15708, yd15709, yd15710⟩ := hyd15704
          refine m_aload_n F rfl e_X10_readLine_170 ?_
          refine m_dup F rfl e_X10_readLine_171 ?_
          refine r_getC F e_X10_readLine_172 fl_X10_202 h15689 (yd15704) ?_
          refine m_iconst F (v := 1) (by decide) e_X10_readLine_175 ?_
          refine m_iadd F e_X10_readLine_176 ?_
          refine Wm.topE (w := nI (ln3 + 1)) (nI_add ln3 1) ?_
          refine r_put F (g' := (⟨T, Z, u, h, P15690, L⟩ : RG)) e_X10_readLine_177 fp_X10_202 h15689 (by decide) ⟨_, rfl⟩ (fun _ _ _ _ q => q) (fun _ _ _ q => q) rfl rfl (by decide) (fun σ15711 h15712 g15713 g15714 f15715 => ?_)
          have ga15716 := ga15693.of (g15713 _ (by omega))
          have ga15717 := ga15694.of (g15713 _ (by omega))
          have ga15718 := ga15695.of (g15713 _ (by omega))
          have ga15719 := ga15696.of (g15713 _ (by omega))
          have ga15720 := ga15697.of (g15713 _ (by omega))
          have ga15721 := ga15698.of (g15713 _ (by omega))
          have ga15722 := ga15699.of (g15713 _ (by omega))
          exact m_vret F hQ e_X10_readLine_180 (⟨P15690, oP15690, (by unfold RP; omega), (by rw [eo15506]; show RM _ c n _ (stopS (tok t n) (j1, 4, j3, j4) nl3 nm3 np3 nc3 lc3 no3 sd3 md3 ln3); rw [stopS_ok]; exact RM.r mt15702 ⟨(f15715), ((g15714 18 (by decide)).trans yd15705), ((g15714 20 (by decide)).trans yd15706), ((g15714 21 (by decide)).trans yd15707), ((g15714 22 (by decide)).trans yd15708), ((g15714 23 (by decide)).trans yd15709), ((g15714 24 (by decide)).trans yd15710)⟩ (by omega) (by omega) (by omega) ga15717 ga15718 ga15719 ga15720 ga15721 ga15722 (by omega) (by omega) (by omega) (by omega) (by omega)), (fun S2 hS hz => by rw [eo15506] at hS; replace hS : stopS (tok t n) (j1, 4, j3, j4) nl3 nm3 np3 nc3 lc3 no3 sd3 md3 ln3 = .inr S2 := hS; rw [stopS_ok] at hS; cases hS; replace hz : (tok t n j4).2.1 ≠ 0 := hz; have h8 := b8.2.2.2 hz; omega), h15712, rfl⟩)
        · refine r_getC F e_X10_readLine_154 fl_X10_110 h15496 (yd15523) ?_
          refine m_iconst F (v := 3) (by decide) e_X10_readLine_157 ?_
          refine m_icmp_eq F e_X10_readLine_158 (fun q => absurd q (by decide)) (fun _ => ?_)
          refine m_aload_n F rfl e_X10_readLine_161 ?_
          refine m_iconst F (v := 1) (by decide) e_X10_readLine_162 ?_
          refine r_callV F e_X10_readLine_163 (q_X10_wrongE (x_l X) V c T Z u h P15497 L _ _ 1 n j1 5 va3 ln3 fp3 h15496.1 (hob) oP15497 (by omega) ⟨(yd15520), (yd15521), (yd15522), (yd15523), (yd15524), (yd15525), (yd15526)⟩ (by decide)) cb_X10_wrong ml_X10_150 im_X10_wrong se_X10_wrong h15496 rfl rfl (rest := []) rfl (Nat.le_of_ble_eq_true rfl) ⟨Nat.le_of_ble_eq_true rfl, Nat.le_of_ble_eq_true rfl⟩ ⟨Nat.le_of_ble_eq_true rfl, Nat.le_of_ble_eq_true rfl⟩ (fun r σ15723 hp => ?_)
          obtain ⟨h15724, hp⟩ := hp
          have h15725 := HS.trans h15496 h15724 (by decide)
          have ga15726 := ga15499.of (h15724.2 (c + 1) (by rw [kC_at (k := 1) (by decide)]; decide))
          have ga15727 := hN3.of (h15724.2 (c + 2) (by rw [kC_at (k := 2) (by decide)]; decide))
          have ga15728 := hM3.of (h15724.2 (c + 3) (by rw [kC_at (k := 3) (by decide)]; decide))
          have ga15729 := hK3.of (h15724.2 (c + 7) (by rw [kC_at (k := 7) (by decide)]; decide))
          have ga15730 := hF3.of (h15724.2 (c + 8) (by rw [kC_at (k := 8) (by decide)]; decide))
          have ga15731 := hG3.of (h15724.2 (c + 9) (by rw [kC_at (k := 9) (by decide)]; decide))
          have ga15732 := hQ3.of (h15724.2 (c + 11) (by rw [kC_at (k := 11) (by decide)]; decide))
          obtain ⟨hp, rfl⟩ := hp
          have hyd15733 := hp
          obtain ⟨yd15733, yd15734, yd15735, yd15736, yd15737, yd15738, yd15739⟩ := hyd15733
          refine m_aload_n F rfl e_X10_readLine_166 ?_
          refine r_callV F e_X10_readLine_167 (q_X10_goOnG (x_l X) V c T 0 u h P15497 L _ _  1 h15725.1 (hob) oP15497  (yd15738) (by decide)) cb_X10_goOn ml_X10_154 im_X10_goOn se_X10_goOn h15725 rfl rfl (rest := []) rfl (Nat.le_of_ble_eq_true rfl) ⟨Nat.le_of_ble_eq_true rfl, Nat.le_of_ble_eq_true rfl⟩ ⟨Nat.le_of_ble_eq_true rfl, Nat.le_of_ble_eq_true rfl⟩ (fun r σ15740 hp => ?_)
          obtain ⟨h15741, hp⟩ := hp
          have h15742 := HS.trans h15725 h15741 (by decide)
          have ga15743 := ga15726.of (h15741.2 (c + 1) (by rw [kC_at (k := 1) (by decide)]; decide))
          have ga15744 := ga15727.of (h15741.2 (c + 2) (by rw [kC_at (k := 2) (by decide)]; decide))
          have ga15745 := ga15728.of (h15741.2 (c + 3) (by rw [kC_at (k := 3) (by decide)]; decide))
          have ga15746 := ga15729.of (h15741.2 (c + 7) (by rw [kC_at (k := 7) (by decide)]; decide))
          have ga15747 := ga15730.of (h15741.2 (c + 8) (by rw [kC_at (k := 8) (by decide)]; decide))
          have ga15748 := ga15731.of (h15741.2 (c + 9) (by rw [kC_at (k := 9) (by decide)]; decide))
          have ga15749 := ga15732.of (h15741.2 (c + 11) (by rw [kC_at (k := 11) (by decide)]; decide))
          obtain ⟨rfl, rfl⟩ := hp
          refine m_aload_n F rfl e_X10_readLine_170 ?_
          refine m_dup F rfl e_X10_readLine_171 ?_
          refine r_getC F e_X10_readLine_172 fl_X10_202 h15742 (yd15733) ?_
          refine m_iconst F (v := 1) (by decide) e_X10_readLine_175 ?_
          refine m_iadd F e_X10_readLine_176 ?_
          refine Wm.topE (w := nI (ln3 + 1)) (nI_add ln3 1) ?_
          refine r_put F (g' := (⟨T, 0, u, h, P15497, L⟩ : RG)) e_X10_readLine_177 fp_X10_202 h15742 (by decide) ⟨_, rfl⟩ (fun _ _ _ _ q => q) (fun _ _ _ q => q) rfl rfl (by decide) (fun σ15750 h15751 g15752 g15753 f15754 => ?_)
          have ga15755 := ga15726.of (g15752 _ (by omega))
          have ga15756 := ga15727.of (g15752 _ (by omega))
          have ga15757 := ga15728.of (g15752 _ (by omega))
          have ga15758 := ga15729.of (g15752 _ (by omega))
          have ga15759 := ga15730.of (g15752 _ (by omega))
          have ga15760 := ga15731.of (g15752 _ (by omega))
          have ga15761 := ga15732.of (g15752 _ (by omega))
          have h15762 : HS V c _ [0, 2, 17, 18, 19, 20, 21, 22, 23] _ _ := ⟨HR.mono (Z' := Z) (by intro e; first | rfl | assumption | omega) h15751.1, h15751.2⟩
          exact m_vret F hQ e_X10_readLine_180 (⟨P15497, oP15497, (by unfold RP; omega), (by rw [eo15506]; show RM _ c n _ (stopS (tok t n) (j1, 5, j3, j4) nl3 nm3 np3 nc3 lc3 no3 sd3 md3 ln3); rw [stopS_1 (by decide)]; exact RM.l ((g15753 23 (by decide)).trans yd15738) ((g15753 24 (by decide)).trans yd15739) (by omega) (by omega) (by omega)), (fun S2 hS _ => by rw [eo15506] at hS; replace hS : stopS (tok t n) (j1, 5, j3, j4) nl3 nm3 np3 nc3 lc3 no3 sd3 md3 ln3 = .inr S2 := hS; rw [stopS_1 (by decide)] at hS; cases hS), h15762, rfl⟩)
    · refine r_getC F e_X10_readLine_1 fl_X10_110 h1 (yd14109) ?_
      refine m_if_eq F e_X10_readLine_4 (fun _ => ?_) (fun q => absurd (by decide) q)
      refine m_aload_n F rfl e_X10_readLine_15 ?_
      refine r_getC F e_X10_readLine_16 fl_X10_120 h1 (yd14110) ?_
      refine m_if_ne F e_X10_readLine_19 (fun _ => ?_) (fun q => absurd q (by decide))
      refine m_aload_n F rfl e_X10_readLine_29 ?_
      refine r_getC F e_X10_readLine_30 fl_X10_120 h1 (yd14110) ?_
      refine m_iconst F (v := 1) (by decide) e_X10_readLine_33 ?_
      refine m_icmp_ne F e_X10_readLine_34 (fun _ => ?_) (fun q => absurd q (by decide))
      refine m_aload_n F rfl e_X10_readLine_44 ?_
      refine r_getC F e_X10_readLine_45 fl_X10_120 h1 (yd14110) ?_
      refine m_iconst F (v := 2) (by decide) e_X10_readLine_48 ?_
      refine m_icmp_eq F e_X10_readLine_49 (fun q => absurd q (by decide)) (fun _ => ?_)
      refine m_aload_n F rfl e_X10_readLine_52 ?_
      refine r_getC F e_X10_readLine_53 fl_X10_120 h1 (yd14110) ?_
      refine m_iconst F (v := 5) (by decide) e_X10_readLine_56 ?_
      refine m_icmp_ne F e_X10_readLine_57 (fun _ => ?_) (fun q => absurd q (by decide))
      refine m_aload_n F rfl e_X10_readLine_80 ?_
      refine r_getC F e_X10_readLine_81 fl_X10_120 h1 (yd14110) ?_
      refine m_iconst F (v := 3) (by decide) e_X10_readLine_84 ?_
      refine m_icmp_ne F e_X10_readLine_85 (fun _ => ?_) (fun q => absurd q (by decide))
      refine m_aload_n F rfl e_X10_readLine_95 ?_
      refine r_getC F e_X10_readLine_96 fl_X10_120 h1 (yd14110) ?_
      refine m_iconst F (v := 4) (by decide) e_X10_readLine_99 ?_
      refine m_icmp_ne F e_X10_readLine_100 (fun _ => ?_) (fun q => absurd q (by decide))
      refine m_aload_n F rfl e_X10_readLine_110 ?_
      refine r_getC F e_X10_readLine_111 fl_X10_120 h1 (yd14110) ?_
      refine m_bipush F (v := 6) (by decide) e_X10_readLine_114 ?_
      refine m_icmp_ne F e_X10_readLine_116 (fun q => absurd (by decide) q) (fun _ => ?_)
      refine m_aload_n F rfl e_X10_readLine_119 ?_
      refine r_callV F e_X10_readLine_120 (q_X10_readChangeE (x_l X) V c T Z u h P L _ _  n st 0 6 ln fp t 1 6 nm np lc no sd md h1.1 (hob) hP  ⟨(yd14106), (yd14107), (yd14108), (yd14109), (yd14110), (yd14111), (yd14112)⟩ hp1 hn7 (by omega) hp4 hp5 hp6 hp7 hp8 hp9 hp10 hp11 hp12 hp13 hp14) cb_X10_readChange ml_X10_193 im_X10_readChange se_X10_readChange h1 rfl rfl (rest := []) rfl (Nat.le_of_ble_eq_true rfl) ⟨Nat.le_of_ble_eq_true rfl, Nat.le_of_ble_eq_true rfl⟩ ⟨Nat.le_of_ble_eq_true rfl, Nat.le_of_ble_eq_true rfl⟩ (fun r σ15763 hp => ?_)
      obtain ⟨P15766, oP15766, rP15766, pr15767, h15764, hp⟩ := hp
      have h15765 := HS.trans h1 h15764 (by decide)
      have xP15766 := oP15766
      unfold OKP at xP15766
      unfold RP at rP15766
      have ga15768 := hp1.of (h15764.2 (c + 1) (by rw [kC_at (k := 1) (by decide)]; decide))
      have ga15769 := hp7.of (h15764.2 (c + 3) (by rw [kC_at (k := 3) (by decide)]; decide))
      have ga15770 := hp8.of (h15764.2 (c + 7) (by rw [kC_at (k := 7) (by decide)]; decide))
      have ga15771 := hp9.of (h15764.2 (c + 8) (by rw [kC_at (k := 8) (by decide)]; decide))
      have ga15772 := hp10.of (h15764.2 (c + 9) (by rw [kC_at (k := 9) (by decide)]; decide))
      obtain rfl := hp
      have rm15773 : RM σ15763 c n P15766 (lineS (tok t n) (st, 1, 6, P.a) P.n5 nm np P.n7 lc no sd md ln) := by rw [lineS_6]; exact pr15767
      cases eo15774 : lineS (tok t n) (st, 1, 6, P.a) P.n5 nm np P.n7 lc no sd md ln with
      | inl e8 =>
        rw [eo15774] at rm15773
        obtain ⟨⟨fa15775, fb15776⟩, c1, c2, c3⟩ := rm15773
        have nz8 : nI e8.1 ≠ 0 := fun e => absurd (nI_inj9 (b := 0) (by omega) (by omega) e) (by omega)
        refine m_goto F e_X10_readLine_123 ?_
        refine m_aload_n F rfl e_X10_readLine_146 ?_
        refine r_getC F e_X10_readLine_147 fl_X10_141 h15765 (fa15775) ?_
        refine m_if_ne F e_X10_readLine_150 (fun q150 => ?_) (fun q150 => ?_)
        · have c150 : e8.1 ≠ 0 := by have hh := mt (nI_eq (a := e8.1) (b := 0) (by omega) (by omega)).mpr q150; omega
          refine m_aload_n F rfl e_X10_readLine_166 ?_
          refine r_callV F e_X10_readLine_167 (q_X10_goOnG (x_l X) V c T Z u h P15766 L _ _  (nI e8.1) h15765.1 (hob) oP15766  (fa15775) (by assumption)) cb_X10_goOn ml_X10_154 im_X10_goOn se_X10_goOn h15765 rfl rfl (rest := []) rfl (Nat.le_of_ble_eq_true rfl) ⟨Nat.le_of_ble_eq_true rfl, Nat.le_of_ble_eq_true rfl⟩ ⟨Nat.le_of_ble_eq_true rfl, Nat.le_of_ble_eq_true rfl⟩ (fun r σ15777 hp => ?_)
          obtain ⟨h15778, hp⟩ := hp
          have h15779 := HS.trans h15765 h15778 (by decide)
          obtain ⟨rfl, rfl⟩ := hp
          refine m_aload_n F rfl e_X10_readLine_170 ?_
          refine m_dup F rfl e_X10_readLine_171 ?_
          refine r_get F e_X10_readLine_172 fl_X10_202 h15779 rfl (fun v hv f15780 => ?_)
          obtain ⟨x15781, rfl⟩ := hv
          refine m_iconst F (v := 1) (by decide) e_X10_readLine_175 ?_
          refine m_iadd F e_X10_readLine_176 ?_
          refine Wm.top (fun x15782 _ => ?_)
          refine r_put F (g' := (⟨T, Z, u, h, P15766, L⟩ : RG)) e_X10_readLine_177 fp_X10_202 h15779 (by decide) ⟨_, rfl⟩ (fun _ _ _ _ q => q) (fun _ _ _ q => q) rfl rfl (by decide) (fun σ15783 h15784 g15785 g15786 f15787 => ?_)
          exact m_vret F hQ e_X10_readLine_180 (⟨P15766, oP15766, (by unfold RP; omega), (by rw [eo15774]; show RM _ c n _ (.inl e8); exact RM.l ((g15786 23 (by decide)).trans fa15775) ((g15786 24 (by decide)).trans fb15776) (by omega) (by omega) (by omega)), (fun S2 hS _ => by rw [eo15774] at hS; cases hS), h15784, rfl⟩)
        · have c150 : e8.1 = 0 := (nI_eq (a := e8.1) (b := 0) (by omega) (by omega)).mp q150
          exact absurd q150 nz8
      | inr S1 =>
        rw [eo15774] at rm15773
        obtain ⟨⟨j1, j2, j3, j4⟩, nl3, nm3, np3, nc3, lc3, no3, sd3, md3, ln3⟩ := S1
        obtain ⟨so3, va3, fp3, mt3, yd3, ⟨pa3, p53, p73⟩, hN3, hM3, hK3, hF3, hG3, hQ3, c1, c2, c3, c4, c5⟩ := rm15773
        replace pa3 : _ = j4 := pa3
        replace c1 : j4 ≤ n := c1
        replace c2 : j1 ≤ n := c2
        have hyd15788 := yd3
        obtain ⟨yd15788, yd15789, yd15790, yd15791, yd15792, yd15793, yd15794⟩ := hyd15788
        refine m_goto F e_X10_readLine_123 ?_
        refine m_aload_n F rfl e_X10_readLine_146 ?_
        refine r_getC F e_X10_readLine_147 fl_X10_141 h15765 (yd15793) ?_
        refine m_if_ne F e_X10_readLine_150 (fun q => absurd (by decide) q) (fun _ => ?_)
        refine m_aload_n F rfl e_X10_readLine_153 ?_
        have hmt := mt3
        rcases hmt with ⟨rfl, rfl⟩ | ⟨rfl, rfl, rfl, hv3⟩ | ⟨rfl, rfl, rfl, hv3⟩ | ⟨rfl, rfl, w3, hw3, rfl, hm3⟩ | ⟨rfl, rfl⟩ | ⟨rfl, rfl⟩
        · refine r_getC F e_X10_readLine_154 fl_X10_110 h15765 (yd15791) ?_
          refine m_iconst F (v := 3) (by decide) e_X10_readLine_157 ?_
          refine m_icmp_eq F e_X10_readLine_158 (fun q => absurd q (by decide)) (fun _ => ?_)
          refine m_aload_n F rfl e_X10_readLine_161 ?_
          refine m_iconst F (v := 1) (by decide) e_X10_readLine_162 ?_
          refine r_callV F e_X10_readLine_163 (q_X10_wrongE (x_l X) V c T Z u h P15766 L _ _ 1 n j1 4 va3 ln3 fp3 h15765.1 (hob) oP15766 (by omega) ⟨(yd15788), (yd15789), (yd15790), (yd15791), (yd15792), (yd15793), (yd15794)⟩ (by decide)) cb_X10_wrong ml_X10_150 im_X10_wrong se_X10_wrong h15765 rfl rfl (rest := []) rfl (Nat.le_of_ble_eq_true rfl) ⟨Nat.le_of_ble_eq_true rfl, Nat.le_of_ble_eq_true rfl⟩ ⟨Nat.le_of_ble_eq_true rfl, Nat.le_of_ble_eq_true rfl⟩ (fun r σ15795 hp => ?_)
          obtain ⟨h15796, hp⟩ := hp
          have h15797 := HS.trans h15765 h15796 (by decide)
          have ga15798 := ga15768.of (h15796.2 (c + 1) (by rw [kC_at (k := 1) (by decide)]; decide))
          have ga15799 := hN3.of (h15796.2 (c + 2) (by rw [kC_at (k := 2) (by decide)]; decide))
          have ga15800 := hM3.of (h15796.2 (c + 3) (by rw [kC_at (k := 3) (by decide)]; decide))
          have ga15801 := hK3.of (h15796.2 (c + 7) (by rw [kC_at (k := 7) (by decide)]; decide))
          have ga15802 := hF3.of (h15796.2 (c + 8) (by rw [kC_at (k := 8) (by decide)]; decide))
          have ga15803 := hG3.of (h15796.2 (c + 9) (by rw [kC_at (k := 9) (by decide)]; decide))
          have ga15804 := hQ3.of (h15796.2 (c + 11) (by rw [kC_at (k := 11) (by decide)]; decide))
          obtain ⟨hp, rfl⟩ := hp
          have hyd15805 := hp
          obtain ⟨yd15805, yd15806, yd15807, yd15808, yd15809, yd15810, yd15811⟩ := hyd15805
          refine m_aload_n F rfl e_X10_readLine_166 ?_
          refine r_callV F e_X10_readLine_167 (q_X10_goOnG (x_l X) V c T 0 u h P15766 L _ _  1 h15797.1 (hob) oP15766  (yd15810) (by decide)) cb_X10_goOn ml_X10_154 im_X10_goOn se_X10_goOn h15797 rfl rfl (rest := []) rfl (Nat.le_of_ble_eq_true rfl) ⟨Nat.le_of_ble_eq_true rfl, Nat.le_of_ble_eq_true rfl⟩ ⟨Nat.le_of_ble_eq_true rfl, Nat.le_of_ble_eq_true rfl⟩ (fun r σ15812 hp => ?_)
          obtain ⟨h15813, hp⟩ := hp
          have h15814 := HS.trans h15797 h15813 (by decide)
          have ga15815 := ga15798.of (h15813.2 (c + 1) (by rw [kC_at (k := 1) (by decide)]; decide))
          have ga15816 := ga15799.of (h15813.2 (c + 2) (by rw [kC_at (k := 2) (by decide)]; decide))
          have ga15817 := ga15800.of (h15813.2 (c + 3) (by rw [kC_at (k := 3) (by decide)]; decide))
          have ga15818 := ga15801.of (h15813.2 (c + 7) (by rw [kC_at (k := 7) (by decide)]; decide))
          have ga15819 := ga15802.of (h15813.2 (c + 8) (by rw [kC_at (k := 8) (by decide)]; decide))
          have ga15820 := ga15803.of (h15813.2 (c + 9) (by rw [kC_at (k := 9) (by decide)]; decide))
          have ga15821 := ga15804.of (h15813.2 (c + 11) (by rw [kC_at (k := 11) (by decide)]; decide))
          obtain ⟨rfl, rfl⟩ := hp
          refine m_aload_n F rfl e_X10_readLine_170 ?_
          refine m_dup F rfl e_X10_readLine_171 ?_
          refine r_getC F e_X10_readLine_172 fl_X10_202 h15814 (yd15805) ?_
          refine m_iconst F (v := 1) (by decide) e_X10_readLine_175 ?_
          refine m_iadd F e_X10_readLine_176 ?_
          refine Wm.topE (w := nI (ln3 + 1)) (nI_add ln3 1) ?_
          refine r_put F (g' := (⟨T, 0, u, h, P15766, L⟩ : RG)) e_X10_readLine_177 fp_X10_202 h15814 (by decide) ⟨_, rfl⟩ (fun _ _ _ _ q => q) (fun _ _ _ q => q) rfl rfl (by decide) (fun σ15822 h15823 g15824 g15825 f15826 => ?_)
          have ga15827 := ga15798.of (g15824 _ (by omega))
          have ga15828 := ga15799.of (g15824 _ (by omega))
          have ga15829 := ga15800.of (g15824 _ (by omega))
          have ga15830 := ga15801.of (g15824 _ (by omega))
          have ga15831 := ga15802.of (g15824 _ (by omega))
          have ga15832 := ga15803.of (g15824 _ (by omega))
          have ga15833 := ga15804.of (g15824 _ (by omega))
          have h15834 : HS V c _ [0, 2, 17, 18, 19, 20, 21, 22, 23] _ _ := ⟨HR.mono (Z' := Z) (by intro e; first | rfl | assumption | omega) h15823.1, h15823.2⟩
          exact m_vret F hQ e_X10_readLine_180 (⟨P15766, oP15766, (by unfold RP; omega), (by rw [eo15774]; show RM _ c n _ (stopS (tok t n) (j1, 0, j3, j4) nl3 nm3 np3 nc3 lc3 no3 sd3 md3 ln3); rw [stopS_1 (by decide)]; exact RM.l ((g15825 23 (by decide)).trans yd15810) ((g15825 24 (by decide)).trans yd15811) (by omega) (by omega) (by omega)), (fun S2 hS _ => by rw [eo15774] at hS; replace hS : stopS (tok t n) (j1, 0, j3, j4) nl3 nm3 np3 nc3 lc3 no3 sd3 md3 ln3 = .inr S2 := hS; rw [stopS_1 (by decide)] at hS; cases hS), h15834, rfl⟩)
        · refine r_getC F e_X10_readLine_154 fl_X10_110 h15765 (yd15791) ?_
          refine m_iconst F (v := 3) (by decide) e_X10_readLine_157 ?_
          refine m_icmp_eq F e_X10_readLine_158 (fun q => absurd q (by decide)) (fun _ => ?_)
          refine m_aload_n F rfl e_X10_readLine_161 ?_
          refine m_iconst F (v := 1) (by decide) e_X10_readLine_162 ?_
          refine r_callV F e_X10_readLine_163 (q_X10_wrongE (x_l X) V c T Z u h P15766 L _ _ 1 n j1 0 (nI j3) ln3 fp3 h15765.1 (hob) oP15766 (by omega) ⟨(yd15788), (yd15789), (yd15790), (yd15791), (yd15792), (yd15793), (yd15794)⟩ (by decide)) cb_X10_wrong ml_X10_150 im_X10_wrong se_X10_wrong h15765 rfl rfl (rest := []) rfl (Nat.le_of_ble_eq_true rfl) ⟨Nat.le_of_ble_eq_true rfl, Nat.le_of_ble_eq_true rfl⟩ ⟨Nat.le_of_ble_eq_true rfl, Nat.le_of_ble_eq_true rfl⟩ (fun r σ15835 hp => ?_)
          obtain ⟨h15836, hp⟩ := hp
          have h15837 := HS.trans h15765 h15836 (by decide)
          have ga15838 := ga15768.of (h15836.2 (c + 1) (by rw [kC_at (k := 1) (by decide)]; decide))
          have ga15839 := hN3.of (h15836.2 (c + 2) (by rw [kC_at (k := 2) (by decide)]; decide))
          have ga15840 := hM3.of (h15836.2 (c + 3) (by rw [kC_at (k := 3) (by decide)]; decide))
          have ga15841 := hK3.of (h15836.2 (c + 7) (by rw [kC_at (k := 7) (by decide)]; decide))
          have ga15842 := hF3.of (h15836.2 (c + 8) (by rw [kC_at (k := 8) (by decide)]; decide))
          have ga15843 := hG3.of (h15836.2 (c + 9) (by rw [kC_at (k := 9) (by decide)]; decide))
          have ga15844 := hQ3.of (h15836.2 (c + 11) (by rw [kC_at (k := 11) (by decide)]; decide))
          obtain ⟨hp, rfl⟩ := hp
          have hyd15845 := hp
          obtain ⟨yd15845, yd15846, yd15847, yd15848, yd15849, yd15850, yd15851⟩ := hyd15845
          refine m_aload_n F rfl e_X10_readLine_166 ?_
          refine r_callV F e_X10_readLine_167 (q_X10_goOnG (x_l X) V c T 0 u h P15766 L _ _  1 h15837.1 (hob) oP15766  (yd15850) (by decide)) cb_X10_goOn ml_X10_154 im_X10_goOn se_X10_goOn h15837 rfl rfl (rest := []) rfl (Nat.le_of_ble_eq_true rfl) ⟨Nat.le_of_ble_eq_true rfl, Nat.le_of_ble_eq_true rfl⟩ ⟨Nat.le_of_ble_eq_true rfl, Nat.le_of_ble_eq_true rfl⟩ (fun r σ15852 hp => ?_)
          obtain ⟨h15853, hp⟩ := hp
          have h15854 := HS.trans h15837 h15853 (by decide)
          have ga15855 := ga15838.of (h15853.2 (c + 1) (by rw [kC_at (k := 1) (by decide)]; decide))
          have ga15856 := ga15839.of (h15853.2 (c + 2) (by rw [kC_at (k := 2) (by decide)]; decide))
          have ga15857 := ga15840.of (h15853.2 (c + 3) (by rw [kC_at (k := 3) (by decide)]; decide))
          have ga15858 := ga15841.of (h15853.2 (c + 7) (by rw [kC_at (k := 7) (by decide)]; decide))
          have ga15859 := ga15842.of (h15853.2 (c + 8) (by rw [kC_at (k := 8) (by decide)]; decide))
          have ga15860 := ga15843.of (h15853.2 (c + 9) (by rw [kC_at (k := 9) (by decide)]; decide))
          have ga15861 := ga15844.of (h15853.2 (c + 11) (by rw [kC_at (k := 11) (by decide)]; decide))
          obtain ⟨rfl, rfl⟩ := hp
          refine m_aload_n F rfl e_X10_readLine_170 ?_
          refine m_dup F rfl e_X10_readLine_171 ?_
          refine r_getC F e_X10_readLine_172 fl_X10_202 h15854 (yd15845) ?_
          refine m_iconst F (v := 1) (by decide) e_X10_readLine_175 ?_
          refine m_iadd F e_X10_readLine_176 ?_
          refine Wm.topE (w := nI (ln3 + 1)) (nI_add ln3 1) ?_
          refine r_put F (g' := (⟨T, 0, u, h, P15766, L⟩ : RG)) e_X10_readLine_177 fp_X10_202 h15854 (by decide) ⟨_, rfl⟩ (fun _ _ _ _ q => q) (fun _ _ _ q => q) rfl rfl (by decide) (fun σ15862 h15863 g15864 g15865 f15866 => ?_)
          have ga15867 := ga15838.of (g15864 _ (by omega))
          have ga15868 := ga15839.of (g15864 _ (by omega))
          have ga15869 := ga15840.of (g15864 _ (by omega))
          have ga15870 := ga15841.of (g15864 _ (by omega))
          have ga15871 := ga15842.of (g15864 _ (by omega))
          have ga15872 := ga15843.of (g15864 _ (by omega))
          have ga15873 := ga15844.of (g15864 _ (by omega))
          have h15874 : HS V c _ [0, 2, 17, 18, 19, 20, 21, 22, 23] _ _ := ⟨HR.mono (Z' := Z) (by intro e; first | rfl | assumption | omega) h15863.1, h15863.2⟩
          exact m_vret F hQ e_X10_readLine_180 (⟨P15766, oP15766, (by unfold RP; omega), (by rw [eo15774]; show RM _ c n _ (stopS (tok t n) (j1, 1, j3, j4) nl3 nm3 np3 nc3 lc3 no3 sd3 md3 ln3); rw [stopS_1 (by decide)]; exact RM.l ((g15865 23 (by decide)).trans yd15850) ((g15865 24 (by decide)).trans yd15851) (by omega) (by omega) (by omega)), (fun S2 hS _ => by rw [eo15774] at hS; replace hS : stopS (tok t n) (j1, 1, j3, j4) nl3 nm3 np3 nc3 lc3 no3 sd3 md3 ln3 = .inr S2 := hS; rw [stopS_1 (by decide)] at hS; cases hS), h15874, rfl⟩)
        · refine r_getC F e_X10_readLine_154 fl_X10_110 h15765 (yd15791) ?_
          refine m_iconst F (v := 3) (by decide) e_X10_readLine_157 ?_
          refine m_icmp_eq F e_X10_readLine_158 (fun q => absurd q (by decide)) (fun _ => ?_)
          refine m_aload_n F rfl e_X10_readLine_161 ?_
          refine m_iconst F (v := 1) (by decide) e_X10_readLine_162 ?_
          refine r_callV F e_X10_readLine_163 (q_X10_wrongE (x_l X) V c T Z u h P15766 L _ _ 1 n j1 1 (nI j3) ln3 fp3 h15765.1 (hob) oP15766 (by omega) ⟨(yd15788), (yd15789), (yd15790), (yd15791), (yd15792), (yd15793), (yd15794)⟩ (by decide)) cb_X10_wrong ml_X10_150 im_X10_wrong se_X10_wrong h15765 rfl rfl (rest := []) rfl (Nat.le_of_ble_eq_true rfl) ⟨Nat.le_of_ble_eq_true rfl, Nat.le_of_ble_eq_true rfl⟩ ⟨Nat.le_of_ble_eq_true rfl, Nat.le_of_ble_eq_true rfl⟩ (fun r σ15875 hp => ?_)
          obtain ⟨h15876, hp⟩ := hp
          have h15877 := HS.trans h15765 h15876 (by decide)
          have ga15878 := ga15768.of (h15876.2 (c + 1) (by rw [kC_at (k := 1) (by decide)]; decide))
          have ga15879 := hN3.of (h15876.2 (c + 2) (by rw [kC_at (k := 2) (by decide)]; decide))
          have ga15880 := hM3.of (h15876.2 (c + 3) (by rw [kC_at (k := 3) (by decide)]; decide))
          have ga15881 := hK3.of (h15876.2 (c + 7) (by rw [kC_at (k := 7) (by decide)]; decide))
          have ga15882 := hF3.of (h15876.2 (c + 8) (by rw [kC_at (k := 8) (by decide)]; decide))
          have ga15883 := hG3.of (h15876.2 (c + 9) (by rw [kC_at (k := 9) (by decide)]; decide))
          have ga15884 := hQ3.of (h15876.2 (c + 11) (by rw [kC_at (k := 11) (by decide)]; decide))
          obtain ⟨hp, rfl⟩ := hp
          have hyd15885 := hp
          obtain ⟨yd15885, yd15886, yd15887, yd15888, yd15889, yd15890, yd15891⟩ := hyd15885
          refine m_aload_n F rfl e_X10_readLine_166 ?_
          refine r_callV F e_X10_readLine_167 (q_X10_goOnG (x_l X) V c T 0 u h P15766 L _ _  1 h15877.1 (hob) oP15766  (yd15890) (by decide)) cb_X10_goOn ml_X10_154 im_X10_goOn se_X10_goOn h15877 rfl rfl (rest := []) rfl (Nat.le_of_ble_eq_true rfl) ⟨Nat.le_of_ble_eq_true rfl, Nat.le_of_ble_eq_true rfl⟩ ⟨Nat.le_of_ble_eq_true rfl, Nat.le_of_ble_eq_true rfl⟩ (fun r σ15892 hp => ?_)
          obtain ⟨h15893, hp⟩ := hp
          have h15894 := HS.trans h15877 h15893 (by decide)
          have ga15895 := ga15878.of (h15893.2 (c + 1) (by rw [kC_at (k := 1) (by decide)]; decide))
          have ga15896 := ga15879.of (h15893.2 (c + 2) (by rw [kC_at (k := 2) (by decide)]; decide))
          have ga15897 := ga15880.of (h15893.2 (c + 3) (by rw [kC_at (k := 3) (by decide)]; decide))
          have ga15898 := ga15881.of (h15893.2 (c + 7) (by rw [kC_at (k := 7) (by decide)]; decide))
          have ga15899 := ga15882.of (h15893.2 (c + 8) (by rw [kC_at (k := 8) (by decide)]; decide))
          have ga15900 := ga15883.of (h15893.2 (c + 9) (by rw [kC_at (k := 9) (by decide)]; decide))
          have ga15901 := ga15884.of (h15893.2 (c + 11) (by rw [kC_at (k := 11) (by decide)]; decide))
          obtain ⟨rfl, rfl⟩ := hp
          refine m_aload_n F rfl e_X10_readLine_170 ?_
          refine m_dup F rfl e_X10_readLine_171 ?_
          refine r_getC F e_X10_readLine_172 fl_X10_202 h15894 (yd15885) ?_
          refine m_iconst F (v := 1) (by decide) e_X10_readLine_175 ?_
          refine m_iadd F e_X10_readLine_176 ?_
          refine Wm.topE (w := nI (ln3 + 1)) (nI_add ln3 1) ?_
          refine r_put F (g' := (⟨T, 0, u, h, P15766, L⟩ : RG)) e_X10_readLine_177 fp_X10_202 h15894 (by decide) ⟨_, rfl⟩ (fun _ _ _ _ q => q) (fun _ _ _ q => q) rfl rfl (by decide) (fun σ15902 h15903 g15904 g15905 f15906 => ?_)
          have ga15907 := ga15878.of (g15904 _ (by omega))
          have ga15908 := ga15879.of (g15904 _ (by omega))
          have ga15909 := ga15880.of (g15904 _ (by omega))
          have ga15910 := ga15881.of (g15904 _ (by omega))
          have ga15911 := ga15882.of (g15904 _ (by omega))
          have ga15912 := ga15883.of (g15904 _ (by omega))
          have ga15913 := ga15884.of (g15904 _ (by omega))
          have h15914 : HS V c _ [0, 2, 17, 18, 19, 20, 21, 22, 23] _ _ := ⟨HR.mono (Z' := Z) (by intro e; first | rfl | assumption | omega) h15903.1, h15903.2⟩
          exact m_vret F hQ e_X10_readLine_180 (⟨P15766, oP15766, (by unfold RP; omega), (by rw [eo15774]; show RM _ c n _ (stopS (tok t n) (j1, 2, j3, j4) nl3 nm3 np3 nc3 lc3 no3 sd3 md3 ln3); rw [stopS_1 (by decide)]; exact RM.l ((g15905 23 (by decide)).trans yd15890) ((g15905 24 (by decide)).trans yd15891) (by omega) (by omega) (by omega)), (fun S2 hS _ => by rw [eo15774] at hS; replace hS : stopS (tok t n) (j1, 2, j3, j4) nl3 nm3 np3 nc3 lc3 no3 sd3 md3 ln3 = .inr S2 := hS; rw [stopS_1 (by decide)] at hS; cases hS), h15914, rfl⟩)
        · refine r_getC F e_X10_readLine_154 fl_X10_110 h15765 (yd15791) ?_
          refine m_iconst F (v := 3) (by decide) e_X10_readLine_157 ?_
          refine m_icmp_eq F e_X10_readLine_158 (fun q => absurd q (by decide)) (fun _ => ?_)
          refine m_aload_n F rfl e_X10_readLine_161 ?_
          refine m_iconst F (v := 1) (by decide) e_X10_readLine_162 ?_
          refine r_callV F e_X10_readLine_163 (q_X10_wrongE (x_l X) V c T Z u h P15766 L _ _ 1 n j1 2 (nI w3) ln3 fp3 h15765.1 (hob) oP15766 (by omega) ⟨(yd15788), (yd15789), (yd15790), (yd15791), (yd15792), (yd15793), (yd15794)⟩ (by decide)) cb_X10_wrong ml_X10_150 im_X10_wrong se_X10_wrong h15765 rfl rfl (rest := []) rfl (Nat.le_of_ble_eq_true rfl) ⟨Nat.le_of_ble_eq_true rfl, Nat.le_of_ble_eq_true rfl⟩ ⟨Nat.le_of_ble_eq_true rfl, Nat.le_of_ble_eq_true rfl⟩ (fun r σ15915 hp => ?_)
          obtain ⟨h15916, hp⟩ := hp
          have h15917 := HS.trans h15765 h15916 (by decide)
          have ga15918 := ga15768.of (h15916.2 (c + 1) (by rw [kC_at (k := 1) (by decide)]; decide))
          have ga15919 := hN3.of (h15916.2 (c + 2) (by rw [kC_at (k := 2) (by decide)]; decide))
          have ga15920 := hM3.of (h15916.2 (c + 3) (by rw [kC_at (k := 3) (by decide)]; decide))
          have ga15921 := hK3.of (h15916.2 (c + 7) (by rw [kC_at (k := 7) (by decide)]; decide))
          have ga15922 := hF3.of (h15916.2 (c + 8) (by rw [kC_at (k := 8) (by decide)]; decide))
          have ga15923 := hG3.of (h15916.2 (c + 9) (by rw [kC_at (k := 9) (by decide)]; decide))
          have ga15924 := hQ3.of (h15916.2 (c + 11) (by rw [kC_at (k := 11) (by decide)]; decide))
          obtain ⟨hp, rfl⟩ := hp
          have hyd15925 := hp
          obtain ⟨yd15925, yd15926, yd15927, yd15928, yd15929, yd15930, yd15931⟩ := hyd15925
          refine m_aload_n F rfl e_X10_readLine_166 ?_
          refine r_callV F e_X10_readLine_167 (q_X10_goOnG (x_l X) V c T 0 u h P15766 L _ _  1 h15917.1 (hob) oP15766  (yd15930) (by decide)) cb_X10_goOn ml_X10_154 im_X10_goOn se_X10_goOn h15917 rfl rfl (rest := []) rfl (Nat.le_of_ble_eq_true rfl) ⟨Nat.le_of_ble_eq_true rfl, Nat.le_of_ble_eq_true rfl⟩ ⟨Nat.le_of_ble_eq_true rfl, Nat.le_of_ble_eq_true rfl⟩ (fun r σ15932 hp => ?_)
          obtain ⟨h15933, hp⟩ := hp
          have h15934 := HS.trans h15917 h15933 (by decide)
          have ga15935 := ga15918.of (h15933.2 (c + 1) (by rw [kC_at (k := 1) (by decide)]; decide))
          have ga15936 := ga15919.of (h15933.2 (c + 2) (by rw [kC_at (k := 2) (by decide)]; decide))
          have ga15937 := ga15920.of (h15933.2 (c + 3) (by rw [kC_at (k := 3) (by decide)]; decide))
          have ga15938 := ga15921.of (h15933.2 (c + 7) (by rw [kC_at (k := 7) (by decide)]; decide))
          have ga15939 := ga15922.of (h15933.2 (c + 8) (by rw [kC_at (k := 8) (by decide)]; decide))
          have ga15940 := ga15923.of (h15933.2 (c + 9) (by rw [kC_at (k := 9) (by decide)]; decide))
          have ga15941 := ga15924.of (h15933.2 (c + 11) (by rw [kC_at (k := 11) (by decide)]; decide))
          obtain ⟨rfl, rfl⟩ := hp
          refine m_aload_n F rfl e_X10_readLine_170 ?_
          refine m_dup F rfl e_X10_readLine_171 ?_
          refine r_getC F e_X10_readLine_172 fl_X10_202 h15934 (yd15925) ?_
          refine m_iconst F (v := 1) (by decide) e_X10_readLine_175 ?_
          refine m_iadd F e_X10_readLine_176 ?_
          refine Wm.topE (w := nI (ln3 + 1)) (nI_add ln3 1) ?_
          refine r_put F (g' := (⟨T, 0, u, h, P15766, L⟩ : RG)) e_X10_readLine_177 fp_X10_202 h15934 (by decide) ⟨_, rfl⟩ (fun _ _ _ _ q => q) (fun _ _ _ q => q) rfl rfl (by decide) (fun σ15942 h15943 g15944 g15945 f15946 => ?_)
          have ga15947 := ga15918.of (g15944 _ (by omega))
          have ga15948 := ga15919.of (g15944 _ (by omega))
          have ga15949 := ga15920.of (g15944 _ (by omega))
          have ga15950 := ga15921.of (g15944 _ (by omega))
          have ga15951 := ga15922.of (g15944 _ (by omega))
          have ga15952 := ga15923.of (g15944 _ (by omega))
          have ga15953 := ga15924.of (g15944 _ (by omega))
          have h15954 : HS V c _ [0, 2, 17, 18, 19, 20, 21, 22, 23] _ _ := ⟨HR.mono (Z' := Z) (by intro e; first | rfl | assumption | omega) h15943.1, h15943.2⟩
          exact m_vret F hQ e_X10_readLine_180 (⟨P15766, oP15766, (by unfold RP; omega), (by rw [eo15774]; show RM _ c n _ (stopS (tok t n) (j1, 3, j3, j4) nl3 nm3 np3 nc3 lc3 no3 sd3 md3 ln3); rw [stopS_1 (by decide)]; exact RM.l ((g15945 23 (by decide)).trans yd15930) ((g15945 24 (by decide)).trans yd15931) (by omega) (by omega) (by omega)), (fun S2 hS _ => by rw [eo15774] at hS; replace hS : stopS (tok t n) (j1, 3, j3, j4) nl3 nm3 np3 nc3 lc3 no3 sd3 md3 ln3 = .inr S2 := hS; rw [stopS_1 (by decide)] at hS; cases hS), h15954, rfl⟩)
        · refine r_getC F e_X10_readLine_154 fl_X10_110 h15765 (yd15791) ?_
          refine m_iconst F (v := 3) (by decide) e_X10_readLine_157 ?_
          refine m_icmp_eq F e_X10_readLine_158 (fun _ => ?_) (fun q => absurd (by decide) q)
          refine m_aload_n F rfl e_X10_readLine_166 ?_
          refine r_callV F e_X10_readLine_167 (q_X10_goOnE (x_l X) V c T Z u h P15766 L _ _  n j1 3 va3 ln3 fp3 t h15765.1 (hob) oP15766  ⟨(yd15788), (yd15789), (yd15790), (yd15791), (yd15792), (yd15793), (yd15794)⟩ ga15768 hn7 (by omega)) cb_X10_goOn ml_X10_154 im_X10_goOn se_X10_goOn h15765 rfl rfl (rest := []) rfl (Nat.le_of_ble_eq_true rfl) ⟨Nat.le_of_ble_eq_true rfl, Nat.le_of_ble_eq_true rfl⟩ ⟨Nat.le_of_ble_eq_true rfl, Nat.le_of_ble_eq_true rfl⟩ (fun r σ15955 hp => ?_)
          obtain ⟨P15958, oP15958, rP15958, pr15959, pr15960, h15956, hp⟩ := hp
          have h15957 := HS.trans h15765 h15956 (by decide)
          have xP15958 := oP15958
          unfold OKP at xP15958
          unfold RA at rP15958
          have ga15961 := ga15768.of (h15956.2 (c + 1) (by rw [kC_at (k := 1) (by decide)]; decide))
          have ga15962 := hN3.of (h15956.2 (c + 2) (by rw [kC_at (k := 2) (by decide)]; decide))
          have ga15963 := hM3.of (h15956.2 (c + 3) (by rw [kC_at (k := 3) (by decide)]; decide))
          have ga15964 := hK3.of (h15956.2 (c + 7) (by rw [kC_at (k := 7) (by decide)]; decide))
          have ga15965 := hF3.of (h15956.2 (c + 8) (by rw [kC_at (k := 8) (by decide)]; decide))
          have ga15966 := hG3.of (h15956.2 (c + 9) (by rw [kC_at (k := 9) (by decide)]; decide))
          have ga15967 := hQ3.of (h15956.2 (c + 11) (by rw [kC_at (k := 11) (by decide)]; decide))
          obtain rfl := hp
          rw [pa3] at pr15959 pr15960
          have b8 := tok_ok (t := t) (n := n) j4 c1
          obtain ⟨so15968, va15969, mt15970, yd15971⟩ := pr15960
          have hyd15972 := yd15971
          obtain ⟨yd15972, yd15973, yd15974, yd15975, yd15976, yd15977, yd15978⟩ := hyd15972
          refine m_aload_n F rfl e_X10_readLine_170 ?_
          refine m_dup F rfl e_X10_readLine_171 ?_
          refine r_getC F e_X10_readLine_172 fl_X10_202 h15957 (yd15972) ?_
          refine m_iconst F (v := 1) (by decide) e_X10_readLine_175 ?_
          refine m_iadd F e_X10_readLine_176 ?_
          refine Wm.topE (w := nI (ln3 + 1)) (nI_add ln3 1) ?_
          refine r_put F (g' := (⟨T, Z, u, h, P15958, L⟩ : RG)) e_X10_readLine_177 fp_X10_202 h15957 (by decide) ⟨_, rfl⟩ (fun _ _ _ _ q => q) (fun _ _ _ q => q) rfl rfl (by decide) (fun σ15979 h15980 g15981 g15982 f15983 => ?_)
          have ga15984 := ga15961.of (g15981 _ (by omega))
          have ga15985 := ga15962.of (g15981 _ (by omega))
          have ga15986 := ga15963.of (g15981 _ (by omega))
          have ga15987 := ga15964.of (g15981 _ (by omega))
          have ga15988 := ga15965.of (g15981 _ (by omega))
          have ga15989 := ga15966.of (g15981 _ (by omega))
          have ga15990 := ga15967.of (g15981 _ (by omega))
          exact m_vret F hQ e_X10_readLine_180 (⟨P15958, oP15958, (by unfold RP; omega), (by rw [eo15774]; show RM _ c n _ (stopS (tok t n) (j1, 4, j3, j4) nl3 nm3 np3 nc3 lc3 no3 sd3 md3 ln3); rw [stopS_ok]; exact RM.r mt15970 ⟨(f15983), ((g15982 18 (by decide)).trans yd15973), ((g15982 20 (by decide)).trans yd15974), ((g15982 21 (by decide)).trans yd15975), ((g15982 22 (by decide)).trans yd15976), ((g15982 23 (by decide)).trans yd15977), ((g15982 24 (by decide)).trans yd15978)⟩ (by omega) (by omega) (by omega) ga15985 ga15986 ga15987 ga15988 ga15989 ga15990 (by omega) (by omega) (by omega) (by omega) (by omega)), (fun S2 hS hz => by rw [eo15774] at hS; replace hS : stopS (tok t n) (j1, 4, j3, j4) nl3 nm3 np3 nc3 lc3 no3 sd3 md3 ln3 = .inr S2 := hS; rw [stopS_ok] at hS; cases hS; replace hz : (tok t n j4).2.1 ≠ 0 := hz; have h8 := b8.2.2.2 hz; omega), h15980, rfl⟩)
        · refine r_getC F e_X10_readLine_154 fl_X10_110 h15765 (yd15791) ?_
          refine m_iconst F (v := 3) (by decide) e_X10_readLine_157 ?_
          refine m_icmp_eq F e_X10_readLine_158 (fun q => absurd q (by decide)) (fun _ => ?_)
          refine m_aload_n F rfl e_X10_readLine_161 ?_
          refine m_iconst F (v := 1) (by decide) e_X10_readLine_162 ?_
          refine r_callV F e_X10_readLine_163 (q_X10_wrongE (x_l X) V c T Z u h P15766 L _ _ 1 n j1 5 va3 ln3 fp3 h15765.1 (hob) oP15766 (by omega) ⟨(yd15788), (yd15789), (yd15790), (yd15791), (yd15792), (yd15793), (yd15794)⟩ (by decide)) cb_X10_wrong ml_X10_150 im_X10_wrong se_X10_wrong h15765 rfl rfl (rest := []) rfl (Nat.le_of_ble_eq_true rfl) ⟨Nat.le_of_ble_eq_true rfl, Nat.le_of_ble_eq_true rfl⟩ ⟨Nat.le_of_ble_eq_true rfl, Nat.le_of_ble_eq_true rfl⟩ (fun r σ15991 hp => ?_)
          obtain ⟨h15992, hp⟩ := hp
          have h15993 := HS.trans h15765 h15992 (by decide)
          have ga15994 := ga15768.of (h15992.2 (c + 1) (by rw [kC_at (k := 1) (by decide)]; decide))
          have ga15995 := hN3.of (h15992.2 (c + 2) (by rw [kC_at (k := 2) (by decide)]; decide))
          have ga15996 := hM3.of (h15992.2 (c + 3) (by rw [kC_at (k := 3) (by decide)]; decide))
          have ga15997 := hK3.of (h15992.2 (c + 7) (by rw [kC_at (k := 7) (by decide)]; decide))
          have ga15998 := hF3.of (h15992.2 (c + 8) (by rw [kC_at (k := 8) (by decide)]; decide))
          have ga15999 := hG3.of (h15992.2 (c + 9) (by rw [kC_at (k := 9) (by decide)]; decide))
          have ga16000 := hQ3.of (h15992.2 (c + 11) (by rw [kC_at (k := 11) (by decide)]; decide))
          obtain ⟨hp, rfl⟩ := hp
          have hyd16001 := hp
          obtain ⟨yd16001, yd16002, yd16003, yd16004, yd16005, yd16006, yd16007⟩ := hyd16001
          refine m_aload_n F rfl e_X10_readLine_166 ?_
          refine r_callV F e_X10_readLine_167 (q_X10_goOnG (x_l X) V c T 0 u h P15766 L _ _  1 h15993.1 (hob) oP15766  (yd16006) (by decide)) cb_X10_goOn ml_X10_154 im_X10_goOn se_X10_goOn h15993 rfl rfl (rest := []) rfl (Nat.le_of_ble_eq_true rfl) ⟨Nat.le_of_ble_eq_true rfl, Nat.le_of_ble_eq_true rfl⟩ ⟨Nat.le_of_ble_eq_true rfl, Nat.le_of_ble_eq_true rfl⟩ (fun r σ16008 hp => ?_)
          obtain ⟨h16009, hp⟩ := hp
          have h16010 := HS.trans h15993 h16009 (by decide)
          have ga16011 := ga15994.of (h16009.2 (c + 1) (by rw [kC_at (k := 1) (by decide)]; decide))
          have ga16012 := ga15995.of (h16009.2 (c + 2) (by rw [kC_at (k := 2) (by decide)]; decide))
          have ga16013 := ga15996.of (h16009.2 (c + 3) (by rw [kC_at (k := 3) (by decide)]; decide))
          have ga16014 := ga15997.of (h16009.2 (c + 7) (by rw [kC_at (k := 7) (by decide)]; decide))
          have ga16015 := ga15998.of (h16009.2 (c + 8) (by rw [kC_at (k := 8) (by decide)]; decide))
          have ga16016 := ga15999.of (h16009.2 (c + 9) (by rw [kC_at (k := 9) (by decide)]; decide))
          have ga16017 := ga16000.of (h16009.2 (c + 11) (by rw [kC_at (k := 11) (by decide)]; decide))
          obtain ⟨rfl, rfl⟩ := hp
          refine m_aload_n F rfl e_X10_readLine_170 ?_
          refine m_dup F rfl e_X10_readLine_171 ?_
          refine r_getC F e_X10_readLine_172 fl_X10_202 h16010 (yd16001) ?_
          refine m_iconst F (v := 1) (by decide) e_X10_readLine_175 ?_
          refine m_iadd F e_X10_readLine_176 ?_
          refine Wm.topE (w := nI (ln3 + 1)) (nI_add ln3 1) ?_
          refine r_put F (g' := (⟨T, 0, u, h, P15766, L⟩ : RG)) e_X10_readLine_177 fp_X10_202 h16010 (by decide) ⟨_, rfl⟩ (fun _ _ _ _ q => q) (fun _ _ _ q => q) rfl rfl (by decide) (fun σ16018 h16019 g16020 g16021 f16022 => ?_)
          have ga16023 := ga15994.of (g16020 _ (by omega))
          have ga16024 := ga15995.of (g16020 _ (by omega))
          have ga16025 := ga15996.of (g16020 _ (by omega))
          have ga16026 := ga15997.of (g16020 _ (by omega))
          have ga16027 := ga15998.of (g16020 _ (by omega))
          have ga16028 := ga15999.of (g16020 _ (by omega))
          have ga16029 := ga16000.of (g16020 _ (by omega))
          have h16030 : HS V c _ [0, 2, 17, 18, 19, 20, 21, 22, 23] _ _ := ⟨HR.mono (Z' := Z) (by intro e; first | rfl | assumption | omega) h16019.1, h16019.2⟩
          exact m_vret F hQ e_X10_readLine_180 (⟨P15766, oP15766, (by unfold RP; omega), (by rw [eo15774]; show RM _ c n _ (stopS (tok t n) (j1, 5, j3, j4) nl3 nm3 np3 nc3 lc3 no3 sd3 md3 ln3); rw [stopS_1 (by decide)]; exact RM.l ((g16021 23 (by decide)).trans yd16006) ((g16021 24 (by decide)).trans yd16007) (by omega) (by omega) (by omega)), (fun S2 hS _ => by rw [eo15774] at hS; replace hS : stopS (tok t n) (j1, 5, j3, j4) nl3 nm3 np3 nc3 lc3 no3 sd3 md3 ln3 = .inr S2 := hS; rw [stopS_1 (by decide)] at hS; cases hS), h16030, rfl⟩)
    · refine r_getC F e_X10_readLine_1 fl_X10_110 h1 (yd14109) ?_
      refine m_if_eq F e_X10_readLine_4 (fun _ => ?_) (fun q => absurd (by decide) q)
      refine m_aload_n F rfl e_X10_readLine_15 ?_
      refine r_getC F e_X10_readLine_16 fl_X10_120 h1 (yd14110) ?_
      refine m_if_ne F e_X10_readLine_19 (fun _ => ?_) (fun q => absurd q (by decide))
      refine m_aload_n F rfl e_X10_readLine_29 ?_
      refine r_getC F e_X10_readLine_30 fl_X10_120 h1 (yd14110) ?_
      refine m_iconst F (v := 1) (by decide) e_X10_readLine_33 ?_
      refine m_icmp_ne F e_X10_readLine_34 (fun _ => ?_) (fun q => absurd q (by decide))
      refine m_aload_n F rfl e_X10_readLine_44 ?_
      refine r_getC F e_X10_readLine_45 fl_X10_120 h1 (yd14110) ?_
      refine m_iconst F (v := 2) (by decide) e_X10_readLine_48 ?_
      refine m_icmp_eq F e_X10_readLine_49 (fun q => absurd q (by decide)) (fun _ => ?_)
      refine m_aload_n F rfl e_X10_readLine_52 ?_
      refine r_getC F e_X10_readLine_53 fl_X10_120 h1 (yd14110) ?_
      refine m_iconst F (v := 5) (by decide) e_X10_readLine_56 ?_
      refine m_icmp_ne F e_X10_readLine_57 (fun _ => ?_) (fun q => absurd q (by decide))
      refine m_aload_n F rfl e_X10_readLine_80 ?_
      refine r_getC F e_X10_readLine_81 fl_X10_120 h1 (yd14110) ?_
      refine m_iconst F (v := 3) (by decide) e_X10_readLine_84 ?_
      refine m_icmp_ne F e_X10_readLine_85 (fun _ => ?_) (fun q => absurd q (by decide))
      refine m_aload_n F rfl e_X10_readLine_95 ?_
      refine r_getC F e_X10_readLine_96 fl_X10_120 h1 (yd14110) ?_
      refine m_iconst F (v := 4) (by decide) e_X10_readLine_99 ?_
      refine m_icmp_ne F e_X10_readLine_100 (fun _ => ?_) (fun q => absurd q (by decide))
      refine m_aload_n F rfl e_X10_readLine_110 ?_
      refine r_getC F e_X10_readLine_111 fl_X10_120 h1 (yd14110) ?_
      refine m_bipush F (v := 6) (by decide) e_X10_readLine_114 ?_
      refine m_icmp_ne F e_X10_readLine_116 (fun _ => ?_) (fun q => absurd q (by decide))
      refine m_aload_n F rfl e_X10_readLine_126 ?_
      refine r_getC F e_X10_readLine_127 fl_X10_120 h1 (yd14110) ?_
      refine m_bipush F (v := 7) (by decide) e_X10_readLine_130 ?_
      refine m_icmp_ne F e_X10_readLine_132 (fun q => absurd (by decide) q) (fun _ => ?_)
      refine m_aload_n F rfl e_X10_readLine_135 ?_
      refine r_callV F e_X10_readLine_136 (q_X10_readOptionE (x_l X) V c T Z u h P L _ _  n st 0 7 ln fp t 1 7 nm np lc no sd md h1.1 (hob) hP  ⟨(yd14106), (yd14107), (yd14108), (yd14109), (yd14110), (yd14111), (yd14112)⟩ hp1 hn7 (by omega) hp4 hp5 hp6 hp7 hp8 hp9 hp10 hp11 hp12 hp13 hp14) cb_X10_readOption ml_X10_196 im_X10_readOption se_X10_readOption h1 rfl rfl (rest := []) rfl (Nat.le_of_ble_eq_true rfl) ⟨Nat.le_of_ble_eq_true rfl, Nat.le_of_ble_eq_true rfl⟩ ⟨Nat.le_of_ble_eq_true rfl, Nat.le_of_ble_eq_true rfl⟩ (fun r σ16031 hp => ?_)
      obtain ⟨P16034, oP16034, rP16034, pr16035, h16032, hp⟩ := hp
      have h16033 := HS.trans h1 h16032 (by decide)
      have xP16034 := oP16034
      unfold OKP at xP16034
      unfold RP at rP16034
      have ga16036 := hp1.of (h16032.2 (c + 1) (by rw [kC_at (k := 1) (by decide)]; decide))
      have ga16037 := hp7.of (h16032.2 (c + 3) (by rw [kC_at (k := 3) (by decide)]; decide))
      have ga16038 := hp8.of (h16032.2 (c + 7) (by rw [kC_at (k := 7) (by decide)]; decide))
      have ga16039 := hp9.of (h16032.2 (c + 8) (by rw [kC_at (k := 8) (by decide)]; decide))
      have ga16040 := hp10.of (h16032.2 (c + 9) (by rw [kC_at (k := 9) (by decide)]; decide))
      have ga16041 := hp11.of (h16032.2 (c + 11) (by rw [kC_at (k := 11) (by decide)]; decide))
      obtain rfl := hp
      have rm16042 : RM σ16031 c n P16034 (lineS (tok t n) (st, 1, 7, P.a) P.n5 nm np P.n7 lc no sd md ln) := by rw [lineS_7]; exact pr16035
      cases eo16043 : lineS (tok t n) (st, 1, 7, P.a) P.n5 nm np P.n7 lc no sd md ln with
      | inl e8 =>
        rw [eo16043] at rm16042
        obtain ⟨⟨fa16044, fb16045⟩, c1, c2, c3⟩ := rm16042
        have nz8 : nI e8.1 ≠ 0 := fun e => absurd (nI_inj9 (b := 0) (by omega) (by omega) e) (by omega)
        refine m_goto F e_X10_readLine_139 ?_
        refine m_aload_n F rfl e_X10_readLine_146 ?_
        refine r_getC F e_X10_readLine_147 fl_X10_141 h16033 (fa16044) ?_
        refine m_if_ne F e_X10_readLine_150 (fun q150 => ?_) (fun q150 => ?_)
        · have c150 : e8.1 ≠ 0 := by have hh := mt (nI_eq (a := e8.1) (b := 0) (by omega) (by omega)).mpr q150; omega
          refine m_aload_n F rfl e_X10_readLine_166 ?_
          refine r_callV F e_X10_readLine_167 (q_X10_goOnG (x_l X) V c T Z u h P16034 L _ _  (nI e8.1) h16033.1 (hob) oP16034  (fa16044) (by assumption)) cb_X10_goOn ml_X10_154 im_X10_goOn se_X10_goOn h16033 rfl rfl (rest := []) rfl (Nat.le_of_ble_eq_true rfl) ⟨Nat.le_of_ble_eq_true rfl, Nat.le_of_ble_eq_true rfl⟩ ⟨Nat.le_of_ble_eq_true rfl, Nat.le_of_ble_eq_true rfl⟩ (fun r σ16046 hp => ?_)
          obtain ⟨h16047, hp⟩ := hp
          have h16048 := HS.trans h16033 h16047 (by decide)
          obtain ⟨rfl, rfl⟩ := hp
          refine m_aload_n F rfl e_X10_readLine_170 ?_
          refine m_dup F rfl e_X10_readLine_171 ?_
          refine r_get F e_X10_readLine_172 fl_X10_202 h16048 rfl (fun v hv f16049 => ?_)
          obtain ⟨x16050, rfl⟩ := hv
          refine m_iconst F (v := 1) (by decide) e_X10_readLine_175 ?_
          refine m_iadd F e_X10_readLine_176 ?_
          refine Wm.top (fun x16051 _ => ?_)
          refine r_put F (g' := (⟨T, Z, u, h, P16034, L⟩ : RG)) e_X10_readLine_177 fp_X10_202 h16048 (by decide) ⟨_, rfl⟩ (fun _ _ _ _ q => q) (fun _ _ _ q => q) rfl rfl (by decide) (fun σ16052 h16053 g16054 g16055 f16056 => ?_)
          exact m_vret F hQ e_X10_readLine_180 (⟨P16034, oP16034, (by unfold RP; omega), (by rw [eo16043]; show RM _ c n _ (.inl e8); exact RM.l ((g16055 23 (by decide)).trans fa16044) ((g16055 24 (by decide)).trans fb16045) (by omega) (by omega) (by omega)), (fun S2 hS _ => by rw [eo16043] at hS; cases hS), h16053, rfl⟩)
        · have c150 : e8.1 = 0 := (nI_eq (a := e8.1) (b := 0) (by omega) (by omega)).mp q150
          exact absurd q150 nz8
      | inr S1 =>
        rw [eo16043] at rm16042
        obtain ⟨⟨j1, j2, j3, j4⟩, nl3, nm3, np3, nc3, lc3, no3, sd3, md3, ln3⟩ := S1
        obtain ⟨so3, va3, fp3, mt3, yd3, ⟨pa3, p53, p73⟩, hN3, hM3, hK3, hF3, hG3, hQ3, c1, c2, c3, c4, c5⟩ := rm16042
        replace pa3 : _ = j4 := pa3
        replace c1 : j4 ≤ n := c1
        replace c2 : j1 ≤ n := c2
        have hyd16057 := yd3
        obtain ⟨yd16057, yd16058, yd16059, yd16060, yd16061, yd16062, yd16063⟩ := hyd16057
        refine m_goto F e_X10_readLine_139 ?_
        refine m_aload_n F rfl e_X10_readLine_146 ?_
        refine r_getC F e_X10_readLine_147 fl_X10_141 h16033 (yd16062) ?_
        refine m_if_ne F e_X10_readLine_150 (fun q => absurd (by decide) q) (fun _ => ?_)
        refine m_aload_n F rfl e_X10_readLine_153 ?_
        have hmt := mt3
        rcases hmt with ⟨rfl, rfl⟩ | ⟨rfl, rfl, rfl, hv3⟩ | ⟨rfl, rfl, rfl, hv3⟩ | ⟨rfl, rfl, w3, hw3, rfl, hm3⟩ | ⟨rfl, rfl⟩ | ⟨rfl, rfl⟩
        · refine r_getC F e_X10_readLine_154 fl_X10_110 h16033 (yd16060) ?_
          refine m_iconst F (v := 3) (by decide) e_X10_readLine_157 ?_
          refine m_icmp_eq F e_X10_readLine_158 (fun q => absurd q (by decide)) (fun _ => ?_)
          refine m_aload_n F rfl e_X10_readLine_161 ?_
          refine m_iconst F (v := 1) (by decide) e_X10_readLine_162 ?_
          refine r_callV F e_X10_readLine_163 (q_X10_wrongE (x_l X) V c T Z u h P16034 L _ _ 1 n j1 4 va3 ln3 fp3 h16033.1 (hob) oP16034 (by omega) ⟨(yd16057), (yd16058), (yd16059), (yd16060), (yd16061), (yd16062), (yd16063)⟩ (by decide)) cb_X10_wrong ml_X10_150 im_X10_wrong se_X10_wrong h16033 rfl rfl (rest := []) rfl (Nat.le_of_ble_eq_true rfl) ⟨Nat.le_of_ble_eq_true rfl, Nat.le_of_ble_eq_true rfl⟩ ⟨Nat.le_of_ble_eq_true rfl, Nat.le_of_ble_eq_true rfl⟩ (fun r σ16064 hp => ?_)
          obtain ⟨h16065, hp⟩ := hp
          have h16066 := HS.trans h16033 h16065 (by decide)
          have ga16067 := ga16036.of (h16065.2 (c + 1) (by rw [kC_at (k := 1) (by decide)]; decide))
          have ga16068 := hN3.of (h16065.2 (c + 2) (by rw [kC_at (k := 2) (by decide)]; decide))
          have ga16069 := hM3.of (h16065.2 (c + 3) (by rw [kC_at (k := 3) (by decide)]; decide))
          have ga16070 := hK3.of (h16065.2 (c + 7) (by rw [kC_at (k := 7) (by decide)]; decide))
          have ga16071 := hF3.of (h16065.2 (c + 8) (by rw [kC_at (k := 8) (by decide)]; decide))
          have ga16072 := hG3.of (h16065.2 (c + 9) (by rw [kC_at (k := 9) (by decide)]; decide))
          have ga16073 := hQ3.of (h16065.2 (c + 11) (by rw [kC_at (k := 11) (by decide)]; decide))
          obtain ⟨hp, rfl⟩ := hp
          have hyd16074 := hp
          obtain ⟨yd16074, yd16075, yd16076, yd16077, yd16078, yd16079, yd16080⟩ := hyd16074
          refine m_aload_n F rfl e_X10_readLine_166 ?_
          refine r_callV F e_X10_readLine_167 (q_X10_goOnG (x_l X) V c T 0 u h P16034 L _ _  1 h16066.1 (hob) oP16034  (yd16079) (by decide)) cb_X10_goOn ml_X10_154 im_X10_goOn se_X10_goOn h16066 rfl rfl (rest := []) rfl (Nat.le_of_ble_eq_true rfl) ⟨Nat.le_of_ble_eq_true rfl, Nat.le_of_ble_eq_true rfl⟩ ⟨Nat.le_of_ble_eq_true rfl, Nat.le_of_ble_eq_true rfl⟩ (fun r σ16081 hp => ?_)
          obtain ⟨h16082, hp⟩ := hp
          have h16083 := HS.trans h16066 h16082 (by decide)
          have ga16084 := ga16067.of (h16082.2 (c + 1) (by rw [kC_at (k := 1) (by decide)]; decide))
          have ga16085 := ga16068.of (h16082.2 (c + 2) (by rw [kC_at (k := 2) (by decide)]; decide))
          have ga16086 := ga16069.of (h16082.2 (c + 3) (by rw [kC_at (k := 3) (by decide)]; decide))
          have ga16087 := ga16070.of (h16082.2 (c + 7) (by rw [kC_at (k := 7) (by decide)]; decide))
          have ga16088 := ga16071.of (h16082.2 (c + 8) (by rw [kC_at (k := 8) (by decide)]; decide))
          have ga16089 := ga16072.of (h16082.2 (c + 9) (by rw [kC_at (k := 9) (by decide)]; decide))
          have ga16090 := ga16073.of (h16082.2 (c + 11) (by rw [kC_at (k := 11) (by decide)]; decide))
          obtain ⟨rfl, rfl⟩ := hp
          refine m_aload_n F rfl e_X10_readLine_170 ?_
          refine m_dup F rfl e_X10_readLine_171 ?_
          refine r_getC F e_X10_readLine_172 fl_X10_202 h16083 (yd16074) ?_
          refine m_iconst F (v := 1) (by decide) e_X10_readLine_175 ?_
          refine m_iadd F e_X10_readLine_176 ?_
          refine Wm.topE (w := nI (ln3 + 1)) (nI_add ln3 1) ?_
          refine r_put F (g' := (⟨T, 0, u, h, P16034, L⟩ : RG)) e_X10_readLine_177 fp_X10_202 h16083 (by decide) ⟨_, rfl⟩ (fun _ _ _ _ q => q) (fun _ _ _ q => q) rfl rfl (by decide) (fun σ16091 h16092 g16093 g16094 f16095 => ?_)
          have ga16096 := ga16067.of (g16093 _ (by omega))
          have ga16097 := ga16068.of (g16093 _ (by omega))
          have ga16098 := ga16069.of (g16093 _ (by omega))
          have ga16099 := ga16070.of (g16093 _ (by omega))
          have ga16100 := ga16071.of (g16093 _ (by omega))
          have ga16101 := ga16072.of (g16093 _ (by omega))
          have ga16102 := ga16073.of (g16093 _ (by omega))
          have h16103 : HS V c _ [0, 2, 17, 18, 19, 20, 21, 22, 23] _ _ := ⟨HR.mono (Z' := Z) (by intro e; first | rfl | assumption | omega) h16092.1, h16092.2⟩
          exact m_vret F hQ e_X10_readLine_180 (⟨P16034, oP16034, (by unfold RP; omega), (by rw [eo16043]; show RM _ c n _ (stopS (tok t n) (j1, 0, j3, j4) nl3 nm3 np3 nc3 lc3 no3 sd3 md3 ln3); rw [stopS_1 (by decide)]; exact RM.l ((g16094 23 (by decide)).trans yd16079) ((g16094 24 (by decide)).trans yd16080) (by omega) (by omega) (by omega)), (fun S2 hS _ => by rw [eo16043] at hS; replace hS : stopS (tok t n) (j1, 0, j3, j4) nl3 nm3 np3 nc3 lc3 no3 sd3 md3 ln3 = .inr S2 := hS; rw [stopS_1 (by decide)] at hS; cases hS), h16103, rfl⟩)
        · refine r_getC F e_X10_readLine_154 fl_X10_110 h16033 (yd16060) ?_
          refine m_iconst F (v := 3) (by decide) e_X10_readLine_157 ?_
          refine m_icmp_eq F e_X10_readLine_158 (fun q => absurd q (by decide)) (fun _ => ?_)
          refine m_aload_n F rfl e_X10_readLine_161 ?_
          refine m_iconst F (v := 1) (by decide) e_X10_readLine_162 ?_
          refine r_callV F e_X10_readLine_163 (q_X10_wrongE (x_l X) V c T Z u h P16034 L _ _ 1 n j1 0 (nI j3) ln3 fp3 h16033.1 (hob) oP16034 (by omega) ⟨(yd16057), (yd16058), (yd16059), (yd16060), (yd16061), (yd16062), (yd16063)⟩ (by decide)) cb_X10_wrong ml_X10_150 im_X10_wrong se_X10_wrong h16033 rfl rfl (rest := []) rfl (Nat.le_of_ble_eq_true rfl) ⟨Nat.le_of_ble_eq_true rfl, Nat.le_of_ble_eq_true rfl⟩ ⟨Nat.le_of_ble_eq_true rfl, Nat.le_of_ble_eq_true rfl⟩ (fun r σ16104 hp => ?_)
          obtain ⟨h16105, hp⟩ := hp
          have h16106 := HS.trans h16033 h16105 (by decide)
          have ga16107 := ga16036.of (h16105.2 (c + 1) (by rw [kC_at (k := 1) (by decide)]; decide))
          have ga16108 := hN3.of (h16105.2 (c + 2) (by rw [kC_at (k := 2) (by decide)]; decide))
          have ga16109 := hM3.of (h16105.2 (c + 3) (by rw [kC_at (k := 3) (by decide)]; decide))
          have ga16110 := hK3.of (h16105.2 (c + 7) (by rw [kC_at (k := 7) (by decide)]; decide))
          have ga16111 := hF3.of (h16105.2 (c + 8) (by rw [kC_at (k := 8) (by decide)]; decide))
          have ga16112 := hG3.of (h16105.2 (c + 9) (by rw [kC_at (k := 9) (by decide)]; decide))
          have ga16113 := hQ3.of (h16105.2 (c + 11) (by rw [kC_at (k := 11) (by decide)]; decide))
          obtain ⟨hp, rfl⟩ := hp
          have hyd16114 := hp
          obtain ⟨yd16114, yd16115, yd16116, yd16117, yd16118, yd16119, yd16120⟩ := hyd16114
          refine m_aload_n F rfl e_X10_readLine_166 ?_
          refine r_callV F e_X10_readLine_167 (q_X10_goOnG (x_l X) V c T 0 u h P16034 L _ _  1 h16106.1 (hob) oP16034  (yd16119) (by decide)) cb_X10_goOn ml_X10_154 im_X10_goOn se_X10_goOn h16106 rfl rfl (rest := []) rfl (Nat.le_of_ble_eq_true rfl) ⟨Nat.le_of_ble_eq_true rfl, Nat.le_of_ble_eq_true rfl⟩ ⟨Nat.le_of_ble_eq_true rfl, Nat.le_of_ble_eq_true rfl⟩ (fun r σ16121 hp => ?_)
          obtain ⟨h16122, hp⟩ := hp
          have h16123 := HS.trans h16106 h16122 (by decide)
          have ga16124 := ga16107.of (h16122.2 (c + 1) (by rw [kC_at (k := 1) (by decide)]; decide))
          have ga16125 := ga16108.of (h16122.2 (c + 2) (by rw [kC_at (k := 2) (by decide)]; decide))
          have ga16126 := ga16109.of (h16122.2 (c + 3) (by rw [kC_at (k := 3) (by decide)]; decide))
          have ga16127 := ga16110.of (h16122.2 (c + 7) (by rw [kC_at (k := 7) (by decide)]; decide))
          have ga16128 := ga16111.of (h16122.2 (c + 8) (by rw [kC_at (k := 8) (by decide)]; decide))
          have ga16129 := ga16112.of (h16122.2 (c + 9) (by rw [kC_at (k := 9) (by decide)]; decide))
          have ga16130 := ga16113.of (h16122.2 (c + 11) (by rw [kC_at (k := 11) (by decide)]; decide))
          obtain ⟨rfl, rfl⟩ := hp
          refine m_aload_n F rfl e_X10_readLine_170 ?_
          refine m_dup F rfl e_X10_readLine_171 ?_
          refine r_getC F e_X10_readLine_172 fl_X10_202 h16123 (yd16114) ?_
          refine m_iconst F (v := 1) (by decide) e_X10_readLine_175 ?_
          refine m_iadd F e_X10_readLine_176 ?_
          refine Wm.topE (w := nI (ln3 + 1)) (nI_add ln3 1) ?_
          refine r_put F (g' := (⟨T, 0, u, h, P16034, L⟩ : RG)) e_X10_readLine_177 fp_X10_202 h16123 (by decide) ⟨_, rfl⟩ (fun _ _ _ _ q => q) (fun _ _ _ q => q) rfl rfl (by decide) (fun σ16131 h16132 g16133 g16134 f16135 => ?_)
          have ga16136 := ga16107.of (g16133 _ (by omega))
          have ga16137 := ga16108.of (g16133 _ (by omega))
          have ga16138 := ga16109.of (g16133 _ (by omega))
          have ga16139 := ga16110.of (g16133 _ (by omega))
          have ga16140 := ga16111.of (g16133 _ (by omega))
          have ga16141 := ga16112.of (g16133 _ (by omega))
          have ga16142 := ga16113.of (g16133 _ (by omega))
          have h16143 : HS V c _ [0, 2, 17, 18, 19, 20, 21, 22, 23] _ _ := ⟨HR.mono (Z' := Z) (by intro e; first | rfl | assumption | omega) h16132.1, h16132.2⟩
          exact m_vret F hQ e_X10_readLine_180 (⟨P16034, oP16034, (by unfold RP; omega), (by rw [eo16043]; show RM _ c n _ (stopS (tok t n) (j1, 1, j3, j4) nl3 nm3 np3 nc3 lc3 no3 sd3 md3 ln3); rw [stopS_1 (by decide)]; exact RM.l ((g16134 23 (by decide)).trans yd16119) ((g16134 24 (by decide)).trans yd16120) (by omega) (by omega) (by omega)), (fun S2 hS _ => by rw [eo16043] at hS; replace hS : stopS (tok t n) (j1, 1, j3, j4) nl3 nm3 np3 nc3 lc3 no3 sd3 md3 ln3 = .inr S2 := hS; rw [stopS_1 (by decide)] at hS; cases hS), h16143, rfl⟩)
        · refine r_getC F e_X10_readLine_154 fl_X10_110 h16033 (yd16060) ?_
          refine m_iconst F (v := 3) (by decide) e_X10_readLine_157 ?_
          refine m_icmp_eq F e_X10_readLine_158 (fun q => absurd q (by decide)) (fun _ => ?_)
          refine m_aload_n F rfl e_X10_readLine_161 ?_
          refine m_iconst F (v := 1) (by decide) e_X10_readLine_162 ?_
          refine r_callV F e_X10_readLine_163 (q_X10_wrongE (x_l X) V c T Z u h P16034 L _ _ 1 n j1 1 (nI j3) ln3 fp3 h16033.1 (hob) oP16034 (by omega) ⟨(yd16057), (yd16058), (yd16059), (yd16060), (yd16061), (yd16062), (yd16063)⟩ (by decide)) cb_X10_wrong ml_X10_150 im_X10_wrong se_X10_wrong h16033 rfl rfl (rest := []) rfl (Nat.le_of_ble_eq_true rfl) ⟨Nat.le_of_ble_eq_true rfl, Nat.le_of_ble_eq_true rfl⟩ ⟨Nat.le_of_ble_eq_true rfl, Nat.le_of_ble_eq_true rfl⟩ (fun r σ16144 hp => ?_)
          obtain ⟨h16145, hp⟩ := hp
          have h16146 := HS.trans h16033 h16145 (by decide)
          have ga16147 := ga16036.of (h16145.2 (c + 1) (by rw [kC_at (k := 1) (by decide)]; decide))
          have ga16148 := hN3.of (h16145.2 (c + 2) (by rw [kC_at (k := 2) (by decide)]; decide))
          have ga16149 := hM3.of (h16145.2 (c + 3) (by rw [kC_at (k := 3) (by decide)]; decide))
          have ga16150 := hK3.of (h16145.2 (c + 7) (by rw [kC_at (k := 7) (by decide)]; decide))
          have ga16151 := hF3.of (h16145.2 (c + 8) (by rw [kC_at (k := 8) (by decide)]; decide))
          have ga16152 := hG3.of (h16145.2 (c + 9) (by rw [kC_at (k := 9) (by decide)]; decide))
          have ga16153 := hQ3.of (h16145.2 (c + 11) (by rw [kC_at (k := 11) (by decide)]; decide))
          obtain ⟨hp, rfl⟩ := hp
          have hyd16154 := hp
          obtain ⟨yd16154, yd16155, yd16156, yd16157, yd16158, yd16159, yd16160⟩ := hyd16154
          refine m_aload_n F rfl e_X10_readLine_166 ?_
          refine r_callV F e_X10_readLine_167 (q_X10_goOnG (x_l X) V c T 0 u h P16034 L _ _  1 h16146.1 (hob) oP16034  (yd16159) (by decide)) cb_X10_goOn ml_X10_154 im_X10_goOn se_X10_goOn h16146 rfl rfl (rest := []) rfl (Nat.le_of_ble_eq_true rfl) ⟨Nat.le_of_ble_eq_true rfl, Nat.le_of_ble_eq_true rfl⟩ ⟨Nat.le_of_ble_eq_true rfl, Nat.le_of_ble_eq_true rfl⟩ (fun r σ16161 hp => ?_)
          obtain ⟨h16162, hp⟩ := hp
          have h16163 := HS.trans h16146 h16162 (by decide)
          have ga16164 := ga16147.of (h16162.2 (c + 1) (by rw [kC_at (k := 1) (by decide)]; decide))
          have ga16165 := ga16148.of (h16162.2 (c + 2) (by rw [kC_at (k := 2) (by decide)]; decide))
          have ga16166 := ga16149.of (h16162.2 (c + 3) (by rw [kC_at (k := 3) (by decide)]; decide))
          have ga16167 := ga16150.of (h16162.2 (c + 7) (by rw [kC_at (k := 7) (by decide)]; decide))
          have ga16168 := ga16151.of (h16162.2 (c + 8) (by rw [kC_at (k := 8) (by decide)]; decide))
          have ga16169 := ga16152.of (h16162.2 (c + 9) (by rw [kC_at (k := 9) (by decide)]; decide))
          have ga16170 := ga16153.of (h16162.2 (c + 11) (by rw [kC_at (k := 11) (by decide)]; decide))
          obtain ⟨rfl, rfl⟩ := hp
          refine m_aload_n F rfl e_X10_readLine_170 ?_
          refine m_dup F rfl e_X10_readLine_171 ?_
          refine r_getC F e_X10_readLine_172 fl_X10_202 h16163 (yd16154) ?_
          refine m_iconst F (v := 1) (by decide) e_X10_readLine_175 ?_
          refine m_iadd F e_X10_readLine_176 ?_
          refine Wm.topE (w := nI (ln3 + 1)) (nI_add ln3 1) ?_
          refine r_put F (g' := (⟨T, 0, u, h, P16034, L⟩ : RG)) e_X10_readLine_177 fp_X10_202 h16163 (by decide) ⟨_, rfl⟩ (fun _ _ _ _ q => q) (fun _ _ _ q => q) rfl rfl (by decide) (fun σ16171 h16172 g16173 g16174 f16175 => ?_)
          have ga16176 := ga16147.of (g16173 _ (by omega))
          have ga16177 := ga16148.of (g16173 _ (by omega))
          have ga16178 := ga16149.of (g16173 _ (by omega))
          have ga16179 := ga16150.of (g16173 _ (by omega))
          have ga16180 := ga16151.of (g16173 _ (by omega))
          have ga16181 := ga16152.of (g16173 _ (by omega))
          have ga16182 := ga16153.of (g16173 _ (by omega))
          have h16183 : HS V c _ [0, 2, 17, 18, 19, 20, 21, 22, 23] _ _ := ⟨HR.mono (Z' := Z) (by intro e; first | rfl | assumption | omega) h16172.1, h16172.2⟩
          exact m_vret F hQ e_X10_readLine_180 (⟨P16034, oP16034, (by unfold RP; omega), (by rw [eo16043]; show RM _ c n _ (stopS (tok t n) (j1, 2, j3, j4) nl3 nm3 np3 nc3 lc3 no3 sd3 md3 ln3); rw [stopS_1 (by decide)]; exact RM.l ((g16174 23 (by decide)).trans yd16159) ((g16174 24 (by decide)).trans yd16160) (by omega) (by omega) (by omega)), (fun S2 hS _ => by rw [eo16043] at hS; replace hS : stopS (tok t n) (j1, 2, j3, j4) nl3 nm3 np3 nc3 lc3 no3 sd3 md3 ln3 = .inr S2 := hS; rw [stopS_1 (by decide)] at hS; cases hS), h16183, rfl⟩)
        · refine r_getC F e_X10_readLine_154 fl_X10_110 h16033 (yd16060) ?_
          refine m_iconst F (v := 3) (by decide) e_X10_readLine_157 ?_
          refine m_icmp_eq F e_X10_readLine_158 (fun q => absurd q (by decide)) (fun _ => ?_)
          refine m_aload_n F rfl e_X10_readLine_161 ?_
          refine m_iconst F (v := 1) (by decide) e_X10_readLine_162 ?_
          refine r_callV F e_X10_readLine_163 (q_X10_wrongE (x_l X) V c T Z u h P16034 L _ _ 1 n j1 2 (nI w3) ln3 fp3 h16033.1 (hob) oP16034 (by omega) ⟨(yd16057), (yd16058), (yd16059), (yd16060), (yd16061), (yd16062), (yd16063)⟩ (by decide)) cb_X10_wrong ml_X10_150 im_X10_wrong se_X10_wrong h16033 rfl rfl (rest := []) rfl (Nat.le_of_ble_eq_true rfl) ⟨Nat.le_of_ble_eq_true rfl, Nat.le_of_ble_eq_true rfl⟩ ⟨Nat.le_of_ble_eq_true rfl, Nat.le_of_ble_eq_true rfl⟩ (fun r σ16184 hp => ?_)
          obtain ⟨h16185, hp⟩ := hp
          have h16186 := HS.trans h16033 h16185 (by decide)
          have ga16187 := ga16036.of (h16185.2 (c + 1) (by rw [kC_at (k := 1) (by decide)]; decide))
          have ga16188 := hN3.of (h16185.2 (c + 2) (by rw [kC_at (k := 2) (by decide)]; decide))
          have ga16189 := hM3.of (h16185.2 (c + 3) (by rw [kC_at (k := 3) (by decide)]; decide))
          have ga16190 := hK3.of (h16185.2 (c + 7) (by rw [kC_at (k := 7) (by decide)]; decide))
          have ga16191 := hF3.of (h16185.2 (c + 8) (by rw [kC_at (k := 8) (by decide)]; decide))
          have ga16192 := hG3.of (h16185.2 (c + 9) (by rw [kC_at (k := 9) (by decide)]; decide))
          have ga16193 := hQ3.of (h16185.2 (c + 11) (by rw [kC_at (k := 11) (by decide)]; decide))
          obtain ⟨hp, rfl⟩ := hp
          have hyd16194 := hp
          obtain ⟨yd16194, yd16195, yd16196, yd16197, yd16198, yd16199, yd16200⟩ := hyd16194
          refine m_aload_n F rfl e_X10_readLine_166 ?_
          refine r_callV F e_X10_readLine_167 (q_X10_goOnG (x_l X) V c T 0 u h P16034 L _ _  1 h16186.1 (hob) oP16034  (yd16199) (by decide)) cb_X10_goOn ml_X10_154 im_X10_goOn se_X10_goOn h16186 rfl rfl (rest := []) rfl (Nat.le_of_ble_eq_true rfl) ⟨Nat.le_of_ble_eq_true rfl, Nat.le_of_ble_eq_true rfl⟩ ⟨Nat.le_of_ble_eq_true rfl, Nat.le_of_ble_eq_true rfl⟩ (fun r σ16201 hp => ?_)
          obtain ⟨h16202, hp⟩ := hp
          have h16203 := HS.trans h16186 h16202 (by decide)
          have ga16204 := ga16187.of (h16202.2 (c + 1) (by rw [kC_at (k := 1) (by decide)]; decide))
          have ga16205 := ga16188.of (h16202.2 (c + 2) (by rw [kC_at (k := 2) (by decide)]; decide))
          have ga16206 := ga16189.of (h16202.2 (c + 3) (by rw [kC_at (k := 3) (by decide)]; decide))
          have ga16207 := ga16190.of (h16202.2 (c + 7) (by rw [kC_at (k := 7) (by decide)]; decide))
          have ga16208 := ga16191.of (h16202.2 (c + 8) (by rw [kC_at (k := 8) (by decide)]; decide))
          have ga16209 := ga16192.of (h16202.2 (c + 9) (by rw [kC_at (k := 9) (by decide)]; decide))
          have ga16210 := ga16193.of (h16202.2 (c + 11) (by rw [kC_at (k := 11) (by decide)]; decide))
          obtain ⟨rfl, rfl⟩ := hp
          refine m_aload_n F rfl e_X10_readLine_170 ?_
          refine m_dup F rfl e_X10_readLine_171 ?_
          refine r_getC F e_X10_readLine_172 fl_X10_202 h16203 (yd16194) ?_
          refine m_iconst F (v := 1) (by decide) e_X10_readLine_175 ?_
          refine m_iadd F e_X10_readLine_176 ?_
          refine Wm.topE (w := nI (ln3 + 1)) (nI_add ln3 1) ?_
          refine r_put F (g' := (⟨T, 0, u, h, P16034, L⟩ : RG)) e_X10_readLine_177 fp_X10_202 h16203 (by decide) ⟨_, rfl⟩ (fun _ _ _ _ q => q) (fun _ _ _ q => q) rfl rfl (by decide) (fun σ16211 h16212 g16213 g16214 f16215 => ?_)
          have ga16216 := ga16187.of (g16213 _ (by omega))
          have ga16217 := ga16188.of (g16213 _ (by omega))
          have ga16218 := ga16189.of (g16213 _ (by omega))
          have ga16219 := ga16190.of (g16213 _ (by omega))
          have ga16220 := ga16191.of (g16213 _ (by omega))
          have ga16221 := ga16192.of (g16213 _ (by omega))
          have ga16222 := ga16193.of (g16213 _ (by omega))
          have h16223 : HS V c _ [0, 2, 17, 18, 19, 20, 21, 22, 23] _ _ := ⟨HR.mono (Z' := Z) (by intro e; first | rfl | assumption | omega) h16212.1, h16212.2⟩
          exact m_vret F hQ e_X10_readLine_180 (⟨P16034, oP16034, (by unfold RP; omega), (by rw [eo16043]; show RM _ c n _ (stopS (tok t n) (j1, 3, j3, j4) nl3 nm3 np3 nc3 lc3 no3 sd3 md3 ln3); rw [stopS_1 (by decide)]; exact RM.l ((g16214 23 (by decide)).trans yd16199) ((g16214 24 (by decide)).trans yd16200) (by omega) (by omega) (by omega)), (fun S2 hS _ => by rw [eo16043] at hS; replace hS : stopS (tok t n) (j1, 3, j3, j4) nl3 nm3 np3 nc3 lc3 no3 sd3 md3 ln3 = .inr S2 := hS; rw [stopS_1 (by decide)] at hS; cases hS), h16223, rfl⟩)
        · refine r_getC F e_X10_readLine_154 fl_X10_110 h16033 (yd16060) ?_
          refine m_iconst F (v := 3) (by decide) e_X10_readLine_157 ?_
          refine m_icmp_eq F e_X10_readLine_158 (fun _ => ?_) (fun q => absurd (by decide) q)
          refine m_aload_n F rfl e_X10_readLine_166 ?_
          refine r_callV F e_X10_readLine_167 (q_X10_goOnE (x_l X) V c T Z u h P16034 L _ _  n j1 3 va3 ln3 fp3 t h16033.1 (hob) oP16034  ⟨(yd16057), (yd16058), (yd16059), (yd16060), (yd16061), (yd16062), (yd16063)⟩ ga16036 hn7 (by omega)) cb_X10_goOn ml_X10_154 im_X10_goOn se_X10_goOn h16033 rfl rfl (rest := []) rfl (Nat.le_of_ble_eq_true rfl) ⟨Nat.le_of_ble_eq_true rfl, Nat.le_of_ble_eq_true rfl⟩ ⟨Nat.le_of_ble_eq_true rfl, Nat.le_of_ble_eq_true rfl⟩ (fun r σ16224 hp => ?_)
          obtain ⟨P16227, oP16227, rP16227, pr16228, pr16229, h16225, hp⟩ := hp
          have h16226 := HS.trans h16033 h16225 (by decide)
          have xP16227 := oP16227
          unfold OKP at xP16227
          unfold RA at rP16227
          have ga16230 := ga16036.of (h16225.2 (c + 1) (by rw [kC_at (k := 1) (by decide)]; decide))
          have ga16231 := hN3.of (h16225.2 (c + 2) (by rw [kC_at (k := 2) (by decide)]; decide))
          have ga16232 := hM3.of (h16225.2 (c + 3) (by rw [kC_at (k := 3) (by decide)]; decide))
          have ga16233 := hK3.of (h16225.2 (c + 7) (by rw [kC_at (k := 7) (by decide)]; decide))
          have ga16234 := hF3.of (h16225.2 (c + 8) (by rw [kC_at (k := 8) (by decide)]; decide))
          have ga16235 := hG3.of (h16225.2 (c + 9) (by rw [kC_at (k := 9) (by decide)]; decide))
          have ga16236 := hQ3.of (h16225.2 (c + 11) (by rw [kC_at (k := 11) (by decide)]; decide))
          obtain rfl := hp
          rw [pa3] at pr16228 pr16229
          have b8 := tok_ok (t := t) (n := n) j4 c1
          obtain ⟨so16237, va16238, mt16239, yd16240⟩ := pr16229
          have hyd16241 := yd16240
          obtain ⟨yd16241, yd16242, yd16243, yd16244, yd16245, yd16246, yd16247⟩ := hyd16241
          refine m_aload_n F rfl e_X10_readLine_170 ?_
          refine m_dup F rfl e_X10_readLine_171 ?_
          refine r_getC F e_X10_readLine_172 fl_X10_202 h16226 (yd16241) ?_
          refine m_iconst F (v := 1) (by decide) e_X10_readLine_175 ?_
          refine m_iadd F e_X10_readLine_176 ?_
          refine Wm.topE (w := nI (ln3 + 1)) (nI_add ln3 1) ?_
          refine r_put F (g' := (⟨T, Z, u, h, P16227, L⟩ : RG)) e_X10_readLine_177 fp_X10_202 h16226 (by decide) ⟨_, rfl⟩ (fun _ _ _ _ q => q) (fun _ _ _ q => q) rfl rfl (by decide) (fun σ16248 h16249 g16250 g16251 f16252 => ?_)
          have ga16253 := ga16230.of (g16250 _ (by omega))
          have ga16254 := ga16231.of (g16250 _ (by omega))
          have ga16255 := ga16232.of (g16250 _ (by omega))
          have ga16256 := ga16233.of (g16250 _ (by omega))
          have ga16257 := ga16234.of (g16250 _ (by omega))
          have ga16258 := ga16235.of (g16250 _ (by omega))
          have ga16259 := ga16236.of (g16250 _ (by omega))
          exact m_vret F hQ e_X10_readLine_180 (⟨P16227, oP16227, (by unfold RP; omega), (by rw [eo16043]; show RM _ c n _ (stopS (tok t n) (j1, 4, j3, j4) nl3 nm3 np3 nc3 lc3 no3 sd3 md3 ln3); rw [stopS_ok]; exact RM.r mt16239 ⟨(f16252), ((g16251 18 (by decide)).trans yd16242), ((g16251 20 (by decide)).trans yd16243), ((g16251 21 (by decide)).trans yd16244), ((g16251 22 (by decide)).trans yd16245), ((g16251 23 (by decide)).trans yd16246), ((g16251 24 (by decide)).trans yd16247)⟩ (by omega) (by omega) (by omega) ga16254 ga16255 ga16256 ga16257 ga16258 ga16259 (by omega) (by omega) (by omega) (by omega) (by omega)), (fun S2 hS hz => by rw [eo16043] at hS; replace hS : stopS (tok t n) (j1, 4, j3, j4) nl3 nm3 np3 nc3 lc3 no3 sd3 md3 ln3 = .inr S2 := hS; rw [stopS_ok] at hS; cases hS; replace hz : (tok t n j4).2.1 ≠ 0 := hz; have h8 := b8.2.2.2 hz; omega), h16249, rfl⟩)
        · refine r_getC F e_X10_readLine_154 fl_X10_110 h16033 (yd16060) ?_
          refine m_iconst F (v := 3) (by decide) e_X10_readLine_157 ?_
          refine m_icmp_eq F e_X10_readLine_158 (fun q => absurd q (by decide)) (fun _ => ?_)
          refine m_aload_n F rfl e_X10_readLine_161 ?_
          refine m_iconst F (v := 1) (by decide) e_X10_readLine_162 ?_
          refine r_callV F e_X10_readLine_163 (q_X10_wrongE (x_l X) V c T Z u h P16034 L _ _ 1 n j1 5 va3 ln3 fp3 h16033.1 (hob) oP16034 (by omega) ⟨(yd16057), (yd16058), (yd16059), (yd16060), (yd16061), (yd16062), (yd16063)⟩ (by decide)) cb_X10_wrong ml_X10_150 im_X10_wrong se_X10_wrong h16033 rfl rfl (rest := []) rfl (Nat.le_of_ble_eq_true rfl) ⟨Nat.le_of_ble_eq_true rfl, Nat.le_of_ble_eq_true rfl⟩ ⟨Nat.le_of_ble_eq_true rfl, Nat.le_of_ble_eq_true rfl⟩ (fun r σ16260 hp => ?_)
          obtain ⟨h16261, hp⟩ := hp
          have h16262 := HS.trans h16033 h16261 (by decide)
          have ga16263 := ga16036.of (h16261.2 (c + 1) (by rw [kC_at (k := 1) (by decide)]; decide))
          have ga16264 := hN3.of (h16261.2 (c + 2) (by rw [kC_at (k := 2) (by decide)]; decide))
          have ga16265 := hM3.of (h16261.2 (c + 3) (by rw [kC_at (k := 3) (by decide)]; decide))
          have ga16266 := hK3.of (h16261.2 (c + 7) (by rw [kC_at (k := 7) (by decide)]; decide))
          have ga16267 := hF3.of (h16261.2 (c + 8) (by rw [kC_at (k := 8) (by decide)]; decide))
          have ga16268 := hG3.of (h16261.2 (c + 9) (by rw [kC_at (k := 9) (by decide)]; decide))
          have ga16269 := hQ3.of (h16261.2 (c + 11) (by rw [kC_at (k := 11) (by decide)]; decide))
          obtain ⟨hp, rfl⟩ := hp
          have hyd16270 := hp
          obtain ⟨yd16270, yd16271, yd16272, yd16273, yd16274, yd16275, yd16276⟩ := hyd16270
          refine m_aload_n F rfl e_X10_readLine_166 ?_
          refine r_callV F e_X10_readLine_167 (q_X10_goOnG (x_l X) V c T 0 u h P16034 L _ _  1 h16262.1 (hob) oP16034  (yd16275) (by decide)) cb_X10_goOn ml_X10_154 im_X10_goOn se_X10_goOn h16262 rfl rfl (rest := []) rfl (Nat.le_of_ble_eq_true rfl) ⟨Nat.le_of_ble_eq_true rfl, Nat.le_of_ble_eq_true rfl⟩ ⟨Nat.le_of_ble_eq_true rfl, Nat.le_of_ble_eq_true rfl⟩ (fun r σ16277 hp => ?_)
          obtain ⟨h16278, hp⟩ := hp
          have h16279 := HS.trans h16262 h16278 (by decide)
          have ga16280 := ga16263.of (h16278.2 (c + 1) (by rw [kC_at (k := 1) (by decide)]; decide))
          have ga16281 := ga16264.of (h16278.2 (c + 2) (by rw [kC_at (k := 2) (by decide)]; decide))
          have ga16282 := ga16265.of (h16278.2 (c + 3) (by rw [kC_at (k := 3) (by decide)]; decide))
          have ga16283 := ga16266.of (h16278.2 (c + 7) (by rw [kC_at (k := 7) (by decide)]; decide))
          have ga16284 := ga16267.of (h16278.2 (c + 8) (by rw [kC_at (k := 8) (by decide)]; decide))
          have ga16285 := ga16268.of (h16278.2 (c + 9) (by rw [kC_at (k := 9) (by decide)]; decide))
          have ga16286 := ga16269.of (h16278.2 (c + 11) (by rw [kC_at (k := 11) (by decide)]; decide))
          obtain ⟨rfl, rfl⟩ := hp
          refine m_aload_n F rfl e_X10_readLine_170 ?_
          refine m_dup F rfl e_X10_readLine_171 ?_
          refine r_getC F e_X10_readLine_172 fl_X10_202 h16279 (yd16270) ?_
          refine m_iconst F (v := 1) (by decide) e_X10_readLine_175 ?_
          refine m_iadd F e_X10_readLine_176 ?_
          refine Wm.topE (w := nI (ln3 + 1)) (nI_add ln3 1) ?_
          refine r_put F (g' := (⟨T, 0, u, h, P16034, L⟩ : RG)) e_X10_readLine_177 fp_X10_202 h16279 (by decide) ⟨_, rfl⟩ (fun _ _ _ _ q => q) (fun _ _ _ q => q) rfl rfl (by decide) (fun σ16287 h16288 g16289 g16290 f16291 => ?_)
          have ga16292 := ga16263.of (g16289 _ (by omega))
          have ga16293 := ga16264.of (g16289 _ (by omega))
          have ga16294 := ga16265.of (g16289 _ (by omega))
          have ga16295 := ga16266.of (g16289 _ (by omega))
          have ga16296 := ga16267.of (g16289 _ (by omega))
          have ga16297 := ga16268.of (g16289 _ (by omega))
          have ga16298 := ga16269.of (g16289 _ (by omega))
          have h16299 : HS V c _ [0, 2, 17, 18, 19, 20, 21, 22, 23] _ _ := ⟨HR.mono (Z' := Z) (by intro e; first | rfl | assumption | omega) h16288.1, h16288.2⟩
          exact m_vret F hQ e_X10_readLine_180 (⟨P16034, oP16034, (by unfold RP; omega), (by rw [eo16043]; show RM _ c n _ (stopS (tok t n) (j1, 5, j3, j4) nl3 nm3 np3 nc3 lc3 no3 sd3 md3 ln3); rw [stopS_1 (by decide)]; exact RM.l ((g16290 23 (by decide)).trans yd16275) ((g16290 24 (by decide)).trans yd16276) (by omega) (by omega) (by omega)), (fun S2 hS _ => by rw [eo16043] at hS; replace hS : stopS (tok t n) (j1, 5, j3, j4) nl3 nm3 np3 nc3 lc3 no3 sd3 md3 ln3 = .inr S2 := hS; rw [stopS_1 (by decide)] at hS; cases hS), h16299, rfl⟩)
    · refine r_getC F e_X10_readLine_1 fl_X10_110 h1 (yd14109) ?_
      refine m_if_eq F e_X10_readLine_4 (fun _ => ?_) (fun q => absurd (by decide) q)
      refine m_aload_n F rfl e_X10_readLine_15 ?_
      refine r_getC F e_X10_readLine_16 fl_X10_120 h1 (yd14110) ?_
      refine m_if_ne F e_X10_readLine_19 (fun _ => ?_) (fun q => absurd q (by decide))
      refine m_aload_n F rfl e_X10_readLine_29 ?_
      refine r_getC F e_X10_readLine_30 fl_X10_120 h1 (yd14110) ?_
      refine m_iconst F (v := 1) (by decide) e_X10_readLine_33 ?_
      refine m_icmp_ne F e_X10_readLine_34 (fun _ => ?_) (fun q => absurd q (by decide))
      refine m_aload_n F rfl e_X10_readLine_44 ?_
      refine r_getC F e_X10_readLine_45 fl_X10_120 h1 (yd14110) ?_
      refine m_iconst F (v := 2) (by decide) e_X10_readLine_48 ?_
      refine m_icmp_eq F e_X10_readLine_49 (fun q => absurd q (by decide)) (fun _ => ?_)
      refine m_aload_n F rfl e_X10_readLine_52 ?_
      refine r_getC F e_X10_readLine_53 fl_X10_120 h1 (yd14110) ?_
      refine m_iconst F (v := 5) (by decide) e_X10_readLine_56 ?_
      refine m_icmp_ne F e_X10_readLine_57 (fun _ => ?_) (fun q => absurd q (by decide))
      refine m_aload_n F rfl e_X10_readLine_80 ?_
      refine r_getC F e_X10_readLine_81 fl_X10_120 h1 (yd14110) ?_
      refine m_iconst F (v := 3) (by decide) e_X10_readLine_84 ?_
      refine m_icmp_ne F e_X10_readLine_85 (fun _ => ?_) (fun q => absurd q (by decide))
      refine m_aload_n F rfl e_X10_readLine_95 ?_
      refine r_getC F e_X10_readLine_96 fl_X10_120 h1 (yd14110) ?_
      refine m_iconst F (v := 4) (by decide) e_X10_readLine_99 ?_
      refine m_icmp_ne F e_X10_readLine_100 (fun _ => ?_) (fun q => absurd q (by decide))
      refine m_aload_n F rfl e_X10_readLine_110 ?_
      refine r_getC F e_X10_readLine_111 fl_X10_120 h1 (yd14110) ?_
      refine m_bipush F (v := 6) (by decide) e_X10_readLine_114 ?_
      refine m_icmp_ne F e_X10_readLine_116 (fun _ => ?_) (fun q => absurd q (by decide))
      refine m_aload_n F rfl e_X10_readLine_126 ?_
      refine r_getC F e_X10_readLine_127 fl_X10_120 h1 (yd14110) ?_
      refine m_bipush F (v := 7) (by decide) e_X10_readLine_130 ?_
      refine m_icmp_ne F e_X10_readLine_132 (fun _ => ?_) (fun q => absurd q (by decide))
      refine m_aload_n F rfl e_X10_readLine_142 ?_
      refine r_callV F e_X10_readLine_143 (q_X10_readSeedE (x_l X) V c T Z u h P L _ _  n st 0 8 ln fp t 1 8 nm np lc no sd md h1.1 (hob) hP  ⟨(yd14106), (yd14107), (yd14108), (yd14109), (yd14110), (yd14111), (yd14112)⟩ hp1 hn7 (by omega) hp4 hp5 hp6 hp7 hp8 hp9 hp10 hp11 hp12 hp13 hp14) cb_X10_readSeed ml_X10_199 im_X10_readSeed se_X10_readSeed h1 rfl rfl (rest := []) rfl (Nat.le_of_ble_eq_true rfl) ⟨Nat.le_of_ble_eq_true rfl, Nat.le_of_ble_eq_true rfl⟩ ⟨Nat.le_of_ble_eq_true rfl, Nat.le_of_ble_eq_true rfl⟩ (fun r σ16300 hp => ?_)
      obtain ⟨P16303, oP16303, rP16303, pr16304, h16301, hp⟩ := hp
      have h16302 := HS.trans h1 h16301 (by decide)
      have xP16303 := oP16303
      unfold OKP at xP16303
      unfold RP at rP16303
      have ga16305 := hp1.of (h16301.2 (c + 1) (by rw [kC_at (k := 1) (by decide)]; decide))
      have ga16306 := hp7.of (h16301.2 (c + 3) (by rw [kC_at (k := 3) (by decide)]; decide))
      have ga16307 := hp8.of (h16301.2 (c + 7) (by rw [kC_at (k := 7) (by decide)]; decide))
      have ga16308 := hp9.of (h16301.2 (c + 8) (by rw [kC_at (k := 8) (by decide)]; decide))
      have ga16309 := hp10.of (h16301.2 (c + 9) (by rw [kC_at (k := 9) (by decide)]; decide))
      have ga16310 := hp11.of (h16301.2 (c + 11) (by rw [kC_at (k := 11) (by decide)]; decide))
      obtain rfl := hp
      have rm16311 : RM σ16300 c n P16303 (lineS (tok t n) (st, 1, 8, P.a) P.n5 nm np P.n7 lc no sd md ln) := by rw [lineS_8]; exact pr16304
      cases eo16312 : lineS (tok t n) (st, 1, 8, P.a) P.n5 nm np P.n7 lc no sd md ln with
      | inl e8 =>
        rw [eo16312] at rm16311
        obtain ⟨⟨fa16313, fb16314⟩, c1, c2, c3⟩ := rm16311
        have nz8 : nI e8.1 ≠ 0 := fun e => absurd (nI_inj9 (b := 0) (by omega) (by omega) e) (by omega)
        refine m_aload_n F rfl e_X10_readLine_146 ?_
        refine r_getC F e_X10_readLine_147 fl_X10_141 h16302 (fa16313) ?_
        refine m_if_ne F e_X10_readLine_150 (fun q150 => ?_) (fun q150 => ?_)
        · have c150 : e8.1 ≠ 0 := by have hh := mt (nI_eq (a := e8.1) (b := 0) (by omega) (by omega)).mpr q150; omega
          refine m_aload_n F rfl e_X10_readLine_166 ?_
          refine r_callV F e_X10_readLine_167 (q_X10_goOnG (x_l X) V c T Z u h P16303 L _ _  (nI e8.1) h16302.1 (hob) oP16303  (fa16313) (by assumption)) cb_X10_goOn ml_X10_154 im_X10_goOn se_X10_goOn h16302 rfl rfl (rest := []) rfl (Nat.le_of_ble_eq_true rfl) ⟨Nat.le_of_ble_eq_true rfl, Nat.le_of_ble_eq_true rfl⟩ ⟨Nat.le_of_ble_eq_true rfl, Nat.le_of_ble_eq_true rfl⟩ (fun r σ16315 hp => ?_)
          obtain ⟨h16316, hp⟩ := hp
          have h16317 := HS.trans h16302 h16316 (by decide)
          obtain ⟨rfl, rfl⟩ := hp
          refine m_aload_n F rfl e_X10_readLine_170 ?_
          refine m_dup F rfl e_X10_readLine_171 ?_
          refine r_get F e_X10_readLine_172 fl_X10_202 h16317 rfl (fun v hv f16318 => ?_)
          obtain ⟨x16319, rfl⟩ := hv
          refine m_iconst F (v := 1) (by decide) e_X10_readLine_175 ?_
          refine m_iadd F e_X10_readLine_176 ?_
          refine Wm.top (fun x16320 _ => ?_)
          refine r_put F (g' := (⟨T, Z, u, h, P16303, L⟩ : RG)) e_X10_readLine_177 fp_X10_202 h16317 (by decide) ⟨_, rfl⟩ (fun _ _ _ _ q => q) (fun _ _ _ q => q) rfl rfl (by decide) (fun σ16321 h16322 g16323 g16324 f16325 => ?_)
          exact m_vret F hQ e_X10_readLine_180 (⟨P16303, oP16303, (by unfold RP; omega), (by rw [eo16312]; show RM _ c n _ (.inl e8); exact RM.l ((g16324 23 (by decide)).trans fa16313) ((g16324 24 (by decide)).trans fb16314) (by omega) (by omega) (by omega)), (fun S2 hS _ => by rw [eo16312] at hS; cases hS), h16322, rfl⟩)
        · have c150 : e8.1 = 0 := (nI_eq (a := e8.1) (b := 0) (by omega) (by omega)).mp q150
          exact absurd q150 nz8
      | inr S1 =>
        rw [eo16312] at rm16311
        obtain ⟨⟨j1, j2, j3, j4⟩, nl3, nm3, np3, nc3, lc3, no3, sd3, md3, ln3⟩ := S1
        obtain ⟨so3, va3, fp3, mt3, yd3, ⟨pa3, p53, p73⟩, hN3, hM3, hK3, hF3, hG3, hQ3, c1, c2, c3, c4, c5⟩ := rm16311
        replace pa3 : _ = j4 := pa3
        replace c1 : j4 ≤ n := c1
        replace c2 : j1 ≤ n := c2
        have hyd16326 := yd3
        obtain ⟨yd16326, yd16327, yd16328, yd16329, yd16330, yd16331, yd16332⟩ := hyd16326
        refine m_aload_n F rfl e_X10_readLine_146 ?_
        refine r_getC F e_X10_readLine_147 fl_X10_141 h16302 (yd16331) ?_
        refine m_if_ne F e_X10_readLine_150 (fun q => absurd (by decide) q) (fun _ => ?_)
        refine m_aload_n F rfl e_X10_readLine_153 ?_
        have hmt := mt3
        rcases hmt with ⟨rfl, rfl⟩ | ⟨rfl, rfl, rfl, hv3⟩ | ⟨rfl, rfl, rfl, hv3⟩ | ⟨rfl, rfl, w3, hw3, rfl, hm3⟩ | ⟨rfl, rfl⟩ | ⟨rfl, rfl⟩
        · refine r_getC F e_X10_readLine_154 fl_X10_110 h16302 (yd16329) ?_
          refine m_iconst F (v := 3) (by decide) e_X10_readLine_157 ?_
          refine m_icmp_eq F e_X10_readLine_158 (fun q => absurd q (by decide)) (fun _ => ?_)
          refine m_aload_n F rfl e_X10_readLine_161 ?_
          refine m_iconst F (v := 1) (by decide) e_X10_readLine_162 ?_
          refine r_callV F e_X10_readLine_163 (q_X10_wrongE (x_l X) V c T Z u h P16303 L _ _ 1 n j1 4 va3 ln3 fp3 h16302.1 (hob) oP16303 (by omega) ⟨(yd16326), (yd16327), (yd16328), (yd16329), (yd16330), (yd16331), (yd16332)⟩ (by decide)) cb_X10_wrong ml_X10_150 im_X10_wrong se_X10_wrong h16302 rfl rfl (rest := []) rfl (Nat.le_of_ble_eq_true rfl) ⟨Nat.le_of_ble_eq_true rfl, Nat.le_of_ble_eq_true rfl⟩ ⟨Nat.le_of_ble_eq_true rfl, Nat.le_of_ble_eq_true rfl⟩ (fun r σ16333 hp => ?_)
          obtain ⟨h16334, hp⟩ := hp
          have h16335 := HS.trans h16302 h16334 (by decide)
          have ga16336 := ga16305.of (h16334.2 (c + 1) (by rw [kC_at (k := 1) (by decide)]; decide))
          have ga16337 := hN3.of (h16334.2 (c + 2) (by rw [kC_at (k := 2) (by decide)]; decide))
          have ga16338 := hM3.of (h16334.2 (c + 3) (by rw [kC_at (k := 3) (by decide)]; decide))
          have ga16339 := hK3.of (h16334.2 (c + 7) (by rw [kC_at (k := 7) (by decide)]; decide))
          have ga16340 := hF3.of (h16334.2 (c + 8) (by rw [kC_at (k := 8) (by decide)]; decide))
          have ga16341 := hG3.of (h16334.2 (c + 9) (by rw [kC_at (k := 9) (by decide)]; decide))
          have ga16342 := hQ3.of (h16334.2 (c + 11) (by rw [kC_at (k := 11) (by decide)]; decide))
          obtain ⟨hp, rfl⟩ := hp
          have hyd16343 := hp
          obtain ⟨yd16343, yd16344, yd16345, yd16346, yd16347, yd16348, yd16349⟩ := hyd16343
          refine m_aload_n F rfl e_X10_readLine_166 ?_
          refine r_callV F e_X10_readLine_167 (q_X10_goOnG (x_l X) V c T 0 u h P16303 L _ _  1 h16335.1 (hob) oP16303  (yd16348) (by decide)) cb_X10_goOn ml_X10_154 im_X10_goOn se_X10_goOn h16335 rfl rfl (rest := []) rfl (Nat.le_of_ble_eq_true rfl) ⟨Nat.le_of_ble_eq_true rfl, Nat.le_of_ble_eq_true rfl⟩ ⟨Nat.le_of_ble_eq_true rfl, Nat.le_of_ble_eq_true rfl⟩ (fun r σ16350 hp => ?_)
          obtain ⟨h16351, hp⟩ := hp
          have h16352 := HS.trans h16335 h16351 (by decide)
          have ga16353 := ga16336.of (h16351.2 (c + 1) (by rw [kC_at (k := 1) (by decide)]; decide))
          have ga16354 := ga16337.of (h16351.2 (c + 2) (by rw [kC_at (k := 2) (by decide)]; decide))
          have ga16355 := ga16338.of (h16351.2 (c + 3) (by rw [kC_at (k := 3) (by decide)]; decide))
          have ga16356 := ga16339.of (h16351.2 (c + 7) (by rw [kC_at (k := 7) (by decide)]; decide))
          have ga16357 := ga16340.of (h16351.2 (c + 8) (by rw [kC_at (k := 8) (by decide)]; decide))
          have ga16358 := ga16341.of (h16351.2 (c + 9) (by rw [kC_at (k := 9) (by decide)]; decide))
          have ga16359 := ga16342.of (h16351.2 (c + 11) (by rw [kC_at (k := 11) (by decide)]; decide))
          obtain ⟨rfl, rfl⟩ := hp
          refine m_aload_n F rfl e_X10_readLine_170 ?_
          refine m_dup F rfl e_X10_readLine_171 ?_
          refine r_getC F e_X10_readLine_172 fl_X10_202 h16352 (yd16343) ?_
          refine m_iconst F (v := 1) (by decide) e_X10_readLine_175 ?_
          refine m_iadd F e_X10_readLine_176 ?_
          refine Wm.topE (w := nI (ln3 + 1)) (nI_add ln3 1) ?_
          refine r_put F (g' := (⟨T, 0, u, h, P16303, L⟩ : RG)) e_X10_readLine_177 fp_X10_202 h16352 (by decide) ⟨_, rfl⟩ (fun _ _ _ _ q => q) (fun _ _ _ q => q) rfl rfl (by decide) (fun σ16360 h16361 g16362 g16363 f16364 => ?_)
          have ga16365 := ga16336.of (g16362 _ (by omega))
          have ga16366 := ga16337.of (g16362 _ (by omega))
          have ga16367 := ga16338.of (g16362 _ (by omega))
          have ga16368 := ga16339.of (g16362 _ (by omega))
          have ga16369 := ga16340.of (g16362 _ (by omega))
          have ga16370 := ga16341.of (g16362 _ (by omega))
          have ga16371 := ga16342.of (g16362 _ (by omega))
          have h16372 : HS V c _ [0, 2, 17, 18, 19, 20, 21, 22, 23] _ _ := ⟨HR.mono (Z' := Z) (by intro e; first | rfl | assumption | omega) h16361.1, h16361.2⟩
          exact m_vret F hQ e_X10_readLine_180 (⟨P16303, oP16303, (by unfold RP; omega), (by rw [eo16312]; show RM _ c n _ (stopS (tok t n) (j1, 0, j3, j4) nl3 nm3 np3 nc3 lc3 no3 sd3 md3 ln3); rw [stopS_1 (by decide)]; exact RM.l ((g16363 23 (by decide)).trans yd16348) ((g16363 24 (by decide)).trans yd16349) (by omega) (by omega) (by omega)), (fun S2 hS _ => by rw [eo16312] at hS; replace hS : stopS (tok t n) (j1, 0, j3, j4) nl3 nm3 np3 nc3 lc3 no3 sd3 md3 ln3 = .inr S2 := hS; rw [stopS_1 (by decide)] at hS; cases hS), h16372, rfl⟩)
        · refine r_getC F e_X10_readLine_154 fl_X10_110 h16302 (yd16329) ?_
          refine m_iconst F (v := 3) (by decide) e_X10_readLine_157 ?_
          refine m_icmp_eq F e_X10_readLine_158 (fun q => absurd q (by decide)) (fun _ => ?_)
          refine m_aload_n F rfl e_X10_readLine_161 ?_
          refine m_iconst F (v := 1) (by decide) e_X10_readLine_162 ?_
          refine r_callV F e_X10_readLine_163 (q_X10_wrongE (x_l X) V c T Z u h P16303 L _ _ 1 n j1 0 (nI j3) ln3 fp3 h16302.1 (hob) oP16303 (by omega) ⟨(yd16326), (yd16327), (yd16328), (yd16329), (yd16330), (yd16331), (yd16332)⟩ (by decide)) cb_X10_wrong ml_X10_150 im_X10_wrong se_X10_wrong h16302 rfl rfl (rest := []) rfl (Nat.le_of_ble_eq_true rfl) ⟨Nat.le_of_ble_eq_true rfl, Nat.le_of_ble_eq_true rfl⟩ ⟨Nat.le_of_ble_eq_true rfl, Nat.le_of_ble_eq_true rfl⟩ (fun r σ16373 hp => ?_)
          obtain ⟨h16374, hp⟩ := hp
          have h16375 := HS.trans h16302 h16374 (by decide)
          have ga16376 := ga16305.of (h16374.2 (c + 1) (by rw [kC_at (k := 1) (by decide)]; decide))
          have ga16377 := hN3.of (h16374.2 (c + 2) (by rw [kC_at (k := 2) (by decide)]; decide))
          have ga16378 := hM3.of (h16374.2 (c + 3) (by rw [kC_at (k := 3) (by decide)]; decide))
          have ga16379 := hK3.of (h16374.2 (c + 7) (by rw [kC_at (k := 7) (by decide)]; decide))
          have ga16380 := hF3.of (h16374.2 (c + 8) (by rw [kC_at (k := 8) (by decide)]; decide))
          have ga16381 := hG3.of (h16374.2 (c + 9) (by rw [kC_at (k := 9) (by decide)]; decide))
          have ga16382 := hQ3.of (h16374.2 (c + 11) (by rw [kC_at (k := 11) (by decide)]; decide))
          obtain ⟨hp, rfl⟩ := hp
          have hyd16383 := hp
          obtain ⟨yd16383, yd16384, yd16385, yd16386, yd16387, yd16388, yd16389⟩ := hyd16383
          refine m_aload_n F rfl e_X10_readLine_166 ?_
          refine r_callV F e_X10_readLine_167 (q_X10_goOnG (x_l X) V c T 0 u h P16303 L _ _  1 h16375.1 (hob) oP16303  (yd16388) (by decide)) cb_X10_goOn ml_X10_154 im_X10_goOn se_X10_goOn h16375 rfl rfl (rest := []) rfl (Nat.le_of_ble_eq_true rfl) ⟨Nat.le_of_ble_eq_true rfl, Nat.le_of_ble_eq_true rfl⟩ ⟨Nat.le_of_ble_eq_true rfl, Nat.le_of_ble_eq_true rfl⟩ (fun r σ16390 hp => ?_)
          obtain ⟨h16391, hp⟩ := hp
          have h16392 := HS.trans h16375 h16391 (by decide)
          have ga16393 := ga16376.of (h16391.2 (c + 1) (by rw [kC_at (k := 1) (by decide)]; decide))
          have ga16394 := ga16377.of (h16391.2 (c + 2) (by rw [kC_at (k := 2) (by decide)]; decide))
          have ga16395 := ga16378.of (h16391.2 (c + 3) (by rw [kC_at (k := 3) (by decide)]; decide))
          have ga16396 := ga16379.of (h16391.2 (c + 7) (by rw [kC_at (k := 7) (by decide)]; decide))
          have ga16397 := ga16380.of (h16391.2 (c + 8) (by rw [kC_at (k := 8) (by decide)]; decide))
          have ga16398 := ga16381.of (h16391.2 (c + 9) (by rw [kC_at (k := 9) (by decide)]; decide))
          have ga16399 := ga16382.of (h16391.2 (c + 11) (by rw [kC_at (k := 11) (by decide)]; decide))
          obtain ⟨rfl, rfl⟩ := hp
          refine m_aload_n F rfl e_X10_readLine_170 ?_
          refine m_dup F rfl e_X10_readLine_171 ?_
          refine r_getC F e_X10_readLine_172 fl_X10_202 h16392 (yd16383) ?_
          refine m_iconst F (v := 1) (by decide) e_X10_readLine_175 ?_
          refine m_iadd F e_X10_readLine_176 ?_
          refine Wm.topE (w := nI (ln3 + 1)) (nI_add ln3 1) ?_
          refine r_put F (g' := (⟨T, 0, u, h, P16303, L⟩ : RG)) e_X10_readLine_177 fp_X10_202 h16392 (by decide) ⟨_, rfl⟩ (fun _ _ _ _ q => q) (fun _ _ _ q => q) rfl rfl (by decide) (fun σ16400 h16401 g16402 g16403 f16404 => ?_)
          have ga16405 := ga16376.of (g16402 _ (by omega))
          have ga16406 := ga16377.of (g16402 _ (by omega))
          have ga16407 := ga16378.of (g16402 _ (by omega))
          have ga16408 := ga16379.of (g16402 _ (by omega))
          have ga16409 := ga16380.of (g16402 _ (by omega))
          have ga16410 := ga16381.of (g16402 _ (by omega))
          have ga16411 := ga16382.of (g16402 _ (by omega))
          have h16412 : HS V c _ [0, 2, 17, 18, 19, 20, 21, 22, 23] _ _ := ⟨HR.mono (Z' := Z) (by intro e; first | rfl | assumption | omega) h16401.1, h16401.2⟩
          exact m_vret F hQ e_X10_readLine_180 (⟨P16303, oP16303, (by unfold RP; omega), (by rw [eo16312]; show RM _ c n _ (stopS (tok t n) (j1, 1, j3, j4) nl3 nm3 np3 nc3 lc3 no3 sd3 md3 ln3); rw [stopS_1 (by decide)]; exact RM.l ((g16403 23 (by decide)).trans yd16388) ((g16403 24 (by decide)).trans yd16389) (by omega) (by omega) (by omega)), (fun S2 hS _ => by rw [eo16312] at hS; replace hS : stopS (tok t n) (j1, 1, j3, j4) nl3 nm3 np3 nc3 lc3 no3 sd3 md3 ln3 = .inr S2 := hS; rw [stopS_1 (by decide)] at hS; cases hS), h16412, rfl⟩)
        · refine r_getC F e_X10_readLine_154 fl_X10_110 h16302 (yd16329) ?_
          refine m_iconst F (v := 3) (by decide) e_X10_readLine_157 ?_
          refine m_icmp_eq F e_X10_readLine_158 (fun q => absurd q (by decide)) (fun _ => ?_)
          refine m_aload_n F rfl e_X10_readLine_161 ?_
          refine m_iconst F (v := 1) (by decide) e_X10_readLine_162 ?_
          refine r_callV F e_X10_readLine_163 (q_X10_wrongE (x_l X) V c T Z u h P16303 L _ _ 1 n j1 1 (nI j3) ln3 fp3 h16302.1 (hob) oP16303 (by omega) ⟨(yd16326), (yd16327), (yd16328), (yd16329), (yd16330), (yd16331), (yd16332)⟩ (by decide)) cb_X10_wrong ml_X10_150 im_X10_wrong se_X10_wrong h16302 rfl rfl (rest := []) rfl (Nat.le_of_ble_eq_true rfl) ⟨Nat.le_of_ble_eq_true rfl, Nat.le_of_ble_eq_true rfl⟩ ⟨Nat.le_of_ble_eq_true rfl, Nat.le_of_ble_eq_true rfl⟩ (fun r σ16413 hp => ?_)
          obtain ⟨h16414, hp⟩ := hp
          have h16415 := HS.trans h16302 h16414 (by decide)
          have ga16416 := ga16305.of (h16414.2 (c + 1) (by rw [kC_at (k := 1) (by decide)]; decide))
          have ga16417 := hN3.of (h16414.2 (c + 2) (by rw [kC_at (k := 2) (by decide)]; decide))
          have ga16418 := hM3.of (h16414.2 (c + 3) (by rw [kC_at (k := 3) (by decide)]; decide))
          have ga16419 := hK3.of (h16414.2 (c + 7) (by rw [kC_at (k := 7) (by decide)]; decide))
          have ga16420 := hF3.of (h16414.2 (c + 8) (by rw [kC_at (k := 8) (by decide)]; decide))
          have ga16421 := hG3.of (h16414.2 (c + 9) (by rw [kC_at (k := 9) (by decide)]; decide))
          have ga16422 := hQ3.of (h16414.2 (c + 11) (by rw [kC_at (k := 11) (by decide)]; decide))
          obtain ⟨hp, rfl⟩ := hp
          have hyd16423 := hp
          obtain ⟨yd16423, yd16424, yd16425, yd16426, yd16427, yd16428, yd16429⟩ := hyd16423
          refine m_aload_n F rfl e_X10_readLine_166 ?_
          refine r_callV F e_X10_readLine_167 (q_X10_goOnG (x_l X) V c T 0 u h P16303 L _ _  1 h16415.1 (hob) oP16303  (yd16428) (by decide)) cb_X10_goOn ml_X10_154 im_X10_goOn se_X10_goOn h16415 rfl rfl (rest := []) rfl (Nat.le_of_ble_eq_true rfl) ⟨Nat.le_of_ble_eq_true rfl, Nat.le_of_ble_eq_true rfl⟩ ⟨Nat.le_of_ble_eq_true rfl, Nat.le_of_ble_eq_true rfl⟩ (fun r σ16430 hp => ?_)
          obtain ⟨h16431, hp⟩ := hp
          have h16432 := HS.trans h16415 h16431 (by decide)
          have ga16433 := ga16416.of (h16431.2 (c + 1) (by rw [kC_at (k := 1) (by decide)]; decide))
          have ga16434 := ga16417.of (h16431.2 (c + 2) (by rw [kC_at (k := 2) (by decide)]; decide))
          have ga16435 := ga16418.of (h16431.2 (c + 3) (by rw [kC_at (k := 3) (by decide)]; decide))
          have ga16436 := ga16419.of (h16431.2 (c + 7) (by rw [kC_at (k := 7) (by decide)]; decide))
          have ga16437 := ga16420.of (h16431.2 (c + 8) (by rw [kC_at (k := 8) (by decide)]; decide))
          have ga16438 := ga16421.of (h16431.2 (c + 9) (by rw [kC_at (k := 9) (by decide)]; decide))
          have ga16439 := ga16422.of (h16431.2 (c + 11) (by rw [kC_at (k := 11) (by decide)]; decide))
          obtain ⟨rfl, rfl⟩ := hp
          refine m_aload_n F rfl e_X10_readLine_170 ?_
          refine m_dup F rfl e_X10_readLine_171 ?_
          refine r_getC F e_X10_readLine_172 fl_X10_202 h16432 (yd16423) ?_
          refine m_iconst F (v := 1) (by decide) e_X10_readLine_175 ?_
          refine m_iadd F e_X10_readLine_176 ?_
          refine Wm.topE (w := nI (ln3 + 1)) (nI_add ln3 1) ?_
          refine r_put F (g' := (⟨T, 0, u, h, P16303, L⟩ : RG)) e_X10_readLine_177 fp_X10_202 h16432 (by decide) ⟨_, rfl⟩ (fun _ _ _ _ q => q) (fun _ _ _ q => q) rfl rfl (by decide) (fun σ16440 h16441 g16442 g16443 f16444 => ?_)
          have ga16445 := ga16416.of (g16442 _ (by omega))
          have ga16446 := ga16417.of (g16442 _ (by omega))
          have ga16447 := ga16418.of (g16442 _ (by omega))
          have ga16448 := ga16419.of (g16442 _ (by omega))
          have ga16449 := ga16420.of (g16442 _ (by omega))
          have ga16450 := ga16421.of (g16442 _ (by omega))
          have ga16451 := ga16422.of (g16442 _ (by omega))
          have h16452 : HS V c _ [0, 2, 17, 18, 19, 20, 21, 22, 23] _ _ := ⟨HR.mono (Z' := Z) (by intro e; first | rfl | assumption | omega) h16441.1, h16441.2⟩
          exact m_vret F hQ e_X10_readLine_180 (⟨P16303, oP16303, (by unfold RP; omega), (by rw [eo16312]; show RM _ c n _ (stopS (tok t n) (j1, 2, j3, j4) nl3 nm3 np3 nc3 lc3 no3 sd3 md3 ln3); rw [stopS_1 (by decide)]; exact RM.l ((g16443 23 (by decide)).trans yd16428) ((g16443 24 (by decide)).trans yd16429) (by omega) (by omega) (by omega)), (fun S2 hS _ => by rw [eo16312] at hS; replace hS : stopS (tok t n) (j1, 2, j3, j4) nl3 nm3 np3 nc3 lc3 no3 sd3 md3 ln3 = .inr S2 := hS; rw [stopS_1 (by decide)] at hS; cases hS), h16452, rfl⟩)
        · refine r_getC F e_X10_readLine_154 fl_X10_110 h16302 (yd16329) ?_
          refine m_iconst F (v := 3) (by decide) e_X10_readLine_157 ?_
          refine m_icmp_eq F e_X10_readLine_158 (fun q => absurd q (by decide)) (fun _ => ?_)
          refine m_aload_n F rfl e_X10_readLine_161 ?_
          refine m_iconst F (v := 1) (by decide) e_X10_readLine_162 ?_
          refine r_callV F e_X10_readLine_163 (q_X10_wrongE (x_l X) V c T Z u h P16303 L _ _ 1 n j1 2 (nI w3) ln3 fp3 h16302.1 (hob) oP16303 (by omega) ⟨(yd16326), (yd16327), (yd16328), (yd16329), (yd16330), (yd16331), (yd16332)⟩ (by decide)) cb_X10_wrong ml_X10_150 im_X10_wrong se_X10_wrong h16302 rfl rfl (rest := []) rfl (Nat.le_of_ble_eq_true rfl) ⟨Nat.le_of_ble_eq_true rfl, Nat.le_of_ble_eq_true rfl⟩ ⟨Nat.le_of_ble_eq_true rfl, Nat.le_of_ble_eq_true rfl⟩ (fun r σ16453 hp => ?_)
          obtain ⟨h16454, hp⟩ := hp
          have h16455 := HS.trans h16302 h16454 (by decide)
          have ga16456 := ga16305.of (h16454.2 (c + 1) (by rw [kC_at (k := 1) (by decide)]; decide))
          have ga16457 := hN3.of (h16454.2 (c + 2) (by rw [kC_at (k := 2) (by decide)]; decide))
          have ga16458 := hM3.of (h16454.2 (c + 3) (by rw [kC_at (k := 3) (by decide)]; decide))
          have ga16459 := hK3.of (h16454.2 (c + 7) (by rw [kC_at (k := 7) (by decide)]; decide))
          have ga16460 := hF3.of (h16454.2 (c + 8) (by rw [kC_at (k := 8) (by decide)]; decide))
          have ga16461 := hG3.of (h16454.2 (c + 9) (by rw [kC_at (k := 9) (by decide)]; decide))
          have ga16462 := hQ3.of (h16454.2 (c + 11) (by rw [kC_at (k := 11) (by decide)]; decide))
          obtain ⟨hp, rfl⟩ := hp
          have hyd16463 := hp
          obtain ⟨yd16463, yd16464, yd16465, yd16466, yd16467, yd16468, yd16469⟩ := hyd16463
          refine m_aload_n F rfl e_X10_readLine_166 ?_
          refine r_callV F e_X10_readLine_167 (q_X10_goOnG (x_l X) V c T 0 u h P16303 L _ _  1 h16455.1 (hob) oP16303  (yd16468) (by decide)) cb_X10_goOn ml_X10_154 im_X10_goOn se_X10_goOn h16455 rfl rfl (rest := []) rfl (Nat.le_of_ble_eq_true rfl) ⟨Nat.le_of_ble_eq_true rfl, Nat.le_of_ble_eq_true rfl⟩ ⟨Nat.le_of_ble_eq_true rfl, Nat.le_of_ble_eq_true rfl⟩ (fun r σ16470 hp => ?_)
          obtain ⟨h16471, hp⟩ := hp
          have h16472 := HS.trans h16455 h16471 (by decide)
          have ga16473 := ga16456.of (h16471.2 (c + 1) (by rw [kC_at (k := 1) (by decide)]; decide))
          have ga16474 := ga16457.of (h16471.2 (c + 2) (by rw [kC_at (k := 2) (by decide)]; decide))
          have ga16475 := ga16458.of (h16471.2 (c + 3) (by rw [kC_at (k := 3) (by decide)]; decide))
          have ga16476 := ga16459.of (h16471.2 (c + 7) (by rw [kC_at (k := 7) (by decide)]; decide))
          have ga16477 := ga16460.of (h16471.2 (c + 8) (by rw [kC_at (k := 8) (by decide)]; decide))
          have ga16478 := ga16461.of (h16471.2 (c + 9) (by rw [kC_at (k := 9) (by decide)]; decide))
          have ga16479 := ga16462.of (h16471.2 (c + 11) (by rw [kC_at (k := 11) (by decide)]; decide))
          obtain ⟨rfl, rfl⟩ := hp
          refine m_aload_n F rfl e_X10_readLine_170 ?_
          refine m_dup F rfl e_X10_readLine_171 ?_
          refine r_getC F e_X10_readLine_172 fl_X10_202 h16472 (yd16463) ?_
          refine m_iconst F (v := 1) (by decide) e_X10_readLine_175 ?_
          refine m_iadd F e_X10_readLine_176 ?_
          refine Wm.topE (w := nI (ln3 + 1)) (nI_add ln3 1) ?_
          refine r_put F (g' := (⟨T, 0, u, h, P16303, L⟩ : RG)) e_X10_readLine_177 fp_X10_202 h16472 (by decide) ⟨_, rfl⟩ (fun _ _ _ _ q => q) (fun _ _ _ q => q) rfl rfl (by decide) (fun σ16480 h16481 g16482 g16483 f16484 => ?_)
          have ga16485 := ga16456.of (g16482 _ (by omega))
          have ga16486 := ga16457.of (g16482 _ (by omega))
          have ga16487 := ga16458.of (g16482 _ (by omega))
          have ga16488 := ga16459.of (g16482 _ (by omega))
          have ga16489 := ga16460.of (g16482 _ (by omega))
          have ga16490 := ga16461.of (g16482 _ (by omega))
          have ga16491 := ga16462.of (g16482 _ (by omega))
          have h16492 : HS V c _ [0, 2, 17, 18, 19, 20, 21, 22, 23] _ _ := ⟨HR.mono (Z' := Z) (by intro e; first | rfl | assumption | omega) h16481.1, h16481.2⟩
          exact m_vret F hQ e_X10_readLine_180 (⟨P16303, oP16303, (by unfold RP; omega), (by rw [eo16312]; show RM _ c n _ (stopS (tok t n) (j1, 3, j3, j4) nl3 nm3 np3 nc3 lc3 no3 sd3 md3 ln3); rw [stopS_1 (by decide)]; exact RM.l ((g16483 23 (by decide)).trans yd16468) ((g16483 24 (by decide)).trans yd16469) (by omega) (by omega) (by omega)), (fun S2 hS _ => by rw [eo16312] at hS; replace hS : stopS (tok t n) (j1, 3, j3, j4) nl3 nm3 np3 nc3 lc3 no3 sd3 md3 ln3 = .inr S2 := hS; rw [stopS_1 (by decide)] at hS; cases hS), h16492, rfl⟩)
        · refine r_getC F e_X10_readLine_154 fl_X10_110 h16302 (yd16329) ?_
          refine m_iconst F (v := 3) (by decide) e_X10_readLine_157 ?_
          refine m_icmp_eq F e_X10_readLine_158 (fun _ => ?_) (fun q => absurd (by decide) q)
          refine m_aload_n F rfl e_X10_readLine_166 ?_
          refine r_callV F e_X10_readLine_167 (q_X10_goOnE (x_l X) V c T Z u h P16303 L _ _  n j1 3 va3 ln3 fp3 t h16302.1 (hob) oP16303  ⟨(yd16326), (yd16327), (yd16328), (yd16329), (yd16330), (yd16331), (yd16332)⟩ ga16305 hn7 (by omega)) cb_X10_goOn ml_X10_154 im_X10_goOn se_X10_goOn h16302 rfl rfl (rest := []) rfl (Nat.le_of_ble_eq_true rfl) ⟨Nat.le_of_ble_eq_true rfl, Nat.le_of_ble_eq_true rfl⟩ ⟨Nat.le_of_ble_eq_true rfl, Nat.le_of_ble_eq_true rfl⟩ (fun r σ16493 hp => ?_)
          obtain ⟨P16496, oP16496, rP16496, pr16497, pr16498, h16494, hp⟩ := hp
          have h16495 := HS.trans h16302 h16494 (by decide)
          have xP16496 := oP16496
          unfold OKP at xP16496
          unfold RA at rP16496
          have ga16499 := ga16305.of (h16494.2 (c + 1) (by rw [kC_at (k := 1) (by decide)]; decide))
          have ga16500 := hN3.of (h16494.2 (c + 2) (by rw [kC_at (k := 2) (by decide)]; decide))
          have ga16501 := hM3.of (h16494.2 (c + 3) (by rw [kC_at (k := 3) (by decide)]; decide))
          have ga16502 := hK3.of (h16494.2 (c + 7) (by rw [kC_at (k := 7) (by decide)]; decide))
          have ga16503 := hF3.of (h16494.2 (c + 8) (by rw [kC_at (k := 8) (by decide)]; decide))
          have ga16504 := hG3.of (h16494.2 (c + 9) (by rw [kC_at (k := 9) (by decide)]; decide))
          have ga16505 := hQ3.of (h16494.2 (c + 11) (by rw [kC_at (k := 11) (by decide)]; decide))
          obtain rfl := hp
          rw [pa3] at pr16497 pr16498
          have b8 := tok_ok (t := t) (n := n) j4 c1
          obtain ⟨so16506, va16507, mt16508, yd16509⟩ := pr16498
          have hyd16510 := yd16509
          obtain ⟨yd16510, yd16511, yd16512, yd16513, yd16514, yd16515, yd16516⟩ := hyd16510
          refine m_aload_n F rfl e_X10_readLine_170 ?_
          refine m_dup F rfl e_X10_readLine_171 ?_
          refine r_getC F e_X10_readLine_172 fl_X10_202 h16495 (yd16510) ?_
          refine m_iconst F (v := 1) (by decide) e_X10_readLine_175 ?_
          refine m_iadd F e_X10_readLine_176 ?_
          refine Wm.topE (w := nI (ln3 + 1)) (nI_add ln3 1) ?_
          refine r_put F (g' := (⟨T, Z, u, h, P16496, L⟩ : RG)) e_X10_readLine_177 fp_X10_202 h16495 (by decide) ⟨_, rfl⟩ (fun _ _ _ _ q => q) (fun _ _ _ q => q) rfl rfl (by decide) (fun σ16517 h16518 g16519 g16520 f16521 => ?_)
          have ga16522 := ga16499.of (g16519 _ (by omega))
          have ga16523 := ga16500.of (g16519 _ (by omega))
          have ga16524 := ga16501.of (g16519 _ (by omega))
          have ga16525 := ga16502.of (g16519 _ (by omega))
          have ga16526 := ga16503.of (g16519 _ (by omega))
          have ga16527 := ga16504.of (g16519 _ (by omega))
          have ga16528 := ga16505.of (g16519 _ (by omega))
          exact m_vret F hQ e_X10_readLine_180 (⟨P16496, oP16496, (by unfold RP; omega), (by rw [eo16312]; show RM _ c n _ (stopS (tok t n) (j1, 4, j3, j4) nl3 nm3 np3 nc3 lc3 no3 sd3 md3 ln3); rw [stopS_ok]; exact RM.r mt16508 ⟨(f16521), ((g16520 18 (by decide)).trans yd16511), ((g16520 20 (by decide)).trans yd16512), ((g16520 21 (by decide)).trans yd16513), ((g16520 22 (by decide)).trans yd16514), ((g16520 23 (by decide)).trans yd16515), ((g16520 24 (by decide)).trans yd16516)⟩ (by omega) (by omega) (by omega) ga16523 ga16524 ga16525 ga16526 ga16527 ga16528 (by omega) (by omega) (by omega) (by omega) (by omega)), (fun S2 hS hz => by rw [eo16312] at hS; replace hS : stopS (tok t n) (j1, 4, j3, j4) nl3 nm3 np3 nc3 lc3 no3 sd3 md3 ln3 = .inr S2 := hS; rw [stopS_ok] at hS; cases hS; replace hz : (tok t n j4).2.1 ≠ 0 := hz; have h8 := b8.2.2.2 hz; omega), h16518, rfl⟩)
        · refine r_getC F e_X10_readLine_154 fl_X10_110 h16302 (yd16329) ?_
          refine m_iconst F (v := 3) (by decide) e_X10_readLine_157 ?_
          refine m_icmp_eq F e_X10_readLine_158 (fun q => absurd q (by decide)) (fun _ => ?_)
          refine m_aload_n F rfl e_X10_readLine_161 ?_
          refine m_iconst F (v := 1) (by decide) e_X10_readLine_162 ?_
          refine r_callV F e_X10_readLine_163 (q_X10_wrongE (x_l X) V c T Z u h P16303 L _ _ 1 n j1 5 va3 ln3 fp3 h16302.1 (hob) oP16303 (by omega) ⟨(yd16326), (yd16327), (yd16328), (yd16329), (yd16330), (yd16331), (yd16332)⟩ (by decide)) cb_X10_wrong ml_X10_150 im_X10_wrong se_X10_wrong h16302 rfl rfl (rest := []) rfl (Nat.le_of_ble_eq_true rfl) ⟨Nat.le_of_ble_eq_true rfl, Nat.le_of_ble_eq_true rfl⟩ ⟨Nat.le_of_ble_eq_true rfl, Nat.le_of_ble_eq_true rfl⟩ (fun r σ16529 hp => ?_)
          obtain ⟨h16530, hp⟩ := hp
          have h16531 := HS.trans h16302 h16530 (by decide)
          have ga16532 := ga16305.of (h16530.2 (c + 1) (by rw [kC_at (k := 1) (by decide)]; decide))
          have ga16533 := hN3.of (h16530.2 (c + 2) (by rw [kC_at (k := 2) (by decide)]; decide))
          have ga16534 := hM3.of (h16530.2 (c + 3) (by rw [kC_at (k := 3) (by decide)]; decide))
          have ga16535 := hK3.of (h16530.2 (c + 7) (by rw [kC_at (k := 7) (by decide)]; decide))
          have ga16536 := hF3.of (h16530.2 (c + 8) (by rw [kC_at (k := 8) (by decide)]; decide))
          have ga16537 := hG3.of (h16530.2 (c + 9) (by rw [kC_at (k := 9) (by decide)]; decide))
          have ga16538 := hQ3.of (h16530.2 (c + 11) (by rw [kC_at (k := 11) (by decide)]; decide))
          obtain ⟨hp, rfl⟩ := hp
          have hyd16539 := hp
          obtain ⟨yd16539, yd16540, yd16541, yd16542, yd16543, yd16544, yd16545⟩ := hyd16539
          refine m_aload_n F rfl e_X10_readLine_166 ?_
          refine r_callV F e_X10_readLine_167 (q_X10_goOnG (x_l X) V c T 0 u h P16303 L _ _  1 h16531.1 (hob) oP16303  (yd16544) (by decide)) cb_X10_goOn ml_X10_154 im_X10_goOn se_X10_goOn h16531 rfl rfl (rest := []) rfl (Nat.le_of_ble_eq_true rfl) ⟨Nat.le_of_ble_eq_true rfl, Nat.le_of_ble_eq_true rfl⟩ ⟨Nat.le_of_ble_eq_true rfl, Nat.le_of_ble_eq_true rfl⟩ (fun r σ16546 hp => ?_)
          obtain ⟨h16547, hp⟩ := hp
          have h16548 := HS.trans h16531 h16547 (by decide)
          have ga16549 := ga16532.of (h16547.2 (c + 1) (by rw [kC_at (k := 1) (by decide)]; decide))
          have ga16550 := ga16533.of (h16547.2 (c + 2) (by rw [kC_at (k := 2) (by decide)]; decide))
          have ga16551 := ga16534.of (h16547.2 (c + 3) (by rw [kC_at (k := 3) (by decide)]; decide))
          have ga16552 := ga16535.of (h16547.2 (c + 7) (by rw [kC_at (k := 7) (by decide)]; decide))
          have ga16553 := ga16536.of (h16547.2 (c + 8) (by rw [kC_at (k := 8) (by decide)]; decide))
          have ga16554 := ga16537.of (h16547.2 (c + 9) (by rw [kC_at (k := 9) (by decide)]; decide))
          have ga16555 := ga16538.of (h16547.2 (c + 11) (by rw [kC_at (k := 11) (by decide)]; decide))
          obtain ⟨rfl, rfl⟩ := hp
          refine m_aload_n F rfl e_X10_readLine_170 ?_
          refine m_dup F rfl e_X10_readLine_171 ?_
          refine r_getC F e_X10_readLine_172 fl_X10_202 h16548 (yd16539) ?_
          refine m_iconst F (v := 1) (by decide) e_X10_readLine_175 ?_
          refine m_iadd F e_X10_readLine_176 ?_
          refine Wm.topE (w := nI (ln3 + 1)) (nI_add ln3 1) ?_
          refine r_put F (g' := (⟨T, 0, u, h, P16303, L⟩ : RG)) e_X10_readLine_177 fp_X10_202 h16548 (by decide) ⟨_, rfl⟩ (fun _ _ _ _ q => q) (fun _ _ _ q => q) rfl rfl (by decide) (fun σ16556 h16557 g16558 g16559 f16560 => ?_)
          have ga16561 := ga16532.of (g16558 _ (by omega))
          have ga16562 := ga16533.of (g16558 _ (by omega))
          have ga16563 := ga16534.of (g16558 _ (by omega))
          have ga16564 := ga16535.of (g16558 _ (by omega))
          have ga16565 := ga16536.of (g16558 _ (by omega))
          have ga16566 := ga16537.of (g16558 _ (by omega))
          have ga16567 := ga16538.of (g16558 _ (by omega))
          have h16568 : HS V c _ [0, 2, 17, 18, 19, 20, 21, 22, 23] _ _ := ⟨HR.mono (Z' := Z) (by intro e; first | rfl | assumption | omega) h16557.1, h16557.2⟩
          exact m_vret F hQ e_X10_readLine_180 (⟨P16303, oP16303, (by unfold RP; omega), (by rw [eo16312]; show RM _ c n _ (stopS (tok t n) (j1, 5, j3, j4) nl3 nm3 np3 nc3 lc3 no3 sd3 md3 ln3); rw [stopS_1 (by decide)]; exact RM.l ((g16559 23 (by decide)).trans yd16544) ((g16559 24 (by decide)).trans yd16545) (by omega) (by omega) (by omega)), (fun S2 hS _ => by rw [eo16312] at hS; replace hS : stopS (tok t n) (j1, 5, j3, j4) nl3 nm3 np3 nc3 lc3 no3 sd3 md3 ln3 = .inr S2 := hS; rw [stopS_1 (by decide)] at hS; cases hS), h16568, rfl⟩)
  · refine r_getC F e_X10_readLine_1 fl_X10_110 h1 (yd14109) ?_
    refine m_if_eq F e_X10_readLine_4 (fun q => absurd q (by decide)) (fun _ => ?_)
    refine m_aload_n F rfl e_X10_readLine_7 ?_
    refine m_iconst F (v := 1) (by decide) e_X10_readLine_8 ?_
    refine r_callV F e_X10_readLine_9 (q_X10_wrongE (x_l X) V c T Z u h P L _ _ 1 n st 1 (nI v9) ln fp h1.1 (hob) hP (by omega) ⟨(yd14106), (yd14107), (yd14108), (yd14109), (yd14110), (yd14111), (yd14112)⟩ (by decide)) cb_X10_wrong ml_X10_150 im_X10_wrong se_X10_wrong h1 rfl rfl (rest := []) rfl (Nat.le_of_ble_eq_true rfl) ⟨Nat.le_of_ble_eq_true rfl, Nat.le_of_ble_eq_true rfl⟩ ⟨Nat.le_of_ble_eq_true rfl, Nat.le_of_ble_eq_true rfl⟩ (fun r σ16569 hp => ?_)
    obtain ⟨h16570, hp⟩ := hp
    have h16571 := HS.trans h1 h16570 (by decide)
    have ga16572 := hp1.of (h16570.2 (c + 1) (by rw [kC_at (k := 1) (by decide)]; decide))
    have ga16573 := hp6.of (h16570.2 (c + 2) (by rw [kC_at (k := 2) (by decide)]; decide))
    have ga16574 := hp7.of (h16570.2 (c + 3) (by rw [kC_at (k := 3) (by decide)]; decide))
    have ga16575 := hp8.of (h16570.2 (c + 7) (by rw [kC_at (k := 7) (by decide)]; decide))
    have ga16576 := hp9.of (h16570.2 (c + 8) (by rw [kC_at (k := 8) (by decide)]; decide))
    have ga16577 := hp10.of (h16570.2 (c + 9) (by rw [kC_at (k := 9) (by decide)]; decide))
    have ga16578 := hp11.of (h16570.2 (c + 11) (by rw [kC_at (k := 11) (by decide)]; decide))
    obtain ⟨hp, rfl⟩ := hp
    have hyd16579 := hp
    obtain ⟨yd16579, yd16580, yd16581, yd16582, yd16583, yd16584, yd16585⟩ := hyd16579
    refine m_goto F e_X10_readLine_12 ?_
    refine m_aload_n F rfl e_X10_readLine_146 ?_
    refine r_getC F e_X10_readLine_147 fl_X10_141 h16571 (yd16584) ?_
    refine m_if_ne F e_X10_readLine_150 (fun _ => ?_) (fun q => absurd q (by decide))
    refine m_aload_n F rfl e_X10_readLine_166 ?_
    refine r_callV F e_X10_readLine_167 (q_X10_goOnG (x_l X) V c T 0 u h P L _ _  1 h16571.1 (hob) hP  (yd16584) (by decide)) cb_X10_goOn ml_X10_154 im_X10_goOn se_X10_goOn h16571 rfl rfl (rest := []) rfl (Nat.le_of_ble_eq_true rfl) ⟨Nat.le_of_ble_eq_true rfl, Nat.le_of_ble_eq_true rfl⟩ ⟨Nat.le_of_ble_eq_true rfl, Nat.le_of_ble_eq_true rfl⟩ (fun r σ16586 hp => ?_)
    obtain ⟨h16587, hp⟩ := hp
    have h16588 := HS.trans h16571 h16587 (by decide)
    have ga16589 := ga16572.of (h16587.2 (c + 1) (by rw [kC_at (k := 1) (by decide)]; decide))
    have ga16590 := ga16573.of (h16587.2 (c + 2) (by rw [kC_at (k := 2) (by decide)]; decide))
    have ga16591 := ga16574.of (h16587.2 (c + 3) (by rw [kC_at (k := 3) (by decide)]; decide))
    have ga16592 := ga16575.of (h16587.2 (c + 7) (by rw [kC_at (k := 7) (by decide)]; decide))
    have ga16593 := ga16576.of (h16587.2 (c + 8) (by rw [kC_at (k := 8) (by decide)]; decide))
    have ga16594 := ga16577.of (h16587.2 (c + 9) (by rw [kC_at (k := 9) (by decide)]; decide))
    have ga16595 := ga16578.of (h16587.2 (c + 11) (by rw [kC_at (k := 11) (by decide)]; decide))
    obtain ⟨rfl, rfl⟩ := hp
    refine m_aload_n F rfl e_X10_readLine_170 ?_
    refine m_dup F rfl e_X10_readLine_171 ?_
    refine r_getC F e_X10_readLine_172 fl_X10_202 h16588 (yd16579) ?_
    refine m_iconst F (v := 1) (by decide) e_X10_readLine_175 ?_
    refine m_iadd F e_X10_readLine_176 ?_
    refine Wm.topE (w := nI (ln + 1)) (nI_add ln 1) ?_
    refine r_put F (g' := (⟨T, 0, u, h, P, L⟩ : RG)) e_X10_readLine_177 fp_X10_202 h16588 (by decide) ⟨_, rfl⟩ (fun _ _ _ _ q => q) (fun _ _ _ q => q) rfl rfl (by decide) (fun σ16596 h16597 g16598 g16599 f16600 => ?_)
    have ga16601 := ga16572.of (g16598 _ (by omega))
    have ga16602 := ga16573.of (g16598 _ (by omega))
    have ga16603 := ga16574.of (g16598 _ (by omega))
    have ga16604 := ga16575.of (g16598 _ (by omega))
    have ga16605 := ga16576.of (g16598 _ (by omega))
    have ga16606 := ga16577.of (g16598 _ (by omega))
    have ga16607 := ga16578.of (g16598 _ (by omega))
    have h16608 : HS V c _ [0, 2, 17, 18, 19, 20, 21, 22, 23] _ _ := ⟨HR.mono (Z' := Z) (by intro e; first | rfl | assumption | omega) h16597.1, h16597.2⟩
    exact m_vret F hQ e_X10_readLine_180 (⟨P, hP, (by unfold RP; omega), (by rw [lineS_no (by decide)]; show RM _ c n _ (.inl (1, st)); exact RM.l ((g16599 23 (by decide)).trans yd16584) ((g16599 24 (by decide)).trans yd16585) (by omega) (by omega) (by omega)), (fun S2 hS _ => by rw [lineS_no (by decide)] at hS; cases hS), h16608, rfl⟩)
  · refine r_getC F e_X10_readLine_1 fl_X10_110 h1 (yd14109) ?_
    refine m_if_eq F e_X10_readLine_4 (fun q => absurd q (by decide)) (fun _ => ?_)
    refine m_aload_n F rfl e_X10_readLine_7 ?_
    refine m_iconst F (v := 1) (by decide) e_X10_readLine_8 ?_
    refine r_callV F e_X10_readLine_9 (q_X10_wrongE (x_l X) V c T Z u h P L _ _ 1 n st 2 (nI w9) ln fp h1.1 (hob) hP (by omega) ⟨(yd14106), (yd14107), (yd14108), (yd14109), (yd14110), (yd14111), (yd14112)⟩ (by decide)) cb_X10_wrong ml_X10_150 im_X10_wrong se_X10_wrong h1 rfl rfl (rest := []) rfl (Nat.le_of_ble_eq_true rfl) ⟨Nat.le_of_ble_eq_true rfl, Nat.le_of_ble_eq_true rfl⟩ ⟨Nat.le_of_ble_eq_true rfl, Nat.le_of_ble_eq_true rfl⟩ (fun r σ16609 hp => ?_)
    obtain ⟨h16610, hp⟩ := hp
    have h16611 := HS.trans h1 h16610 (by decide)
    have ga16612 := hp1.of (h16610.2 (c + 1) (by rw [kC_at (k := 1) (by decide)]; decide))
    have ga16613 := hp6.of (h16610.2 (c + 2) (by rw [kC_at (k := 2) (by decide)]; decide))
    have ga16614 := hp7.of (h16610.2 (c + 3) (by rw [kC_at (k := 3) (by decide)]; decide))
    have ga16615 := hp8.of (h16610.2 (c + 7) (by rw [kC_at (k := 7) (by decide)]; decide))
    have ga16616 := hp9.of (h16610.2 (c + 8) (by rw [kC_at (k := 8) (by decide)]; decide))
    have ga16617 := hp10.of (h16610.2 (c + 9) (by rw [kC_at (k := 9) (by decide)]; decide))
    have ga16618 := hp11.of (h16610.2 (c + 11) (by rw [kC_at (k := 11) (by decide)]; decide))
    obtain ⟨hp, rfl⟩ := hp
    have hyd16619 := hp
    obtain ⟨yd16619, yd16620, yd16621, yd16622, yd16623, yd16624, yd16625⟩ := hyd16619
    refine m_goto F e_X10_readLine_12 ?_
    refine m_aload_n F rfl e_X10_readLine_146 ?_
    refine r_getC F e_X10_readLine_147 fl_X10_141 h16611 (yd16624) ?_
    refine m_if_ne F e_X10_readLine_150 (fun _ => ?_) (fun q => absurd q (by decide))
    refine m_aload_n F rfl e_X10_readLine_166 ?_
    refine r_callV F e_X10_readLine_167 (q_X10_goOnG (x_l X) V c T 0 u h P L _ _  1 h16611.1 (hob) hP  (yd16624) (by decide)) cb_X10_goOn ml_X10_154 im_X10_goOn se_X10_goOn h16611 rfl rfl (rest := []) rfl (Nat.le_of_ble_eq_true rfl) ⟨Nat.le_of_ble_eq_true rfl, Nat.le_of_ble_eq_true rfl⟩ ⟨Nat.le_of_ble_eq_true rfl, Nat.le_of_ble_eq_true rfl⟩ (fun r σ16626 hp => ?_)
    obtain ⟨h16627, hp⟩ := hp
    have h16628 := HS.trans h16611 h16627 (by decide)
    have ga16629 := ga16612.of (h16627.2 (c + 1) (by rw [kC_at (k := 1) (by decide)]; decide))
    have ga16630 := ga16613.of (h16627.2 (c + 2) (by rw [kC_at (k := 2) (by decide)]; decide))
    have ga16631 := ga16614.of (h16627.2 (c + 3) (by rw [kC_at (k := 3) (by decide)]; decide))
    have ga16632 := ga16615.of (h16627.2 (c + 7) (by rw [kC_at (k := 7) (by decide)]; decide))
    have ga16633 := ga16616.of (h16627.2 (c + 8) (by rw [kC_at (k := 8) (by decide)]; decide))
    have ga16634 := ga16617.of (h16627.2 (c + 9) (by rw [kC_at (k := 9) (by decide)]; decide))
    have ga16635 := ga16618.of (h16627.2 (c + 11) (by rw [kC_at (k := 11) (by decide)]; decide))
    obtain ⟨rfl, rfl⟩ := hp
    refine m_aload_n F rfl e_X10_readLine_170 ?_
    refine m_dup F rfl e_X10_readLine_171 ?_
    refine r_getC F e_X10_readLine_172 fl_X10_202 h16628 (yd16619) ?_
    refine m_iconst F (v := 1) (by decide) e_X10_readLine_175 ?_
    refine m_iadd F e_X10_readLine_176 ?_
    refine Wm.topE (w := nI (ln + 1)) (nI_add ln 1) ?_
    refine r_put F (g' := (⟨T, 0, u, h, P, L⟩ : RG)) e_X10_readLine_177 fp_X10_202 h16628 (by decide) ⟨_, rfl⟩ (fun _ _ _ _ q => q) (fun _ _ _ q => q) rfl rfl (by decide) (fun σ16636 h16637 g16638 g16639 f16640 => ?_)
    have ga16641 := ga16612.of (g16638 _ (by omega))
    have ga16642 := ga16613.of (g16638 _ (by omega))
    have ga16643 := ga16614.of (g16638 _ (by omega))
    have ga16644 := ga16615.of (g16638 _ (by omega))
    have ga16645 := ga16616.of (g16638 _ (by omega))
    have ga16646 := ga16617.of (g16638 _ (by omega))
    have ga16647 := ga16618.of (g16638 _ (by omega))
    have h16648 : HS V c _ [0, 2, 17, 18, 19, 20, 21, 22, 23] _ _ := ⟨HR.mono (Z' := Z) (by intro e; first | rfl | assumption | omega) h16637.1, h16637.2⟩
    exact m_vret F hQ e_X10_readLine_180 (⟨P, hP, (by unfold RP; omega), (by rw [lineS_no (by decide)]; show RM _ c n _ (.inl (1, st)); exact RM.l ((g16639 23 (by decide)).trans yd16624) ((g16639 24 (by decide)).trans yd16625) (by omega) (by omega) (by omega)), (fun S2 hS _ => by rw [lineS_no (by decide)] at hS; cases hS), h16648, rfl⟩)
  · refine r_getC F e_X10_readLine_1 fl_X10_110 h1 (yd14109) ?_
    refine m_if_eq F e_X10_readLine_4 (fun q => absurd q (by decide)) (fun _ => ?_)
    refine m_aload_n F rfl e_X10_readLine_7 ?_
    refine m_iconst F (v := 1) (by decide) e_X10_readLine_8 ?_
    refine r_callV F e_X10_readLine_9 (q_X10_wrongE (x_l X) V c T Z u h P L _ _ 1 n st 3 va ln fp h1.1 (hob) hP (by omega) ⟨(yd14106), (yd14107), (yd14108), (yd14109), (yd14110), (yd14111), (yd14112)⟩ (by decide)) cb_X10_wrong ml_X10_150 im_X10_wrong se_X10_wrong h1 rfl rfl (rest := []) rfl (Nat.le_of_ble_eq_true rfl) ⟨Nat.le_of_ble_eq_true rfl, Nat.le_of_ble_eq_true rfl⟩ ⟨Nat.le_of_ble_eq_true rfl, Nat.le_of_ble_eq_true rfl⟩ (fun r σ16649 hp => ?_)
    obtain ⟨h16650, hp⟩ := hp
    have h16651 := HS.trans h1 h16650 (by decide)
    have ga16652 := hp1.of (h16650.2 (c + 1) (by rw [kC_at (k := 1) (by decide)]; decide))
    have ga16653 := hp6.of (h16650.2 (c + 2) (by rw [kC_at (k := 2) (by decide)]; decide))
    have ga16654 := hp7.of (h16650.2 (c + 3) (by rw [kC_at (k := 3) (by decide)]; decide))
    have ga16655 := hp8.of (h16650.2 (c + 7) (by rw [kC_at (k := 7) (by decide)]; decide))
    have ga16656 := hp9.of (h16650.2 (c + 8) (by rw [kC_at (k := 8) (by decide)]; decide))
    have ga16657 := hp10.of (h16650.2 (c + 9) (by rw [kC_at (k := 9) (by decide)]; decide))
    have ga16658 := hp11.of (h16650.2 (c + 11) (by rw [kC_at (k := 11) (by decide)]; decide))
    obtain ⟨hp, rfl⟩ := hp
    have hyd16659 := hp
    obtain ⟨yd16659, yd16660, yd16661, yd16662, yd16663, yd16664, yd16665⟩ := hyd16659
    refine m_goto F e_X10_readLine_12 ?_
    refine m_aload_n F rfl e_X10_readLine_146 ?_
    refine r_getC F e_X10_readLine_147 fl_X10_141 h16651 (yd16664) ?_
    refine m_if_ne F e_X10_readLine_150 (fun _ => ?_) (fun q => absurd q (by decide))
    refine m_aload_n F rfl e_X10_readLine_166 ?_
    refine r_callV F e_X10_readLine_167 (q_X10_goOnG (x_l X) V c T 0 u h P L _ _  1 h16651.1 (hob) hP  (yd16664) (by decide)) cb_X10_goOn ml_X10_154 im_X10_goOn se_X10_goOn h16651 rfl rfl (rest := []) rfl (Nat.le_of_ble_eq_true rfl) ⟨Nat.le_of_ble_eq_true rfl, Nat.le_of_ble_eq_true rfl⟩ ⟨Nat.le_of_ble_eq_true rfl, Nat.le_of_ble_eq_true rfl⟩ (fun r σ16666 hp => ?_)
    obtain ⟨h16667, hp⟩ := hp
    have h16668 := HS.trans h16651 h16667 (by decide)
    have ga16669 := ga16652.of (h16667.2 (c + 1) (by rw [kC_at (k := 1) (by decide)]; decide))
    have ga16670 := ga16653.of (h16667.2 (c + 2) (by rw [kC_at (k := 2) (by decide)]; decide))
    have ga16671 := ga16654.of (h16667.2 (c + 3) (by rw [kC_at (k := 3) (by decide)]; decide))
    have ga16672 := ga16655.of (h16667.2 (c + 7) (by rw [kC_at (k := 7) (by decide)]; decide))
    have ga16673 := ga16656.of (h16667.2 (c + 8) (by rw [kC_at (k := 8) (by decide)]; decide))
    have ga16674 := ga16657.of (h16667.2 (c + 9) (by rw [kC_at (k := 9) (by decide)]; decide))
    have ga16675 := ga16658.of (h16667.2 (c + 11) (by rw [kC_at (k := 11) (by decide)]; decide))
    obtain ⟨rfl, rfl⟩ := hp
    refine m_aload_n F rfl e_X10_readLine_170 ?_
    refine m_dup F rfl e_X10_readLine_171 ?_
    refine r_getC F e_X10_readLine_172 fl_X10_202 h16668 (yd16659) ?_
    refine m_iconst F (v := 1) (by decide) e_X10_readLine_175 ?_
    refine m_iadd F e_X10_readLine_176 ?_
    refine Wm.topE (w := nI (ln + 1)) (nI_add ln 1) ?_
    refine r_put F (g' := (⟨T, 0, u, h, P, L⟩ : RG)) e_X10_readLine_177 fp_X10_202 h16668 (by decide) ⟨_, rfl⟩ (fun _ _ _ _ q => q) (fun _ _ _ q => q) rfl rfl (by decide) (fun σ16676 h16677 g16678 g16679 f16680 => ?_)
    have ga16681 := ga16652.of (g16678 _ (by omega))
    have ga16682 := ga16653.of (g16678 _ (by omega))
    have ga16683 := ga16654.of (g16678 _ (by omega))
    have ga16684 := ga16655.of (g16678 _ (by omega))
    have ga16685 := ga16656.of (g16678 _ (by omega))
    have ga16686 := ga16657.of (g16678 _ (by omega))
    have ga16687 := ga16658.of (g16678 _ (by omega))
    have h16688 : HS V c _ [0, 2, 17, 18, 19, 20, 21, 22, 23] _ _ := ⟨HR.mono (Z' := Z) (by intro e; first | rfl | assumption | omega) h16677.1, h16677.2⟩
    exact m_vret F hQ e_X10_readLine_180 (⟨P, hP, (by unfold RP; omega), (by rw [lineS_no (by decide)]; show RM _ c n _ (.inl (1, st)); exact RM.l ((g16679 23 (by decide)).trans yd16664) ((g16679 24 (by decide)).trans yd16665) (by omega) (by omega) (by omega)), (fun S2 hS _ => by rw [lineS_no (by decide)] at hS; cases hS), h16688, rfl⟩)
  · refine r_getC F e_X10_readLine_1 fl_X10_110 h1 (yd14109) ?_
    refine m_if_eq F e_X10_readLine_4 (fun q => absurd q (by decide)) (fun _ => ?_)
    refine m_aload_n F rfl e_X10_readLine_7 ?_
    refine m_iconst F (v := 1) (by decide) e_X10_readLine_8 ?_
    refine r_callV F e_X10_readLine_9 (q_X10_wrongE (x_l X) V c T Z u h P L _ _ 1 n st 5 va ln fp h1.1 (hob) hP (by omega) ⟨(yd14106), (yd14107), (yd14108), (yd14109), (yd14110), (yd14111), (yd14112)⟩ (by decide)) cb_X10_wrong ml_X10_150 im_X10_wrong se_X10_wrong h1 rfl rfl (rest := []) rfl (Nat.le_of_ble_eq_true rfl) ⟨Nat.le_of_ble_eq_true rfl, Nat.le_of_ble_eq_true rfl⟩ ⟨Nat.le_of_ble_eq_true rfl, Nat.le_of_ble_eq_true rfl⟩ (fun r σ16689 hp => ?_)
    obtain ⟨h16690, hp⟩ := hp
    have h16691 := HS.trans h1 h16690 (by decide)
    have ga16692 := hp1.of (h16690.2 (c + 1) (by rw [kC_at (k := 1) (by decide)]; decide))
    have ga16693 := hp6.of (h16690.2 (c + 2) (by rw [kC_at (k := 2) (by decide)]; decide))
    have ga16694 := hp7.of (h16690.2 (c + 3) (by rw [kC_at (k := 3) (by decide)]; decide))
    have ga16695 := hp8.of (h16690.2 (c + 7) (by rw [kC_at (k := 7) (by decide)]; decide))
    have ga16696 := hp9.of (h16690.2 (c + 8) (by rw [kC_at (k := 8) (by decide)]; decide))
    have ga16697 := hp10.of (h16690.2 (c + 9) (by rw [kC_at (k := 9) (by decide)]; decide))
    have ga16698 := hp11.of (h16690.2 (c + 11) (by rw [kC_at (k := 11) (by decide)]; decide))
    obtain ⟨hp, rfl⟩ := hp
    have hyd16699 := hp
    obtain ⟨yd16699, yd16700, yd16701, yd16702, yd16703, yd16704, yd16705⟩ := hyd16699
    refine m_goto F e_X10_readLine_12 ?_
    refine m_aload_n F rfl e_X10_readLine_146 ?_
    refine r_getC F e_X10_readLine_147 fl_X10_141 h16691 (yd16704) ?_
    refine m_if_ne F e_X10_readLine_150 (fun _ => ?_) (fun q => absurd q (by decide))
    refine m_aload_n F rfl e_X10_readLine_166 ?_
    refine r_callV F e_X10_readLine_167 (q_X10_goOnG (x_l X) V c T 0 u h P L _ _  1 h16691.1 (hob) hP  (yd16704) (by decide)) cb_X10_goOn ml_X10_154 im_X10_goOn se_X10_goOn h16691 rfl rfl (rest := []) rfl (Nat.le_of_ble_eq_true rfl) ⟨Nat.le_of_ble_eq_true rfl, Nat.le_of_ble_eq_true rfl⟩ ⟨Nat.le_of_ble_eq_true rfl, Nat.le_of_ble_eq_true rfl⟩ (fun r σ16706 hp => ?_)
    obtain ⟨h16707, hp⟩ := hp
    have h16708 := HS.trans h16691 h16707 (by decide)
    have ga16709 := ga16692.of (h16707.2 (c + 1) (by rw [kC_at (k := 1) (by decide)]; decide))
    have ga16710 := ga16693.of (h16707.2 (c + 2) (by rw [kC_at (k := 2) (by decide)]; decide))
    have ga16711 := ga16694.of (h16707.2 (c + 3) (by rw [kC_at (k := 3) (by decide)]; decide))
    have ga16712 := ga16695.of (h16707.2 (c + 7) (by rw [kC_at (k := 7) (by decide)]; decide))
    have ga16713 := ga16696.of (h16707.2 (c + 8) (by rw [kC_at (k := 8) (by decide)]; decide))
    have ga16714 := ga16697.of (h16707.2 (c + 9) (by rw [kC_at (k := 9) (by decide)]; decide))
    have ga16715 := ga16698.of (h16707.2 (c + 11) (by rw [kC_at (k := 11) (by decide)]; decide))
    obtain ⟨rfl, rfl⟩ := hp
    refine m_aload_n F rfl e_X10_readLine_170 ?_
    refine m_dup F rfl e_X10_readLine_171 ?_
    refine r_getC F e_X10_readLine_172 fl_X10_202 h16708 (yd16699) ?_
    refine m_iconst F (v := 1) (by decide) e_X10_readLine_175 ?_
    refine m_iadd F e_X10_readLine_176 ?_
    refine Wm.topE (w := nI (ln + 1)) (nI_add ln 1) ?_
    refine r_put F (g' := (⟨T, 0, u, h, P, L⟩ : RG)) e_X10_readLine_177 fp_X10_202 h16708 (by decide) ⟨_, rfl⟩ (fun _ _ _ _ q => q) (fun _ _ _ q => q) rfl rfl (by decide) (fun σ16716 h16717 g16718 g16719 f16720 => ?_)
    have ga16721 := ga16692.of (g16718 _ (by omega))
    have ga16722 := ga16693.of (g16718 _ (by omega))
    have ga16723 := ga16694.of (g16718 _ (by omega))
    have ga16724 := ga16695.of (g16718 _ (by omega))
    have ga16725 := ga16696.of (g16718 _ (by omega))
    have ga16726 := ga16697.of (g16718 _ (by omega))
    have ga16727 := ga16698.of (g16718 _ (by omega))
    have h16728 : HS V c _ [0, 2, 17, 18, 19, 20, 21, 22, 23] _ _ := ⟨HR.mono (Z' := Z) (by intro e; first | rfl | assumption | omega) h16717.1, h16717.2⟩
    exact m_vret F hQ e_X10_readLine_180 (⟨P, hP, (by unfold RP; omega), (by rw [lineS_no (by decide)]; show RM _ c n _ (.inl (1, st)); exact RM.l ((g16719 23 (by decide)).trans yd16704) ((g16719 24 (by decide)).trans yd16705) (by omega) (by omega) (by omega)), (fun S2 hS _ => by rw [lineS_no (by decide)] at hS; cases hS), h16728, rfl⟩)
