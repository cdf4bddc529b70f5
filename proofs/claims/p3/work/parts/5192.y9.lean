theorem HR.fw {V : VX} {c j : Nat} {g : RG} {σ : Mem} (h : HR V c g σ) (hj : rL[j]? = some (0, 0)) : ∃ y : Int32, fld σ c j = some (.int y) := by
  obtain ⟨fs, e, q1, q2⟩ : ∃ fs, σ c = some (ob 8 fs) ∧ TyO c g fs := h.cell (k := 0) (by decide)
  obtain ⟨v, h2, x, rfl⟩ := q2 j (0, 0) hj
  exact ⟨x, fld_of e h2⟩
theorem HR.f20 {V : VX} {c : Nat} {g : RG} {σ : Mem} (h : HR V c g σ) : ∃ y : Nat, y ≤ 700 ∧ fld σ c 20 = some (.int (nI y)) := by
  obtain ⟨fs, e, q1, q2⟩ : ∃ fs, σ c = some (ob 8 fs) ∧ TyO c g fs := h.cell (k := 0) (by decide)
  obtain ⟨v, h2, x, hx, rfl⟩ := q2 20 (1, 700) rfl
  exact ⟨x, hx, fld_of e h2⟩
theorem textS_L {X : Nat → Tk} {f : Nat} {S : SS} {e : Nat × Nat} (h0 : S.1.2.1 ≠ 0) (h : thenS (lineT X S) (stopT X) = .inl e) : textS X (f + 1) S = .inl e := by
  show (if S.1.2.1 = 0 then _ else _) = _
  rw [if_neg h0, h]; rfl
theorem textS_R {X : Nat → Tk} {f : Nat} {S S2 : SS} (h0 : S.1.2.1 ≠ 0) (h : thenS (lineT X S) (stopT X) = .inr S2) : textS X (f + 1) S = textS X f S2 := by
  show (if S.1.2.1 = 0 then _ else _) = _
  rw [if_neg h0, h]; rfl
theorem MT.z {so va : Int32} {s v : Nat} (h : MT so va s v) : so = 4 ↔ s = 0 := by
  rcases h with ⟨rfl, rfl⟩ | ⟨rfl, rfl, _⟩ | ⟨rfl, rfl, _⟩ | ⟨rfl, rfl, _⟩ | ⟨rfl, rfl⟩ | ⟨rfl, rfl⟩ <;> simp
set_option maxRecDepth 20000 in
theorem q_X10_readLineE (l : Launch) (V : VX) (c T Z u h : Nat) (P : NP) (L : Nat → LQ) (N : Nat) (σ : Mem) (n st : Nat) (so va : Int32) (ln : Nat) (fp : Int32) (t : Nat → Nat) (s9 v9 : Nat) (nm : Nat → Nat) (np lc no sd : Nat) (md : Nat → Nat → Bool) (h0 : HR V c ⟨T, Z, u, h, P, L⟩ σ) (hob : OKB L) (hP : OKP P) (hp0 : YD σ c n st so va ln 0 fp) (hp1 : BR σ c n t) (hp2 : n ≤ 700) (hp3 : P.a ≤ n) (hp4 : MT so va s9 v9) (hp5 : st ≤ n) (hp6 : NR σ c np no sd) (hp7 : MR σ c P.n5 nm) (hp8 : KR σ c P.n5 md) (hp9 : FR σ c 8 1 P.n5 md) (hp10 : FR σ c 9 2 P.n5 md) (hp11 : QR σ c P.n7 lc) (hp12 : np ≤ 12) (hp13 : no ≤ 4) (hp14 : sd ≤ 1) : Ct l V yX10_readLine cX10_readLine 1 none 9 0 0 N σ [.ref c] (fun r τ => ∃ P9 : NP, OKP P9 ∧ RP P P9 ∧ RM τ c n P9 (thenS (lineS (tok t n) (st, s9, v9, P.a) P.n5 nm np P.n7 lc no sd md ln) (stopT (tok t n))) ∧ (∀ S2 : SS, (thenS (lineS (tok t n) (st, s9, v9, P.a) P.n5 nm np P.n7 lc no sd md ln) (stopT (tok t n))) = .inr S2 → S2.1.2.1 ≠ 0 → P.a < P9.a) ∧ HS V c (⟨T, Z, u, h, P9, L⟩ : RG) [0, 2, 17, 18, 19, 20, 21, 22, 23] σ τ ∧ r = none) := by
  refine Ct.of (by decide) (Nat.le_of_ble_eq_true rfl) [(0, .ref c)] rfl (fun X hX F hQ => ?_)
  have hPP := hP
  unfold OKP at hPP
  have h1 : HS V c ⟨T, Z, u, h, P, L⟩ [0, 2, 17, 18, 19, 20, 21, 22, 23] σ σ := HS.start h0
  have hyd14101 := hp0
  obtain ⟨yd14101, yd14102, yd14103, yd14104, yd14105, yd14106, yd14107⟩ := hyd14101
  have hn7 := hp2
  refine m_aload_n F rfl e_X10_readLine_0 ?_
  have hmt := hp4
  rcases hmt with ⟨rfl, rfl⟩ | ⟨rfl, rfl, rfl, hv9⟩ | ⟨rfl, rfl, rfl, hv9⟩ | ⟨rfl, rfl, w9, hw9, rfl, hm9⟩ | ⟨rfl, rfl⟩ | ⟨rfl, rfl⟩
  · refine r_getC F e_X10_readLine_1 fl_X10_110 h1 (yd14104) ?_
    refine m_if_eq F e_X10_readLine_4 (fun q => absurd q (by decide)) (fun _ => ?_)
    refine m_aload_n F rfl e_X10_readLine_7 ?_
    refine m_iconst F (v := 1) (by decide) e_X10_readLine_8 ?_
    refine r_callV F e_X10_readLine_9 (q_X10_wrongE (x_l X) V c T Z u h P L _ _ 1 n st 4 va ln fp h1.1 (hob) hP (by omega) ⟨(yd14101), (yd14102), (yd14103), (yd14104), (yd14105), (yd14106), (yd14107)⟩ (by decide)) cb_X10_wrong ml_X10_150 im_X10_wrong se_X10_wrong h1 rfl rfl (rest := []) rfl (Nat.le_of_ble_eq_true rfl) ⟨Nat.le_of_ble_eq_true rfl, Nat.le_of_ble_eq_true rfl⟩ ⟨Nat.le_of_ble_eq_true rfl, Nat.le_of_ble_eq_true rfl⟩ (fun r σ14108 hp => ?_)
    obtain ⟨h14109, hp⟩ := hp
    have h14110 := HS.trans h1 h14109 (by decide)
    have ga14111 := hp1.of (h14109.2 (c + 1) (by rw [kC_at (k := 1) (by decide)]; decide))
    have ga14112 := hp6.of (h14109.2 (c + 2) (by rw [kC_at (k := 2) (by decide)]; decide))
    have ga14113 := hp7.of (h14109.2 (c + 3) (by rw [kC_at (k := 3) (by decide)]; decide))
    have ga14114 := hp8.of (h14109.2 (c + 7) (by rw [kC_at (k := 7) (by decide)]; decide))
    have ga14115 := hp9.of (h14109.2 (c + 8) (by rw [kC_at (k := 8) (by decide)]; decide))
    have ga14116 := hp10.of (h14109.2 (c + 9) (by rw [kC_at (k := 9) (by decide)]; decide))
    have ga14117 := hp11.of (h14109.2 (c + 11) (by rw [kC_at (k := 11) (by decide)]; decide))
    obtain ⟨hp, rfl⟩ := hp
    have hyd14118 := hp
    obtain ⟨yd14118, yd14119, yd14120, yd14121, yd14122, yd14123, yd14124⟩ := hyd14118
    refine m_goto F e_X10_readLine_12 ?_
    refine m_aload_n F rfl e_X10_readLine_146 ?_
    refine r_getC F e_X10_readLine_147 fl_X10_141 h14110 (yd14123) ?_
    refine m_if_ne F e_X10_readLine_150 (fun _ => ?_) (fun q => absurd q (by decide))
    refine m_aload_n F rfl e_X10_readLine_166 ?_
    refine r_callV F e_X10_readLine_167 (q_X10_goOnG (x_l X) V c T 0 u h P L _ _  1 h14110.1 (hob) hP  (yd14123) (by decide)) cb_X10_goOn ml_X10_154 im_X10_goOn se_X10_goOn h14110 rfl rfl (rest := []) rfl (Nat.le_of_ble_eq_true rfl) ⟨Nat.le_of_ble_eq_true rfl, Nat.le_of_ble_eq_true rfl⟩ ⟨Nat.le_of_ble_eq_true rfl, Nat.le_of_ble_eq_true rfl⟩ (fun r σ14125 hp => ?_)
    obtain ⟨h14126, hp⟩ := hp
    have h14127 := HS.trans h14110 h14126 (by decide)
    have ga14128 := ga14111.of (h14126.2 (c + 1) (by rw [kC_at (k := 1) (by decide)]; decide))
    have ga14129 := ga14112.of (h14126.2 (c + 2) (by rw [kC_at (k := 2) (by decide)]; decide))
    have ga14130 := ga14113.of (h14126.2 (c + 3) (by rw [kC_at (k := 3) (by decide)]; decide))
    have ga14131 := ga14114.of (h14126.2 (c + 7) (by rw [kC_at (k := 7) (by decide)]; decide))
    have ga14132 := ga14115.of (h14126.2 (c + 8) (by rw [kC_at (k := 8) (by decide)]; decide))
    have ga14133 := ga14116.of (h14126.2 (c + 9) (by rw [kC_at (k := 9) (by decide)]; decide))
    have ga14134 := ga14117.of (h14126.2 (c + 11) (by rw [kC_at (k := 11) (by decide)]; decide))
    obtain ⟨rfl, rfl⟩ := hp
    refine m_aload_n F rfl e_X10_readLine_170 ?_
    refine m_dup F rfl e_X10_readLine_171 ?_
    refine r_getC F e_X10_readLine_172 fl_X10_202 h14127 (yd14118) ?_
    refine m_iconst F (v := 1) (by decide) e_X10_readLine_175 ?_
    refine m_iadd F e_X10_readLine_176 ?_
    refine Wm.topE (w := nI (ln + 1)) (nI_add ln 1) ?_
    refine r_put F (g' := (⟨T, 0, u, h, P, L⟩ : RG)) e_X10_readLine_177 fp_X10_202 h14127 (by decide) ⟨_, rfl⟩ (fun _ _ _ _ q => q) (fun _ _ _ q => q) rfl rfl (by decide) (fun σ14135 h14136 g14137 g14138 f14139 => ?_)
    have ga14140 := ga14111.of (g14137 _ (by omega))
    have ga14141 := ga14112.of (g14137 _ (by omega))
    have ga14142 := ga14113.of (g14137 _ (by omega))
    have ga14143 := ga14114.of (g14137 _ (by omega))
    have ga14144 := ga14115.of (g14137 _ (by omega))
    have ga14145 := ga14116.of (g14137 _ (by omega))
    have ga14146 := ga14117.of (g14137 _ (by omega))
    have h14147 : HS V c _ [0, 2, 17, 18, 19, 20, 21, 22, 23] _ _ := ⟨HR.mono (Z' := Z) (by intro e; first | rfl | assumption | omega) h14136.1, h14136.2⟩
    exact m_vret F hQ e_X10_readLine_180 (⟨P, hP, (by unfold RP; omega), (by rw [lineS_no (by decide)]; show RM _ c n _ (.inl (1, st)); exact RM.l ((g14138 23 (by decide)).trans yd14123) ((g14138 24 (by decide)).trans yd14124) (by omega) (by omega) (by omega)), (fun S2 hS _ => by rw [lineS_no (by decide)] at hS; cases hS), h14147, rfl⟩)
  · have hv8 : v9 = 0 ∨ v9 = 1 ∨ v9 = 2 ∨ v9 = 3 ∨ v9 = 4 ∨ v9 = 5 ∨ v9 = 6 ∨ v9 = 7 ∨ v9 = 8 := by omega
    rcases hv8 with rfl | rfl | rfl | rfl | rfl | rfl | rfl | rfl | rfl
    · refine r_getC F e_X10_readLine_1 fl_X10_110 h1 (yd14104) ?_
      refine m_if_eq F e_X10_readLine_4 (fun _ => ?_) (fun q => absurd (by decide) q)
      refine m_aload_n F rfl e_X10_readLine_15 ?_
      refine r_getC F e_X10_readLine_16 fl_X10_120 h1 (yd14105) ?_
      refine m_if_ne F e_X10_readLine_19 (fun q => absurd (by decide) q) (fun _ => ?_)
      refine m_aload_n F rfl e_X10_readLine_22 ?_
      refine r_callV F e_X10_readLine_23 (q_X10_readLeaseE (x_l X) V c T Z u h P L _ _  n st 0 0 ln fp t 1 0 nm np lc no sd md h1.1 (hob) hP  ⟨(yd14101), (yd14102), (yd14103), (yd14104), (yd14105), (yd14106), (yd14107)⟩ hp1 hn7 (by omega) hp4 hp5 hp6 hp7 hp8 hp9 hp10 hp11 hp12 hp13 hp14) cb_X10_readLease ml_X10_178 im_X10_readLease se_X10_readLease h1 rfl rfl (rest := []) rfl (Nat.le_of_ble_eq_true rfl) ⟨Nat.le_of_ble_eq_true rfl, Nat.le_of_ble_eq_true rfl⟩ ⟨Nat.le_of_ble_eq_true rfl, Nat.le_of_ble_eq_true rfl⟩ (fun r σ14148 hp => ?_)
      obtain ⟨P14151, oP14151, rP14151, pr14152, h14149, hp⟩ := hp
      have h14150 := HS.trans h1 h14149 (by decide)
      have xP14151 := oP14151
      unfold OKP at xP14151
      unfold RP at rP14151
      have ga14153 := hp1.of (h14149.2 (c + 1) (by rw [kC_at (k := 1) (by decide)]; decide))
      have ga14154 := hp11.of (h14149.2 (c + 11) (by rw [kC_at (k := 11) (by decide)]; decide))
      obtain rfl := hp
      have rm14155 : RM σ14148 c n P14151 (lineS (tok t n) (st, 1, 0, P.a) P.n5 nm np P.n7 lc no sd md ln) := by rw [lineS_0]; exact pr14152
      cases eo14156 : lineS (tok t n) (st, 1, 0, P.a) P.n5 nm np P.n7 lc no sd md ln with
      | inl e8 =>
        rw [eo14156] at rm14155
        obtain ⟨⟨fa14157, fb14158⟩, c1, c2, c3⟩ := rm14155
        have nz8 : nI e8.1 ≠ 0 := fun e => absurd (nI_inj9 (b := 0) (by omega) (by omega) e) (by omega)
        refine m_goto F e_X10_readLine_26 ?_
        refine m_aload_n F rfl e_X10_readLine_146 ?_
        refine r_getC F e_X10_readLine_147 fl_X10_141 h14150 (fa14157) ?_
        refine m_if_ne F e_X10_readLine_150 (fun q150 => ?_) (fun q150 => ?_)
        · have c150 : e8.1 ≠ 0 := by have hh := mt (nI_eq (a := e8.1) (b := 0) (by omega) (by omega)).mpr q150; omega
          refine m_aload_n F rfl e_X10_readLine_166 ?_
          refine r_callV F e_X10_readLine_167 (q_X10_goOnG (x_l X) V c T Z u h P14151 L _ _  (nI e8.1) h14150.1 (hob) oP14151  (fa14157) (by assumption)) cb_X10_goOn ml_X10_154 im_X10_goOn se_X10_goOn h14150 rfl rfl (rest := []) rfl (Nat.le_of_ble_eq_true rfl) ⟨Nat.le_of_ble_eq_true rfl, Nat.le_of_ble_eq_true rfl⟩ ⟨Nat.le_of_ble_eq_true rfl, Nat.le_of_ble_eq_true rfl⟩ (fun r σ14159 hp => ?_)
          obtain ⟨h14160, hp⟩ := hp
          have h14161 := HS.trans h14150 h14160 (by decide)
          obtain ⟨rfl, rfl⟩ := hp
          refine m_aload_n F rfl e_X10_readLine_170 ?_
          refine m_dup F rfl e_X10_readLine_171 ?_
          refine r_get F e_X10_readLine_172 fl_X10_202 h14161 rfl (fun v hv f14162 => ?_)
          obtain ⟨x14163, rfl⟩ := hv
          refine m_iconst F (v := 1) (by decide) e_X10_readLine_175 ?_
          refine m_iadd F e_X10_readLine_176 ?_
          refine Wm.top (fun x14164 _ => ?_)
          refine r_put F (g' := (⟨T, Z, u, h, P14151, L⟩ : RG)) e_X10_readLine_177 fp_X10_202 h14161 (by decide) ⟨_, rfl⟩ (fun _ _ _ _ q => q) (fun _ _ _ q => q) rfl rfl (by decide) (fun σ14165 h14166 g14167 g14168 f14169 => ?_)
          exact m_vret F hQ e_X10_readLine_180 (⟨P14151, oP14151, (by unfold RP; omega), (by rw [eo14156]; show RM _ c n _ (.inl e8); exact RM.l ((g14168 23 (by decide)).trans fa14157) ((g14168 24 (by decide)).trans fb14158) (by omega) (by omega) (by omega)), (fun S2 hS _ => by rw [eo14156] at hS; cases hS), h14166, rfl⟩)
        · have c150 : e8.1 = 0 := (nI_eq (a := e8.1) (b := 0) (by omega) (by omega)).mp q150
          exact absurd q150 nz8
      | inr S1 =>
        rw [eo14156] at rm14155
        obtain ⟨⟨j1, j2, j3, j4⟩, nl3, nm3, np3, nc3, lc3, no3, sd3, md3, ln3⟩ := S1
        obtain ⟨so3, va3, fp3, mt3, yd3, ⟨pa3, p53, p73⟩, hN3, hM3, hK3, hF3, hG3, hQ3, c1, c2, c3, c4, c5⟩ := rm14155
        replace pa3 : _ = j4 := pa3
        replace c1 : j4 ≤ n := c1
        replace c2 : j1 ≤ n := c2
        have hyd14170 := yd3
        obtain ⟨yd14170, yd14171, yd14172, yd14173, yd14174, yd14175, yd14176⟩ := hyd14170
        refine m_goto F e_X10_readLine_26 ?_
        refine m_aload_n F rfl e_X10_readLine_146 ?_
        refine r_getC F e_X10_readLine_147 fl_X10_141 h14150 (yd14175) ?_
        refine m_if_ne F e_X10_readLine_150 (fun q => absurd (by decide) q) (fun _ => ?_)
        refine m_aload_n F rfl e_X10_readLine_153 ?_
        have hmt := mt3
        rcases hmt with ⟨rfl, rfl⟩ | ⟨rfl, rfl, rfl, hv3⟩ | ⟨rfl, rfl, rfl, hv3⟩ | ⟨rfl, rfl, w3, hw3, rfl, hm3⟩ | ⟨rfl, rfl⟩ | ⟨rfl, rfl⟩
        · refine r_getC F e_X10_readLine_154 fl_X10_110 h14150 (yd14173) ?_
          refine m_iconst F (v := 3) (by decide) e_X10_readLine_157 ?_
          refine m_icmp_eq F e_X10_readLine_158 (fun q => absurd q (by decide)) (fun _ => ?_)
          refine m_aload_n F rfl e_X10_readLine_161 ?_
          refine m_iconst F (v := 1) (by decide) e_X10_readLine_162 ?_
          refine r_callV F e_X10_readLine_163 (q_X10_wrongE (x_l X) V c T Z u h P14151 L _ _ 1 n j1 4 va3 ln3 fp3 h14150.1 (hob) oP14151 (by omega) ⟨(yd14170), (yd14171), (yd14172), (yd14173), (yd14174), (yd14175), (yd14176)⟩ (by decide)) cb_X10_wrong ml_X10_150 im_X10_wrong se_X10_wrong h14150 rfl rfl (rest := []) rfl (Nat.le_of_ble_eq_true rfl) ⟨Nat.le_of_ble_eq_true rfl, Nat.le_of_ble_eq_true rfl⟩ ⟨Nat.le_of_ble_eq_true rfl, Nat.le_of_ble_eq_true rfl⟩ (fun r σ14177 hp => ?_)
          obtain ⟨h14178, hp⟩ := hp
          have h14179 := HS.trans h14150 h14178 (by decide)
          have ga14180 := ga14153.of (h14178.2 (c + 1) (by rw [kC_at (k := 1) (by decide)]; decide))
          have ga14181 := hN3.of (h14178.2 (c + 2) (by rw [kC_at (k := 2) (by decide)]; decide))
          have ga14182 := hM3.of (h14178.2 (c + 3) (by rw [kC_at (k := 3) (by decide)]; decide))
          have ga14183 := hK3.of (h14178.2 (c + 7) (by rw [kC_at (k := 7) (by decide)]; decide))
          have ga14184 := hF3.of (h14178.2 (c + 8) (by rw [kC_at (k := 8) (by decide)]; decide))
          have ga14185 := hG3.of (h14178.2 (c + 9) (by rw [kC_at (k := 9) (by decide)]; decide))
          have ga14186 := hQ3.of (h14178.2 (c + 11) (by rw [kC_at (k := 11) (by decide)]; decide))
          obtain ⟨hp, rfl⟩ := hp
          have hyd14187 := hp
          obtain ⟨yd14187, yd14188, yd14189, yd14190, yd14191, yd14192, yd14193⟩ := hyd14187
          refine m_aload_n F rfl e_X10_readLine_166 ?_
          refine r_callV F e_X10_readLine_167 (q_X10_goOnG (x_l X) V c T 0 u h P14151 L _ _  1 h14179.1 (hob) oP14151  (yd14192) (by decide)) cb_X10_goOn ml_X10_154 im_X10_goOn se_X10_goOn h14179 rfl rfl (rest := []) rfl (Nat.le_of_ble_eq_true rfl) ⟨Nat.le_of_ble_eq_true rfl, Nat.le_of_ble_eq_true rfl⟩ ⟨Nat.le_of_ble_eq_true rfl, Nat.le_of_ble_eq_true rfl⟩ (fun r σ14194 hp => ?_)
          obtain ⟨h14195, hp⟩ := hp
          have h14196 := HS.trans h14179 h14195 (by decide)
          have ga14197 := ga14180.of (h14195.2 (c + 1) (by rw [kC_at (k := 1) (by decide)]; decide))
          have ga14198 := ga14181.of (h14195.2 (c + 2) (by rw [kC_at (k := 2) (by decide)]; decide))
          have ga14199 := ga14182.of (h14195.2 (c + 3) (by rw [kC_at (k := 3) (by decide)]; decide))
          have ga14200 := ga14183.of (h14195.2 (c + 7) (by rw [kC_at (k := 7) (by decide)]; decide))
          have ga14201 := ga14184.of (h14195.2 (c + 8) (by rw [kC_at (k := 8) (by decide)]; decide))
          have ga14202 := ga14185.of (h14195.2 (c + 9) (by rw [kC_at (k := 9) (by decide)]; decide))
          have ga14203 := ga14186.of (h14195.2 (c + 11) (by rw [kC_at (k := 11) (by decide)]; decide))
          obtain ⟨rfl, rfl⟩ := hp
          refine m_aload_n F rfl e_X10_readLine_170 ?_
          refine m_dup F rfl e_X10_readLine_171 ?_
          refine r_getC F e_X10_readLine_172 fl_X10_202 h14196 (yd14187) ?_
          refine m_iconst F (v := 1) (by decide) e_X10_readLine_175 ?_
          refine m_iadd F e_X10_readLine_176 ?_
          refine Wm.topE (w := nI (ln3 + 1)) (nI_add ln3 1) ?_
          refine r_put F (g' := (⟨T, 0, u, h, P14151, L⟩ : RG)) e_X10_readLine_177 fp_X10_202 h14196 (by decide) ⟨_, rfl⟩ (fun _ _ _ _ q => q) (fun _ _ _ q => q) rfl rfl (by decide) (fun σ14204 h14205 g14206 g14207 f14208 => ?_)
          have ga14209 := ga14180.of (g14206 _ (by omega))
          have ga14210 := ga14181.of (g14206 _ (by omega))
          have ga14211 := ga14182.of (g14206 _ (by omega))
          have ga14212 := ga14183.of (g14206 _ (by omega))
          have ga14213 := ga14184.of (g14206 _ (by omega))
          have ga14214 := ga14185.of (g14206 _ (by omega))
          have ga14215 := ga14186.of (g14206 _ (by omega))
          have h14216 : HS V c _ [0, 2, 17, 18, 19, 20, 21, 22, 23] _ _ := ⟨HR.mono (Z' := Z) (by intro e; first | rfl | assumption | omega) h14205.1, h14205.2⟩
          exact m_vret F hQ e_X10_readLine_180 (⟨P14151, oP14151, (by unfold RP; omega), (by rw [eo14156]; show RM _ c n _ (stopS (tok t n) (j1, 0, j3, j4) nl3 nm3 np3 nc3 lc3 no3 sd3 md3 ln3); rw [stopS_1 (by decide)]; exact RM.l ((g14207 23 (by decide)).trans yd14192) ((g14207 24 (by decide)).trans yd14193) (by omega) (by omega) (by omega)), (fun S2 hS _ => by rw [eo14156] at hS; replace hS : stopS (tok t n) (j1, 0, j3, j4) nl3 nm3 np3 nc3 lc3 no3 sd3 md3 ln3 = .inr S2 := hS; rw [stopS_1 (by decide)] at hS; cases hS), h14216, rfl⟩)
        · refine r_getC F e_X10_readLine_154 fl_X10_110 h14150 (yd14173) ?_
          refine m_iconst F (v := 3) (by decide) e_X10_readLine_157 ?_
          refine m_icmp_eq F e_X10_readLine_158 (fun q => absurd q (by decide)) (fun _ => ?_)
          refine m_aload_n F rfl e_X10_readLine_161 ?_
          refine m_iconst F (v := 1) (by decide) e_X10_readLine_162 ?_
          refine r_callV F e_X10_readLine_163 (q_X10_wrongE (x_l X) V c T Z u h P14151 L _ _ 1 n j1 0 (nI j3) ln3 fp3 h14150.1 (hob) oP14151 (by omega) ⟨(yd14170), (yd14171), (yd14172), (yd14173), (yd14174), (yd14175), (yd14176)⟩ (by decide)) cb_X10_wrong ml_X10_150 im_X10_wrong se_X10_wrong h14150 rfl rfl (rest := []) rfl (Nat.le_of_ble_eq_true rfl) ⟨Nat.le_of_ble_eq_true rfl, Nat.le_of_ble_eq_true rfl⟩ ⟨Nat.le_of_ble_eq_true rfl, Nat.le_of_ble_eq_true rfl⟩ (fun r σ14217 hp => ?_)
          obtain ⟨h14218, hp⟩ := hp
          have h14219 := HS.trans h14150 h14218 (by decide)
          have ga14220 := ga14153.of (h14218.2 (c + 1) (by rw [kC_at (k := 1) (by decide)]; decide))
          have ga14221 := hN3.of (h14218.2 (c + 2) (by rw [kC_at (k := 2) (by decide)]; decide))
          have ga14222 := hM3.of (h14218.2 (c + 3) (by rw [kC_at (k := 3) (by decide)]; decide))
          have ga14223 := hK3.of (h14218.2 (c + 7) (by rw [kC_at (k := 7) (by decide)]; decide))
          have ga14224 := hF3.of (h14218.2 (c + 8) (by rw [kC_at (k := 8) (by decide)]; decide))
          have ga14225 := hG3.of (h14218.2 (c + 9) (by rw [kC_at (k := 9) (by decide)]; decide))
          have ga14226 := hQ3.of (h14218.2 (c + 11) (by rw [kC_at (k := 11) (by decide)]; decide))
          obtain ⟨hp, rfl⟩ := hp
          have hyd14227 := hp
          obtain ⟨yd14227, yd14228, yd14229, yd14230, yd14231, yd14232, yd14233⟩ := hyd14227
          refine m_aload_n F rfl e_X10_readLine_166 ?_
          refine r_callV F e_X10_readLine_167 (q_X10_goOnG (x_l X) V c T 0 u h P14151 L _ _  1 h14219.1 (hob) oP14151  (yd14232) (by decide)) cb_X10_goOn ml_X10_154 im_X10_goOn se_X10_goOn h14219 rfl rfl (rest := []) rfl (Nat.le_of_ble_eq_true rfl) ⟨Nat.le_of_ble_eq_true rfl, Nat.le_of_ble_eq_true rfl⟩ ⟨Nat.le_of_ble_eq_true rfl, Nat.le_of_ble_eq_true rfl⟩ (fun r σ14234 hp => ?_)
          obtain ⟨h14235, hp⟩ := hp
          have h14236 := HS.trans h14219 h14235 (by decide)
          have ga14237 := ga14220.of (h14235.2 (c + 1) (by rw [kC_at (k := 1) (by decide)]; decide))
          have ga14238 := ga14221.of (h14235.2 (c + 2) (by rw [kC_at (k := 2) (by decide)]; decide))
          have ga14239 := ga14222.of (h14235.2 (c + 3) (by rw [kC_at (k := 3) (by decide)]; decide))
          have ga14240 := ga14223.of (h14235.2 (c + 7) (by rw [kC_at (k := 7) (by decide)]; decide))
          have ga14241 := ga14224.of (h14235.2 (c + 8) (by rw [kC_at (k := 8) (by decide)]; decide))
          have ga14242 := ga14225.of (h14235.2 (c + 9) (by rw [kC_at (k := 9) (by decide)]; decide))
          have ga14243 := ga14226.of (h14235.2 (c + 11) (by rw [kC_at (k := 11) (by decide)]; decide))
          obtain ⟨rfl, rfl⟩ := hp
          refine m_aload_n F rfl e_X10_readLine_170 ?_
          refine m_dup F rfl e_X10_readLine_171 ?_
          refine r_getC F e_X10_readLine_172 fl_X10_202 h14236 (yd14227) ?_
          refine m_iconst F (v := 1) (by decide) e_X10_readLine_175 ?_
          refine m_iadd F e_X10_readLine_176 ?_
          refine Wm.topE (w := nI (ln3 + 1)) (nI_add ln3 1) ?_
          refine r_put F (g' := (⟨T, 0, u, h, P14151, L⟩ : RG)) e_X10_readLine_177 fp_X10_202 h14236 (by decide) ⟨_, rfl⟩ (fun _ _ _ _ q => q) (fun _ _ _ q => q) rfl rfl (by decide) (fun σ14244 h14245 g14246 g14247 f14248 => ?_)
          have ga14249 := ga14220.of (g14246 _ (by omega))
          have ga14250 := ga14221.of (g14246 _ (by omega))
          have ga14251 := ga14222.of (g14246 _ (by omega))
          have ga14252 := ga14223.of (g14246 _ (by omega))
          have ga14253 := ga14224.of (g14246 _ (by omega))
          have ga14254 := ga14225.of (g14246 _ (by omega))
          have ga14255 := ga14226.of (g14246 _ (by omega))
          have h14256 : HS V c _ [0, 2, 17, 18, 19, 20, 21, 22, 23] _ _ := ⟨HR.mono (Z' := Z) (by intro e; first | rfl | assumption | omega) h14245.1, h14245.2⟩
          exact m_vret F hQ e_X10_readLine_180 (⟨P14151, oP14151, (by unfold RP; omega), (by rw [eo14156]; show RM _ c n _ (stopS (tok t n) (j1, 1, j3, j4) nl3 nm3 np3 nc3 lc3 no3 sd3 md3 ln3); rw [stopS_1 (by decide)]; exact RM.l ((g14247 23 (by decide)).trans yd14232) ((g14247 24 (by decide)).trans yd14233) (by omega) (by omega) (by omega)), (fun S2 hS _ => by rw [eo14156] at hS; replace hS : stopS (tok t n) (j1, 1, j3, j4) nl3 nm3 np3 nc3 lc3 no3 sd3 md3 ln3 = .inr S2 := hS; rw [stopS_1 (by decide)] at hS; cases hS), h14256, rfl⟩)
        · refine r_getC F e_X10_readLine_154 fl_X10_110 h14150 (yd14173) ?_
          refine m_iconst F (v := 3) (by decide) e_X10_readLine_157 ?_
          refine m_icmp_eq F e_X10_readLine_158 (fun q => absurd q (by decide)) (fun _ => ?_)
          refine m_aload_n F rfl e_X10_readLine_161 ?_
          refine m_iconst F (v := 1) (by decide) e_X10_readLine_162 ?_
          refine r_callV F e_X10_readLine_163 (q_X10_wrongE (x_l X) V c T Z u h P14151 L _ _ 1 n j1 1 (nI j3) ln3 fp3 h14150.1 (hob) oP14151 (by omega) ⟨(yd14170), (yd14171), (yd14172), (yd14173), (yd14174), (yd14175), (yd14176)⟩ (by decide)) cb_X10_wrong ml_X10_150 im_X10_wrong se_X10_wrong h14150 rfl rfl (rest := []) rfl (Nat.le_of_ble_eq_true rfl) ⟨Nat.le_of_ble_eq_true rfl, Nat.le_of_ble_eq_true rfl⟩ ⟨Nat.le_of_ble_eq_true rfl, Nat.le_of_ble_eq_true rfl⟩ (fun r σ14257 hp => ?_)
          obtain ⟨h14258, hp⟩ := hp
          have h14259 := HS.trans h14150 h14258 (by decide)
          have ga14260 := ga14153.of (h14258.2 (c + 1) (by rw [kC_at (k := 1) (by decide)]; decide))
          have ga14261 := hN3.of (h14258.2 (c + 2) (by rw [kC_at (k := 2) (by decide)]; decide))
          have ga14262 := hM3.of (h14258.2 (c + 3) (by rw [kC_at (k := 3) (by decide)]; decide))
          have ga14263 := hK3.of (h14258.2 (c + 7) (by rw [kC_at (k := 7) (by decide)]; decide))
          have ga14264 := hF3.of (h14258.2 (c + 8) (by rw [kC_at (k := 8) (by decide)]; decide))
          have ga14265 := hG3.of (h14258.2 (c + 9) (by rw [kC_at (k := 9) (by decide)]; decide))
          have ga14266 := hQ3.of (h14258.2 (c + 11) (by rw [kC_at (k := 11) (by decide)]; decide))
          obtain ⟨hp, rfl⟩ := hp
          have hyd14267 := hp
          obtain ⟨yd14267, yd14268, yd14269, yd14270, yd14271, yd14272, yd14273⟩ := hyd14267
          refine m_aload_n F rfl e_X10_readLine_166 ?_
          refine r_callV F e_X10_readLine_167 (q_X10_goOnG (x_l X) V c T 0 u h P14151 L _ _  1 h14259.1 (hob) oP14151  (yd14272) (by decide)) cb_X10_goOn ml_X10_154 im_X10_goOn se_X10_goOn h14259 rfl rfl (rest := []) rfl (Nat.le_of_ble_eq_true rfl) ⟨Nat.le_of_ble_eq_true rfl, Nat.le_of_ble_eq_true rfl⟩ ⟨Nat.le_of_ble_eq_true rfl, Nat.le_of_ble_eq_true rfl⟩ (fun r σ14274 hp => ?_)
          obtain ⟨h14275, hp⟩ := hp
          have h14276 := HS.trans h14259 h14275 (by decide)
          have ga14277 := ga14260.of (h14275.2 (c + 1) (by rw [kC_at (k := 1) (by decide)]; decide))
          have ga14278 := ga14261.of (h14275.2 (c + 2) (by rw [kC_at (k := 2) (by decide)]; decide))
          have ga14279 := ga14262.of (h14275.2 (c + 3) (by rw [kC_at (k := 3) (by decide)]; decide))
          have ga14280 := ga14263.of (h14275.2 (c + 7) (by rw [kC_at (k := 7) (by decide)]; decide))
          have ga14281 := ga14264.of (h14275.2 (c + 8) (by rw [kC_at (k := 8) (by decide)]; decide))
          have ga14282 := ga14265.of (h14275.2 (c + 9) (by rw [kC_at (k := 9) (by decide)]; decide))
          have ga14283 := ga14266.of (h14275.2 (c + 11) (by rw [kC_at (k := 11) (by decide)]; decide))
          obtain ⟨rfl, rfl⟩ := hp
          refine m_aload_n F rfl e_X10_readLine_170 ?_
          refine m_dup F rfl e_X10_readLine_171 ?_
          refine r_getC F e_X10_readLine_172 fl_X10_202 h14276 (yd14267) ?_
          refine m_iconst F (v := 1) (by decide) e_X10_readLine_175 ?_
          refine m_iadd F e_X10_readLine_176 ?_
          refine Wm.topE (w := nI (ln3 + 1)) (nI_add ln3 1) ?_
          refine r_put F (g' := (⟨T, 0, u, h, P14151, L⟩ : RG)) e_X10_readLine_177 fp_X10_202 h14276 (by decide) ⟨_, rfl⟩ (fun _ _ _ _ q => q) (fun _ _ _ q => q) rfl rfl (by decide) (fun σ14284 h14285 g14286 g14287 f14288 => ?_)
          have ga14289 := ga14260.of (g14286 _ (by omega))
          have ga14290 := ga14261.of (g14286 _ (by omega))
          have ga14291 := ga14262.of (g14286 _ (by omega))
          have ga14292 := ga14263.of (g14286 _ (by omega))
          have ga14293 := ga14264.of (g14286 _ (by omega))
          have ga14294 := ga14265.of (g14286 _ (by omega))
          have ga14295 := ga14266.of (g14286 _ (by omega))
          have h14296 : HS V c _ [0, 2, 17, 18, 19, 20, 21, 22, 23] _ _ := ⟨HR.mono (Z' := Z) (by intro e; first | rfl | assumption | omega) h14285.1, h14285.2⟩
          exact m_vret F hQ e_X10_readLine_180 (⟨P14151, oP14151, (by unfold RP; omega), (by rw [eo14156]; show RM _ c n _ (stopS (tok t n) (j1, 2, j3, j4) nl3 nm3 np3 nc3 lc3 no3 sd3 md3 ln3); rw [stopS_1 (by decide)]; exact RM.l ((g14287 23 (by decide)).trans yd14272) ((g14287 24 (by decide)).trans yd14273) (by omega) (by omega) (by omega)), (fun S2 hS _ => by rw [eo14156] at hS; replace hS : stopS (tok t n) (j1, 2, j3, j4) nl3 nm3 np3 nc3 lc3 no3 sd3 md3 ln3 = .inr S2 := hS; rw [stopS_1 (by decide)] at hS; cases hS), h14296, rfl⟩)
        · refine r_getC F e_X10_readLine_154 fl_X10_110 h14150 (yd14173) ?_
          refine m_iconst F (v := 3) (by decide) e_X10_readLine_157 ?_
          refine m_icmp_eq F e_X10_readLine_158 (fun q => absurd q (by decide)) (fun _ => ?_)
          refine m_aload_n F rfl e_X10_readLine_161 ?_
          refine m_iconst F (v := 1) (by decide) e_X10_readLine_162 ?_
          refine r_callV F e_X10_readLine_163 (q_X10_wrongE (x_l X) V c T Z u h P14151 L _ _ 1 n j1 2 (nI w3) ln3 fp3 h14150.1 (hob) oP14151 (by omega) ⟨(yd14170), (yd14171), (yd14172), (yd14173), (yd14174), (yd14175), (yd14176)⟩ (by decide)) cb_X10_wrong ml_X10_150 im_X10_wrong se_X10_wrong h14150 rfl rfl (rest := []) rfl (Nat.le_of_ble_eq_true rfl) ⟨Nat.le_of_ble_eq_true rfl, Nat.le_of_ble_eq_true rfl⟩ ⟨Nat.le_of_ble_eq_true rfl, Nat.le_of_ble_eq_true rfl⟩ (fun r σ14297 hp => ?_)
          obtain ⟨h14298, hp⟩ := hp
          have h14299 := HS.trans h14150 h14298 (by decide)
          have ga14300 := ga14153.of (h14298.2 (c + 1) (by rw [kC_at (k := 1) (by decide)]; decide))
          have ga14301 := hN3.of (h14298.2 (c + 2) (by rw [kC_at (k := 2) (by decide)]; decide))
          have ga14302 := hM3.of (h14298.2 (c + 3) (by rw [kC_at (k := 3) (by decide)]; decide))
          have ga14303 := hK3.of (h14298.2 (c + 7) (by rw [kC_at (k := 7) (by decide)]; decide))
          have ga14304 := hF3.of (h14298.2 (c + 8) (by rw [kC_at (k := 8) (by decide)]; decide))
          have ga14305 := hG3.of (h14298.2 (c + 9) (by rw [kC_at (k := 9) (by decide)]; decide))
          have ga14306 := hQ3.of (h14298.2 (c + 11) (by rw [kC_at (k := 11) (by decide)]; decide))
          obtain ⟨hp, rfl⟩ := hp
          have hyd14307 := hp
          obtain ⟨yd14307, yd14308, yd14309, yd14310, yd14311, yd14312, yd14313⟩ := hyd14307
          refine m_aload_n F rfl e_X10_readLine_166 ?_
          refine r_callV F e_X10_readLine_167 (q_X10_goOnG (x_l X) V c T 0 u h P14151 L _ _  1 h14299.1 (hob) oP14151  (yd14312) (by decide)) cb_X10_goOn ml_X10_154 im_X10_goOn se_X10_goOn h14299 rfl rfl (rest := []) rfl (Nat.le_of_ble_eq_true rfl) ⟨Nat.le_of_ble_eq_true rfl, Nat.le_of_ble_eq_true rfl⟩ ⟨Nat.le_of_ble_eq_true rfl, Nat.le_of_ble_eq_true rfl⟩ (fun r σ14314 hp => ?_)
          obtain ⟨h14315, hp⟩ := hp
          have h14316 := HS.trans h14299 h14315 (by decide)
          have ga14317 := ga14300.of (h14315.2 (c + 1) (by rw [kC_at (k := 1) (by decide)]; decide))
          have ga14318 := ga14301.of (h14315.2 (c + 2) (by rw [kC_at (k := 2) (by decide)]; decide))
          have ga14319 := ga14302.of (h14315.2 (c + 3) (by rw [kC_at (k := 3) (by decide)]; decide))
          have ga14320 := ga14303.of (h14315.2 (c + 7) (by rw [kC_at (k := 7) (by decide)]; decide))
          have ga14321 := ga14304.of (h14315.2 (c + 8) (by rw [kC_at (k := 8) (by decide)]; decide))
          have ga14322 := ga14305.of (h14315.2 (c + 9) (by rw [kC_at (k := 9) (by decide)]; decide))
          have ga14323 := ga14306.of (h14315.2 (c + 11) (by rw [kC_at (k := 11) (by decide)]; decide))
          obtain ⟨rfl, rfl⟩ := hp
          refine m_aload_n F rfl e_X10_readLine_170 ?_
          refine m_dup F rfl e_X10_readLine_171 ?_
          refine r_getC F e_X10_readLine_172 fl_X10_202 h14316 (yd14307) ?_
          refine m_iconst F (v := 1) (by decide) e_X10_readLine_175 ?_
          refine m_iadd F e_X10_readLine_176 ?_
          refine Wm.topE (w := nI (ln3 + 1)) (nI_add ln3 1) ?_
          refine r_put F (g' := (⟨T, 0, u, h, P14151, L⟩ : RG)) e_X10_readLine_177 fp_X10_202 h14316 (by decide) ⟨_, rfl⟩ (fun _ _ _ _ q => q) (fun _ _ _ q => q) rfl rfl (by decide) (fun σ14324 h14325 g14326 g14327 f14328 => ?_)
          have ga14329 := ga14300.of (g14326 _ (by omega))
          have ga14330 := ga14301.of (g14326 _ (by omega))
          have ga14331 := ga14302.of (g14326 _ (by omega))
          have ga14332 := ga14303.of (g14326 _ (by omega))
          have ga14333 := ga14304.of (g14326 _ (by omega))
          have ga14334 := ga14305.of (g14326 _ (by omega))
          have ga14335 := ga14306.of (g14326 _ (by omega))
          have h14336 : HS V c _ [0, 2, 17, 18, 19, 20, 21, 22, 23] _ _ := ⟨HR.mono (Z' := Z) (by intro e; first | rfl | assumption | omega) h14325.1, h14325.2⟩
          exact m_vret F hQ e_X10_readLine_180 (⟨P14151, oP14151, (by unfold RP; omega), (by rw [eo14156]; show RM _ c n _ (stopS (tok t n) (j1, 3, j3, j4) nl3 nm3 np3 nc3 lc3 no3 sd3 md3 ln3); rw [stopS_1 (by decide)]; exact RM.l ((g14327 23 (by decide)).trans yd14312) ((g14327 24 (by decide)).trans yd14313) (by omega) (by omega) (by omega)), (fun S2 hS _ => by rw [eo14156] at hS; replace hS : stopS (tok t n) (j1, 3, j3, j4) nl3 nm3 np3 nc3 lc3 no3 sd3 md3 ln3 = .inr S2 := hS; rw [stopS_1 (by decide)] at hS; cases hS), h14336, rfl⟩)
        · refine r_getC F e_X10_readLine_154 fl_X10_110 h14150 (yd14173) ?_
          refine m_iconst F (v := 3) (by decide) e_X10_readLine_157 ?_
          refine m_icmp_eq F e_X10_readLine_158 (fun _ => ?_) (fun q => absurd (by decide) q)
          refine m_aload_n F rfl e_X10_readLine_166 ?_
          refine r_callV F e_X10_readLine_167 (q_X10_goOnE (x_l X) V c T Z u h P14151 L _ _  n j1 3 va3 ln3 fp3 t h14150.1 (hob) oP14151  ⟨(yd14170), (yd14171), (yd14172), (yd14173), (yd14174), (yd14175), (yd14176)⟩ ga14153 hn7 (by omega)) cb_X10_goOn ml_X10_154 im_X10_goOn se_X10_goOn h14150 rfl rfl (rest := []) rfl (Nat.le_of_ble_eq_true rfl) ⟨Nat.le_of_ble_eq_true rfl, Nat.le_of_ble_eq_true rfl⟩ ⟨Nat.le_of_ble_eq_true rfl, Nat.le_of_ble_eq_true rfl⟩ (fun r σ14337 hp => ?_)
          obtain ⟨P14340, oP14340, rP14340, pr14341, pr14342, h14338, hp⟩ := hp
          have h14339 := HS.trans h14150 h14338 (by decide)
          have xP14340 := oP14340
          unfold OKP at xP14340
          unfold RA at rP14340
          have ga14343 := ga14153.of (h14338.2 (c + 1) (by rw [kC_at (k := 1) (by decide)]; decide))
          have ga14344 := hN3.of (h14338.2 (c + 2) (by rw [kC_at (k := 2) (by decide)]; decide))
          have ga14345 := hM3.of (h14338.2 (c + 3) (by rw [kC_at (k := 3) (by decide)]; decide))
          have ga14346 := hK3.of (h14338.2 (c + 7) (by rw [kC_at (k := 7) (by decide)]; decide))
          have ga14347 := hF3.of (h14338.2 (c + 8) (by rw [kC_at (k := 8) (by decide)]; decide))
          have ga14348 := hG3.of (h14338.2 (c + 9) (by rw [kC_at (k := 9) (by decide)]; decide))
          have ga14349 := hQ3.of (h14338.2 (c + 11) (by rw [kC_at (k := 11) (by decide)]; decide))
          obtain rfl := hp
          rw [pa3] at pr14341 pr14342
          have b8 := tok_ok (t := t) (n := n) j4 c1
          obtain ⟨so14350, va14351, mt14352, yd14353⟩ := pr14342
          have hyd14354 := yd14353
          obtain ⟨yd14354, yd14355, yd14356, yd14357, yd14358, yd14359, yd14360⟩ := hyd14354
          refine m_aload_n F rfl e_X10_readLine_170 ?_
          refine m_dup F rfl e_X10_readLine_171 ?_
          refine r_getC F e_X10_readLine_172 fl_X10_202 h14339 (yd14354) ?_
          refine m_iconst F (v := 1) (by decide) e_X10_readLine_175 ?_
          refine m_iadd F e_X10_readLine_176 ?_
          refine Wm.topE (w := nI (ln3 + 1)) (nI_add ln3 1) ?_
          refine r_put F (g' := (⟨T, Z, u, h, P14340, L⟩ : RG)) e_X10_readLine_177 fp_X10_202 h14339 (by decide) ⟨_, rfl⟩ (fun _ _ _ _ q => q) (fun _ _ _ q => q) rfl rfl (by decide) (fun σ14361 h14362 g14363 g14364 f14365 => ?_)
          have ga14366 := ga14343.of (g14363 _ (by omega))
          have ga14367 := ga14344.of (g14363 _ (by omega))
          have ga14368 := ga14345.of (g14363 _ (by omega))
          have ga14369 := ga14346.of (g14363 _ (by omega))
          have ga14370 := ga14347.of (g14363 _ (by omega))
          have ga14371 := ga14348.of (g14363 _ (by omega))
          have ga14372 := ga14349.of (g14363 _ (by omega))
          exact m_vret F hQ e_X10_readLine_180 (⟨P14340, oP14340, (by unfold RP; omega), (by rw [eo14156]; show RM _ c n _ (stopS (tok t n) (j1, 4, j3, j4) nl3 nm3 np3 nc3 lc3 no3 sd3 md3 ln3); rw [stopS_ok]; exact RM.r mt14352 ⟨(f14365), ((g14364 18 (by decide)).trans yd14355), ((g14364 20 (by decide)).trans yd14356), ((g14364 21 (by decide)).trans yd14357), ((g14364 22 (by decide)).trans yd14358), ((g14364 23 (by decide)).trans yd14359), ((g14364 24 (by decide)).trans yd14360)⟩ (by omega) (by omega) (by omega) ga14367 ga14368 ga14369 ga14370 ga14371 ga14372 (by omega) (by omega) (by omega) (by omega) (by omega)), (fun S2 hS hz => by rw [eo14156] at hS; replace hS : stopS (tok t n) (j1, 4, j3, j4) nl3 nm3 np3 nc3 lc3 no3 sd3 md3 ln3 = .inr S2 := hS; rw [stopS_ok] at hS; cases hS; replace hz : (tok t n j4).2.1 ≠ 0 := hz; have h8 := b8.2.2.2 hz; omega), h14362, rfl⟩)
        · refine r_getC F e_X10_readLine_154 fl_X10_110 h14150 (yd14173) ?_
          refine m_iconst F (v := 3) (by decide) e_X10_readLine_157 ?_
          refine m_icmp_eq F e_X10_readLine_158 (fun q => absurd q (by decide)) (fun _ => ?_)
          refine m_aload_n F rfl e_X10_readLine_161 ?_
          refine m_iconst F (v := 1) (by decide) e_X10_readLine_162 ?_
          refine r_callV F e_X10_readLine_163 (q_X10_wrongE (x_l X) V c T Z u h P14151 L _ _ 1 n j1 5 va3 ln3 fp3 h14150.1 (hob) oP14151 (by omega) ⟨(yd14170), (yd14171), (yd14172), (yd14173), (yd14174), (yd14175), (yd14176)⟩ (by decide)) cb_X10_wrong ml_X10_150 im_X10_wrong se_X10_wrong h14150 rfl rfl (rest := []) rfl (Nat.le_of_ble_eq_true rfl) ⟨Nat.le_of_ble_eq_true rfl, Nat.le_of_ble_eq_true rfl⟩ ⟨Nat.le_of_ble_eq_true rfl, Nat.le_of_ble_eq_true rfl⟩ (fun r σ14373 hp => ?_)
          obtain ⟨h14374, hp⟩ := hp
          have h14375 := HS.trans h14150 h14374 (by decide)
          have ga14376 := ga14153.of (h14374.2 (c + 1) (by rw [kC_at (k := 1) (by decide)]; decide))
          have ga14377 := hN3.of (h14374.2 (c + 2) (by rw [kC_at (k := 2) (by decide)]; decide))
          have ga14378 := hM3.of (h14374.2 (c + 3) (by rw [kC_at (k := 3) (by decide)]; decide))
          have ga14379 := hK3.of (h14374.2 (c + 7) (by rw [kC_at (k := 7) (by decide)]; decide))
          have ga14380 := hF3.of (h14374.2 (c + 8) (by rw [kC_at (k := 8) (by decide)]; decide))
          have ga14381 := hG3.of (h14374.2 (c + 9) (by rw [kC_at (k := 9) (by decide)]; decide))
          have ga14382 := hQ3.of (h14374.2 (c + 11) (by rw [kC_at (k := 11) (by decide)]; decide))
          obtain ⟨hp, rfl⟩ := hp
          have hyd14383 := hp
          obtain ⟨yd14383, yd14384, yd14385, yd14386, yd14387, yd14388, yd14389⟩ := hyd14383
          refine m_aload_n F rfl e_X10_readLine_166 ?_
          refine r_callV F e_X10_readLine_167 (q_X10_goOnG (x_l X) V c T 0 u h P14151 L _ _  1 h14375.1 (hob) oP14151  (yd14388) (by decide)) cb_X10_goOn ml_X10_154 im_X10_goOn se_X10_goOn h14375 rfl rfl (rest := []) rfl (Nat.le_of_ble_eq_true rfl) ⟨Nat.le_of_ble_eq_true rfl, Nat.le_of_ble_eq_true rfl⟩ ⟨Nat.le_of_ble_eq_true rfl, Nat.le_of_ble_eq_true rfl⟩ (fun r σ14390 hp => ?_)
          obtain ⟨h14391, hp⟩ := hp
          have h14392 := HS.trans h14375 h14391 (by decide)
          have ga14393 := ga14376.of (h14391.2 (c + 1) (by rw [kC_at (k := 1) (by decide)]; decide))
          have ga14394 := ga14377.of (h14391.2 (c + 2) (by rw [kC_at (k := 2) (by decide)]; decide))
          have ga14395 := ga14378.of (h14391.2 (c + 3) (by rw [kC_at (k := 3) (by decide)]; decide))
          have ga14396 := ga14379.of (h14391.2 (c + 7) (by rw [kC_at (k := 7) (by decide)]; decide))
          have ga14397 := ga14380.of (h14391.2 (c + 8) (by rw [kC_at (k := 8) (by decide)]; decide))
          have ga14398 := ga14381.of (h14391.2 (c + 9) (by rw [kC_at (k := 9) (by decide)]; decide))
          have ga14399 := ga14382.of (h14391.2 (c + 11) (by rw [kC_at (k := 11) (by decide)]; decide))
          obtain ⟨rfl, rfl⟩ := hp
          refine m_aload_n F rfl e_X10_readLine_170 ?_
          refine m_dup F rfl e_X10_readLine_171 ?_
          refine r_getC F e_X10_readLine_172 fl_X10_202 h14392 (yd14383) ?_
          refine m_iconst F (v := 1) (by decide) e_X10_readLine_175 ?_
          refine m_iadd F e_X10_readLine_176 ?_
          refine Wm.topE (w := nI (ln3 + 1)) (nI_add ln3 1) ?_
          refine r_put F (g' := (⟨T, 0, u, h, P14151, L⟩ : RG)) e_X10_readLine_177 fp_X10_202 h14392 (by decide) ⟨_, rfl⟩ (fun _ _ _ _ q => q) (fun _ _ _ q => q) rfl rfl (by decide) (fun σ14400 h14401 g14402 g14403 f14404 => ?_)
          have ga14405 := ga14376.of (g14402 _ (by omega))
          have ga14406 := ga14377.of (g14402 _ (by omega))
          have ga14407 := ga14378.of (g14402 _ (by omega))
          have ga14408 := ga14379.of (g14402 _ (by omega))
          have ga14409 := ga14380.of (g14402 _ (by omega))
          have ga14410 := ga14381.of (g14402 _ (by omega))
          have ga14411 := ga14382.of (g14402 _ (by omega))
          have h14412 : HS V c _ [0, 2, 17, 18, 19, 20, 21, 22, 23] _ _ := ⟨HR.mono (Z' := Z) (by intro e; first | rfl | assumption | omega) h14401.1, h14401.2⟩
          exact m_vret F hQ e_X10_readLine_180 (⟨P14151, oP14151, (by unfold RP; omega), (by rw [eo14156]; show RM _ c n _ (stopS (tok t n) (j1, 5, j3, j4) nl3 nm3 np3 nc3 lc3 no3 sd3 md3 ln3); rw [stopS_1 (by decide)]; exact RM.l ((g14403 23 (by decide)).trans yd14388) ((g14403 24 (by decide)).trans yd14389) (by omega) (by omega) (by omega)), (fun S2 hS _ => by rw [eo14156] at hS; replace hS : stopS (tok t n) (j1, 5, j3, j4) nl3 nm3 np3 nc3 lc3 no3 sd3 md3 ln3 = .inr S2 := hS; rw [stopS_1 (by decide)] at hS; cases hS), h14412, rfl⟩)
    · refine r_getC F e_X10_readLine_1 fl_X10_110 h1 (yd14104) ?_
      refine m_if_eq F e_X10_readLine_4 (fun _ => ?_) (fun q => absurd (by decide) q)
      refine m_aload_n F rfl e_X10_readLine_15 ?_
      refine r_getC F e_X10_readLine_16 fl_X10_120 h1 (yd14105) ?_
      refine m_if_ne F e_X10_readLine_19 (fun _ => ?_) (fun q => absurd q (by decide))
      refine m_aload_n F rfl e_X10_readLine_29 ?_
      refine r_getC F e_X10_readLine_30 fl_X10_120 h1 (yd14105) ?_
      refine m_iconst F (v := 1) (by decide) e_X10_readLine_33 ?_
      refine m_icmp_ne F e_X10_readLine_34 (fun q => absurd (by decide) q) (fun _ => ?_)
      refine m_aload_n F rfl e_X10_readLine_37 ?_
      refine r_callV F e_X10_readLine_38 (q_X10_readPayE (x_l X) V c T Z u h P L _ _  n st 0 1 ln fp t 1 1 nm np lc no sd md h1.1 (hob) hP  ⟨(yd14101), (yd14102), (yd14103), (yd14104), (yd14105), (yd14106), (yd14107)⟩ hp1 hn7 (by omega) hp4 hp5 hp6 hp7 hp8 hp9 hp10 hp11 hp12 hp13 hp14) cb_X10_readPay ml_X10_181 im_X10_readPay se_X10_readPay h1 rfl rfl (rest := []) rfl (Nat.le_of_ble_eq_true rfl) ⟨Nat.le_of_ble_eq_true rfl, Nat.le_of_ble_eq_true rfl⟩ ⟨Nat.le_of_ble_eq_true rfl, Nat.le_of_ble_eq_true rfl⟩ (fun r σ14413 hp => ?_)
      obtain ⟨P14416, oP14416, rP14416, pr14417, h14414, hp⟩ := hp
      have h14415 := HS.trans h1 h14414 (by decide)
      have xP14416 := oP14416
      unfold OKP at xP14416
      unfold RP at rP14416
      have ga14418 := hp1.of (h14414.2 (c + 1) (by rw [kC_at (k := 1) (by decide)]; decide))
      have ga14419 := hp7.of (h14414.2 (c + 3) (by rw [kC_at (k := 3) (by decide)]; decide))
      have ga14420 := hp8.of (h14414.2 (c + 7) (by rw [kC_at (k := 7) (by decide)]; decide))
      have ga14421 := hp9.of (h14414.2 (c + 8) (by rw [kC_at (k := 8) (by decide)]; decide))
      have ga14422 := hp10.of (h14414.2 (c + 9) (by rw [kC_at (k := 9) (by decide)]; decide))
      have ga14423 := hp11.of (h14414.2 (c + 11) (by rw [kC_at (k := 11) (by decide)]; decide))
      obtain rfl := hp
      have rm14424 : RM σ14413 c n P14416 (lineS (tok t n) (st, 1, 1, P.a) P.n5 nm np P.n7 lc no sd md ln) := by rw [lineS_1]; exact pr14417
      cases eo14425 : lineS (tok t n) (st, 1, 1, P.a) P.n5 nm np P.n7 lc no sd md ln with
      | inl e8 =>
        rw [eo14425] at rm14424
        obtain ⟨⟨fa14426, fb14427⟩, c1, c2, c3⟩ := rm14424
        have nz8 : nI e8.1 ≠ 0 := fun e => absurd (nI_inj9 (b := 0) (by omega) (by omega) e) (by omega)
        refine m_goto F e_X10_readLine_41 ?_
        refine m_aload_n F rfl e_X10_readLine_146 ?_
        refine r_getC F e_X10_readLine_147 fl_X10_141 h14415 (fa14426) ?_
        refine m_if_ne F e_X10_readLine_150 (fun q150 => ?_) (fun q150 => ?_)
        · have c150 : e8.1 ≠ 0 := by have hh := mt (nI_eq (a := e8.1) (b := 0) (by omega) (by omega)).mpr q150; omega
          refine m_aload_n F rfl e_X10_readLine_166 ?_
          refine r_callV F e_X10_readLine_167 (q_X10_goOnG (x_l X) V c T Z u h P14416 L _ _  (nI e8.1) h14415.1 (hob) oP14416  (fa14426) (by assumption)) cb_X10_goOn ml_X10_154 im_X10_goOn se_X10_goOn h14415 rfl rfl (rest := []) rfl (Nat.le_of_ble_eq_true rfl) ⟨Nat.le_of_ble_eq_true rfl, Nat.le_of_ble_eq_true rfl⟩ ⟨Nat.le_of_ble_eq_true rfl, Nat.le_of_ble_eq_true rfl⟩ (fun r σ14428 hp => ?_)
          obtain ⟨h14429, hp⟩ := hp
          have h14430 := HS.trans h14415 h14429 (by decide)
          obtain ⟨rfl, rfl⟩ := hp
          refine m_aload_n F rfl e_X10_readLine_170 ?_
          refine m_dup F rfl e_X10_readLine_171 ?_
          refine r_get F e_X10_readLine_172 fl_X10_202 h14430 rfl (fun v hv f14431 => ?_)
          obtain ⟨x14432, rfl⟩ := hv
          refine m_iconst F (v := 1) (by decide) e_X10_readLine_175 ?_
          refine m_iadd F e_X10_readLine_176 ?_
          refine Wm.top (fun x14433 _ => ?_)
          refine r_put F (g' := (⟨T, Z, u, h, P14416, L⟩ : RG)) e_X10_readLine_177 fp_X10_202 h14430 (by decide) ⟨_, rfl⟩ (fun _ _ _ _ q => q) (fun _ _ _ q => q) rfl rfl (by decide) (fun σ14434 h14435 g14436 g14437 f14438 => ?_)
          exact m_vret F hQ e_X10_readLine_180 (⟨P14416, oP14416, (by unfold RP; omega), (by rw [eo14425]; show RM _ c n _ (.inl e8); exact RM.l ((g14437 23 (by decide)).trans fa14426) ((g14437 24 (by decide)).trans fb14427) (by omega) (by omega) (by omega)), (fun S2 hS _ => by rw [eo14425] at hS; cases hS), h14435, rfl⟩)
        · have c150 : e8.1 = 0 := (nI_eq (a := e8.1) (b := 0) (by omega) (by omega)).mp q150
          exact absurd q150 nz8
      | inr S1 =>
        rw [eo14425] at rm14424
        obtain ⟨⟨j1, j2, j3, j4⟩, nl3, nm3, np3, nc3, lc3, no3, sd3, md3, ln3⟩ := S1
        obtain ⟨so3, va3, fp3, mt3, yd3, ⟨pa3, p53, p73⟩, hN3, hM3, hK3, hF3, hG3, hQ3, c1, c2, c3, c4, c5⟩ := rm14424
        replace pa3 : _ = j4 := pa3
        replace c1 : j4 ≤ n := c1
        replace c2 : j1 ≤ n := c2
        have hyd14439 := yd3
        obtain ⟨yd14439, yd14440, yd14441, yd14442, yd14443, yd14444, yd14445⟩ := hyd14439
        refine m_goto F e_X10_readLine_41 ?_
        refine m_aload_n F rfl e_X10_readLine_146 ?_
        refine r_getC F e_X10_readLine_147 fl_X10_141 h14415 (yd14444) ?_
        refine m_if_ne F e_X10_readLine_150 (fun q => absurd (by decide) q) (fun _ => ?_)
        refine m_aload_n F rfl e_X10_readLine_153 ?_
        have hmt := mt3
        rcases hmt with ⟨rfl, rfl⟩ | ⟨rfl, rfl, rfl, hv3⟩ | ⟨rfl, rfl, rfl, hv3⟩ | ⟨rfl, rfl, w3, hw3, rfl, hm3⟩ | ⟨rfl, rfl⟩ | ⟨rfl, rfl⟩
        · refine r_getC F e_X10_readLine_154 fl_X10_110 h14415 (yd14442) ?_
          refine m_iconst F (v := 3) (by decide) e_X10_readLine_157 ?_
          refine m_icmp_eq F e_X10_readLine_158 (fun q => absurd q (by decide)) (fun _ => ?_)
          refine m_aload_n F rfl e_X10_readLine_161 ?_
          refine m_iconst F (v := 1) (by decide) e_X10_readLine_162 ?_
          refine r_callV F e_X10_readLine_163 (q_X10_wrongE (x_l X) V c T Z u h P14416 L _ _ 1 n j1 4 va3 ln3 fp3 h14415.1 (hob) oP14416 (by omega) ⟨(yd14439), (yd14440), (yd14441), (yd14442), (yd14443), (yd14444), (yd14445)⟩ (by decide)) cb_X10_wrong ml_X10_150 im_X10_wrong se_X10_wrong h14415 rfl rfl (rest := []) rfl (Nat.le_of_ble_eq_true rfl) ⟨Nat.le_of_ble_eq_true rfl, Nat.le_of_ble_eq_true rfl⟩ ⟨Nat.le_of_ble_eq_true rfl, Nat.le_of_ble_eq_true rfl⟩ (fun r σ14446 hp => ?_)
          obtain ⟨h14447, hp⟩ := hp
          have h14448 := HS.trans h14415 h14447 (by decide)
          have ga14449 := ga14418.of (h14447.2 (c + 1) (by rw [kC_at (k := 1) (by decide)]; decide))
          have ga14450 := hN3.of (h14447.2 (c + 2) (by rw [kC_at (k := 2) (by decide)]; decide))
          have ga14451 := hM3.of (h14447.2 (c + 3) (by rw [kC_at (k := 3) (by decide)]; decide))
          have ga14452 := hK3.of (h14447.2 (c + 7) (by rw [kC_at (k := 7) (by decide)]; decide))
          have ga14453 := hF3.of (h14447.2 (c + 8) (by rw [kC_at (k := 8) (by decide)]; decide))
          have ga14454 := hG3.of (h14447.2 (c + 9) (by rw [kC_at (k := 9) (by decide)]; decide))
          have ga14455 := hQ3.of (h14447.2 (c + 11) (by rw [kC_at (k := 11) (by decide)]; decide))
          obtain ⟨hp, rfl⟩ := hp
          have hyd14456 := hp
          obtain ⟨yd14456, yd14457, yd14458, yd14459, yd14460, yd14461, yd14462⟩ := hyd14456
          refine m_aload_n F rfl e_X10_readLine_166 ?_
          refine r_callV F e_X10_readLine_167 (q_X10_goOnG (x_l X) V c T 0 u h P14416 L _ _  1 h14448.1 (hob) oP14416  (yd14461) (by decide)) cb_X10_goOn ml_X10_154 im_X10_goOn se_X10_goOn h14448 rfl rfl (rest := []) rfl (Nat.le_of_ble_eq_true rfl) ⟨Nat.le_of_ble_eq_true rfl, Nat.le_of_ble_eq_true rfl⟩ ⟨Nat.le_of_ble_eq_true rfl, Nat.le_of_ble_eq_true rfl⟩ (fun r σ14463 hp => ?_)
          obtain ⟨h14464, hp⟩ := hp
          have h14465 := HS.trans h14448 h14464 (by decide)
          have ga14466 := ga14449.of (h14464.2 (c + 1) (by rw [kC_at (k := 1) (by decide)]; decide))
          have ga14467 := ga14450.of (h14464.2 (c + 2) (by rw [kC_at (k := 2) (by decide)]; decide))
          have ga14468 := ga14451.of (h14464.2 (c + 3) (by rw [kC_at (k := 3) (by decide)]; decide))
          have ga14469 := ga14452.of (h14464.2 (c + 7) (by rw [kC_at (k := 7) (by decide)]; decide))
          have ga14470 := ga14453.of (h14464.2 (c + 8) (by rw [kC_at (k := 8) (by decide)]; decide))
          have ga14471 := ga14454.of (h14464.2 (c + 9) (by rw [kC_at (k := 9) (by decide)]; decide))
          have ga14472 := ga14455.of (h14464.2 (c + 11) (by rw [kC_at (k := 11) (by decide)]; decide))
          obtain ⟨rfl, rfl⟩ := hp
          refine m_aload_n F rfl e_X10_readLine_170 ?_
          refine m_dup F rfl e_X10_readLine_171 ?_
          refine r_getC F e_X10_readLine_172 fl_X10_202 h14465 (yd14456) ?_
          refine m_iconst F (v := 1) (by decide) e_X10_readLine_175 ?_
          refine m_iadd F e_X10_readLine_176 ?_
          refine Wm.topE (w := nI (ln3 + 1)) (nI_add ln3 1) ?_
          refine r_put F (g' := (⟨T, 0, u, h, P14416, L⟩ : RG)) e_X10_readLine_177 fp_X10_202 h14465 (by decide) ⟨_, rfl⟩ (fun _ _ _ _ q => q) (fun _ _ _ q => q) rfl rfl (by decide) (fun σ14473 h14474 g14475 g14476 f14477 => ?_)
          have ga14478 := ga14449.of (g14475 _ (by omega))
          have ga14479 := ga14450.of (g14475 _ (by omega))
          have ga14480 := ga14451.of (g14475 _ (by omega))
          have ga14481 := ga14452.of (g14475 _ (by omega))
          have ga14482 := ga14453.of (g14475 _ (by omega))
          have ga14483 := ga14454.of (g14475 _ (by omega))
          have ga14484 := ga14455.of (g14475 _ (by omega))
          have h14485 : HS V c _ [0, 2, 17, 18, 19, 20, 21, 22, 23] _ _ := ⟨HR.mono (Z' := Z) (by intro e; first | rfl | assumption | omega) h14474.1, h14474.2⟩
          exact m_vret F hQ e_X10_readLine_180 (⟨P14416, oP14416, (by unfold RP; omega), (by rw [eo14425]; show RM _ c n _ (stopS (tok t n) (j1, 0, j3, j4) nl3 nm3 np3 nc3 lc3 no3 sd3 md3 ln3); rw [stopS_1 (by decide)]; exact RM.l ((g14476 23 (by decide)).trans yd14461) ((g14476 24 (by decide)).trans yd14462) (by omega) (by omega) (by omega)), (fun S2 hS _ => by rw [eo14425] at hS; replace hS : stopS (tok t n) (j1, 0, j3, j4) nl3 nm3 np3 nc3 lc3 no3 sd3 md3 ln3 = .inr S2 := hS; rw [stopS_1 (by decide)] at hS; cases hS), h14485, rfl⟩)
        · refine r_getC F e_X10_readLine_154 fl_X10_110 h14415 (yd14442) ?_
          refine m_iconst F (v := 3) (by decide) e_X10_readLine_157 ?_
          refine m_icmp_eq F e_X10_readLine_158 (fun q => absurd q (by decide)) (fun _ => ?_)
          refine m_aload_n F rfl e_X10_readLine_161 ?_
          refine m_iconst F (v := 1) (by decide) e_X10_readLine_162 ?_
          refine r_callV F e_X10_readLine_163 (q_X10_wrongE (x_l X) V c T Z u h P14416 L _ _ 1 n j1 0 (nI j3) ln3 fp3 h14415.1 (hob) oP14416 (by omega) ⟨(yd14439), (yd14440), (yd14441), (yd14442), (yd14443), (yd14444), (yd14445)⟩ (by decide)) cb_X10_wrong ml_X10_150 im_X10_wrong se_X10_wrong h14415 rfl rfl (rest := []) rfl (Nat.le_of_ble_eq_true rfl) ⟨Nat.le_of_ble_eq_true rfl, Nat.le_of_ble_eq_true rfl⟩ ⟨Nat.le_of_ble_eq_true rfl, Nat.le_of_ble_eq_true rfl⟩ (fun r σ14486 hp => ?_)
          obtain ⟨h14487, hp⟩ := hp
          have h14488 := HS.trans h14415 h14487 (by decide)
          have ga14489 := ga14418.of (h14487.2 (c + 1) (by rw [kC_at (k := 1) (by decide)]; decide))
          have ga14490 := hN3.of (h14487.2 (c + 2) (by rw [kC_at (k := 2) (by decide)]; decide))
          have ga14491 := hM3.of (h14487.2 (c + 3) (by rw [kC_at (k := 3) (by decide)]; decide))
          have ga14492 := hK3.of (h14487.2 (c + 7) (by rw [kC_at (k := 7) (by decide)]; decide))
          have ga14493 := hF3.of (h14487.2 (c + 8) (by rw [kC_at (k := 8) (by decide)]; decide))
          have ga14494 := hG3.of (h14487.2 (c + 9) (by rw [kC_at (k := 9) (by decide)]; decide))
          have ga14495 := hQ3.of (h14487.2 (c + 11) (by rw [kC_at (k := 11) (by decide)]; decide))
          obtain ⟨hp, rfl⟩ := hp
          have hyd14496 := hp
          obtain ⟨yd14496, yd14497, yd14498, yd14499, yd14500, yd14501, yd14502⟩ := hyd14496
          refine m_aload_n F rfl e_X10_readLine_166 ?_
          refine r_callV F e_X10_readLine_167 (q_X10_goOnG (x_l X) V c T 0 u h P14416 L _ _  1 h14488.1 (hob) oP14416  (yd14501) (by decide)) cb_X10_goOn ml_X10_154 im_X10_goOn se_X10_goOn h14488 rfl rfl (rest := []) rfl (Nat.le_of_ble_eq_true rfl) ⟨Nat.le_of_ble_eq_true rfl, Nat.le_of_ble_eq_true rfl⟩ ⟨Nat.le_of_ble_eq_true rfl, Nat.le_of_ble_eq_true rfl⟩ (fun r σ14503 hp => ?_)
          obtain ⟨h14504, hp⟩ := hp
          have h14505 := HS.trans h14488 h14504 (by decide)
          have ga14506 := ga14489.of (h14504.2 (c + 1) (by rw [kC_at (k := 1) (by decide)]; decide))
          have ga14507 := ga14490.of (h14504.2 (c + 2) (by rw [kC_at (k := 2) (by decide)]; decide))
          have ga14508 := ga14491.of (h14504.2 (c + 3) (by rw [kC_at (k := 3) (by decide)]; decide))
          have ga14509 := ga14492.of (h14504.2 (c + 7) (by rw [kC_at (k := 7) (by decide)]; decide))
          have ga14510 := ga14493.of (h14504.2 (c + 8) (by rw [kC_at (k := 8) (by decide)]; decide))
          have ga14511 := ga14494.of (h14504.2 (c + 9) (by rw [kC_at (k := 9) (by decide)]; decide))
          have ga14512 := ga14495.of (h14504.2 (c + 11) (by rw [kC_at (k := 11) (by decide)]; decide))
          obtain ⟨rfl, rfl⟩ := hp
          refine m_aload_n F rfl e_X10_readLine_170 ?_
          refine m_dup F rfl e_X10_readLine_171 ?_
          refine r_getC F e_X10_readLine_172 fl_X10_202 h14505 (yd14496) ?_
          refine m_iconst F (v := 1) (by decide) e_X10_readLine_175 ?_
          refine m_iadd F e_X10_readLine_176 ?_
          refine Wm.topE (w := nI (ln3 + 1)) (nI_add ln3 1) ?_
          refine r_put F (g' := (⟨T, 0, u, h, P14416, L⟩ : RG)) e_X10_readLine_177 fp_X10_202 h14505 (by decide) ⟨_, rfl⟩ (fun _ _ _ _ q => q) (fun _ _ _ q => q) rfl rfl (by decide) (fun σ14513 h14514 g14515 g14516 f14517 => ?_)
          have ga14518 := ga14489.of (g14515 _ (by omega))
          have ga14519 := ga14490.of (g14515 _ (by omega))
          have ga14520 := ga14491.of (g14515 _ (by omega))
          have ga14521 := ga14492.of (g14515 _ (by omega))
          have ga14522 := ga14493.of (g14515 _ (by omega))
          have ga14523 := ga14494.of (g14515 _ (by omega))
          have ga14524 := ga14495.of (g14515 _ (by omega))
          have h14525 : HS V c _ [0, 2, 17, 18, 19, 20, 21, 22, 23] _ _ := ⟨HR.mono (Z' := Z) (by intro e; first | rfl | assumption | omega) h14514.1, h14514.2⟩
          exact m_vret F hQ e_X10_readLine_180 (⟨P14416, oP14416, (by unfold RP; omega), (by rw [eo14425]; show RM _ c n _ (stopS (tok t n) (j1, 1, j3, j4) nl3 nm3 np3 nc3 lc3 no3 sd3 md3 ln3); rw [stopS_1 (by decide)]; exact RM.l ((g14516 23 (by decide)).trans yd14501) ((g14516 24 (by decide)).trans yd14502) (by omega) (by omega) (by omega)), (fun S2 hS _ => by rw [eo14425] at hS; replace hS : stopS (tok t n) (j1, 1, j3, j4) nl3 nm3 np3 nc3 lc3 no3 sd3 md3 ln3 = .inr S2 := hS; rw [stopS_1 (by decide)] at hS; cases hS), h14525, rfl⟩)
        · refine r_getC F e_X10_readLine_154 fl_X10_110 h14415 (yd14442) ?_
          refine m_iconst F (v := 3) (by decide) e_X10_readLine_157 ?_
          refine m_icmp_eq F e_X10_readLine_158 (fun q => absurd q (by decide)) (fun _ => ?_)
          refine m_aload_n F rfl e_X10_readLine_161 ?_
          refine m_iconst F (v := 1) (by decide) e_X10_readLine_162 ?_
          refine r_callV F e_X10_readLine_163 (q_X10_wrongE (x_l X) V c T Z u h P14416 L _ _ 1 n j1 1 (nI j3) ln3 fp3 h14415.1 (hob) oP14416 (by omega) ⟨(yd14439), (yd14440), (yd14441), (yd14442), (yd14443), (yd14444), (yd14445)⟩ (by decide)) cb_X10_wrong ml_X10_150 im_X10_wrong se_X10_wrong h14415 rfl rfl (rest := []) rfl (Nat.le_of_ble_eq_true rfl) ⟨Nat.le_of_ble_eq_true rfl, Nat.le_of_ble_eq_true rfl⟩ ⟨Nat.le_of_ble_eq_true rfl, Nat.le_of_ble_eq_true rfl⟩ (fun r σ14526 hp => ?_)
          obtain ⟨h14527, hp⟩ := hp
          have h14528 := HS.trans h14415 h14527 (by decide)
          have ga14529 := ga14418.of (h14527.2 (c + 1) (by rw [kC_at (k := 1) (by decide)]; decide))
          have ga14530 := hN3.of (h14527.2 (c + 2) (by rw [kC_at (k := 2) (by decide)]; decide))
          have ga14531 := hM3.of (h14527.2 (c + 3) (by rw [kC_at (k := 3) (by decide)]; decide))
          have ga14532 := hK3.of (h14527.2 (c + 7) (by rw [kC_at (k := 7) (by decide)]; decide))
          have ga14533 := hF3.of (h14527.2 (c + 8) (by rw [kC_at (k := 8) (by decide)]; decide))
          have ga14534 := hG3.of (h14527.2 (c + 9) (by rw [kC_at (k := 9) (by decide)]; decide))
          have ga14535 := hQ3.of (h14527.2 (c + 11) (by rw [kC_at (k := 11) (by decide)]; decide))
          obtain ⟨hp, rfl⟩ := hp
          have hyd14536 := hp
          obtain ⟨yd14536, yd14537, yd14538, yd14539, yd14540, yd14541, yd14542⟩ := hyd14536
          refine m_aload_n F rfl e_X10_readLine_166 ?_
          refine r_callV F e_X10_readLine_167 (q_X10_goOnG (x_l X) V c T 0 u h P14416 L _ _  1 h14528.1 (hob) oP14416  (yd14541) (by decide)) cb_X10_goOn ml_X10_154 im_X10_goOn se_X10_goOn h14528 rfl rfl (rest := []) rfl (Nat.le_of_ble_eq_true rfl) ⟨Nat.le_of_ble_eq_true rfl, Nat.le_of_ble_eq_true rfl⟩ ⟨Nat.le_of_ble_eq_true rfl, Nat.le_of_ble_eq_true rfl⟩ (fun r σ14543 hp => ?_)
          obtain ⟨h14544, hp⟩ := hp
          have h14545 := HS.trans h14528 h14544 (by decide)
          have ga14546 := ga14529.of (h14544.2 (c + 1) (by rw [kC_at (k := 1) (by decide)]; decide))
          have ga14547 := ga14530.of (h14544.2 (c + 2) (by rw [kC_at (k := 2) (by decide)]; decide))
          have ga14548 := ga14531.of (h14544.2 (c + 3) (by rw [kC_at (k := 3) (by decide)]; decide))
          have ga14549 := ga14532.of (h14544.2 (c + 7) (by rw [kC_at (k := 7) (by decide)]; decide))
          have ga14550 := ga14533.of (h14544.2 (c + 8) (by rw [kC_at (k := 8) (by decide)]; decide))
          have ga14551 := ga14534.of (h14544.2 (c + 9) (by rw [kC_at (k := 9) (by decide)]; decide))
          have ga14552 := ga14535.of (h14544.2 (c + 11) (by rw [kC_at (k := 11) (by decide)]; decide))
          obtain ⟨rfl, rfl⟩ := hp
          refine m_aload_n F rfl e_X10_readLine_170 ?_
          refine m_dup F rfl e_X10_readLine_171 ?_
          refine r_getC F e_X10_readLine_172 fl_X10_202 h14545 (yd14536) ?_
          refine m_iconst F (v := 1) (by decide) e_X10_readLine_175 ?_
          refine m_iadd F e_X10_readLine_176 ?_
          refine Wm.topE (w := nI (ln3 + 1)) (nI_add ln3 1) ?_
          refine r_put F (g' := (⟨T, 0, u, h, P14416, L⟩ : RG)) e_X10_readLine_177 fp_X10_202 h14545 (by decide) ⟨_, rfl⟩ (fun _ _ _ _ q => q) (fun _ _ _ q => q) rfl rfl (by decide) (fun σ14553 h14554 g14555 g14556 f14557 => ?_)
          have ga14558 := ga14529.of (g14555 _ (by omega))
          have ga14559 := ga14530.of (g14555 _ (by omega))
          have ga14560 := ga14531.of (g14555 _ (by omega))
          have ga14561 := ga14532.of (g14555 _ (by omega))
          have ga14562 := ga14533.of (g14555 _ (by omega))
          have ga14563 := ga14534.of (g14555 _ (by omega))
          have ga14564 := ga14535.of (g14555 _ (by omega))
          have h14565 : HS V c _ [0, 2, 17, 18, 19, 20, 21, 22, 23] _ _ := ⟨HR.mono (Z' := Z) (by intro e; first | rfl | assumption | omega) h14554.1, h14554.2⟩
          exact m_vret F hQ e_X10_readLine_180 (⟨P14416, oP14416, (by unfold RP; omega), (by rw [eo14425]; show RM _ c n _ (stopS (tok t n) (j1, 2, j3, j4) nl3 nm3 np3 nc3 lc3 no3 sd3 md3 ln3); rw [stopS_1 (by decide)]; exact RM.l ((g14556 23 (by decide)).trans yd14541) ((g14556 24 (by decide)).trans yd14542) (by omega) (by omega) (by omega)), (fun S2 hS _ => by rw [eo14425] at hS; replace hS : stopS (tok t n) (j1, 2, j3, j4) nl3 nm3 np3 nc3 lc3 no3 sd3 md3 ln3 = .inr S2 := hS; rw [stopS_1 (by decide)] at hS; cases hS), h14565, rfl⟩)
        · refine r_getC F e_X10_readLine_154 fl_X10_110 h14415 (yd14442) ?_
          refine m_iconst F (v := 3) (by decide) e_X10_readLine_157 ?_
          refine m_icmp_eq F e_X10_readLine_158 (fun q => absurd q (by decide)) (fun _ => ?_)
          refine m_aload_n F rfl e_X10_readLine_161 ?_
          refine m_iconst F (v := 1) (by decide) e_X10_readLine_162 ?_
          refine r_callV F e_X10_readLine_163 (q_X10_wrongE (x_l X) V c T Z u h P14416 L _ _ 1 n j1 2 (nI w3) ln3 fp3 h14415.1 (hob) oP14416 (by omega) ⟨(yd14439), (yd14440), (yd14441), (yd14442), (yd14443), (yd14444), (yd14445)⟩ (by decide)) cb_X10_wrong ml_X10_150 im_X10_wrong se_X10_wrong h14415 rfl rfl (rest := []) rfl (Nat.le_of_ble_eq_true rfl) ⟨Nat.le_of_ble_eq_true rfl, Nat.le_of_ble_eq_true rfl⟩ ⟨Nat.le_of_ble_eq_true rfl, Nat.le_of_ble_eq_true rfl⟩ (fun r σ14566 hp => ?_)
          obtain ⟨h14567, hp⟩ := hp
          have h14568 := HS.trans h14415 h14567 (by decide)
          have ga14569 := ga14418.of (h14567.2 (c + 1) (by rw [kC_at (k := 1) (by decide)]; decide))
          have ga14570 := hN3.of (h14567.2 (c + 2) (by rw [kC_at (k := 2) (by decide)]; decide))
          have ga14571 := hM3.of (h14567.2 (c + 3) (by rw [kC_at (k := 3) (by decide)]; decide))
          have ga14572 := hK3.of (h14567.2 (c + 7) (by rw [kC_at (k := 7) (by decide)]; decide))
          have ga14573 := hF3.of (h14567.2 (c + 8) (by rw [kC_at (k := 8) (by decide)]; decide))
          have ga14574 := hG3.of (h14567.2 (c + 9) (by rw [kC_at (k := 9) (by decide)]; decide))
          have ga14575 := hQ3.of (h14567.2 (c + 11) (by rw [kC_at (k := 11) (by decide)]; decide))
          obtain ⟨hp, rfl⟩ := hp
          have hyd14576 := hp
          obtain ⟨yd14576, yd14577, yd14578, yd14579, yd14580, yd14581, yd14582⟩ := hyd14576
          refine m_aload_n F rfl e_X10_readLine_166 ?_
          refine r_callV F e_X10_readLine_167 (q_X10_goOnG (x_l X) V c T 0 u h P14416 L _ _  1 h14568.1 (hob) oP14416  (yd14581) (by decide)) cb_X10_goOn ml_X10_154 im_X10_goOn se_X10_goOn h14568 rfl rfl (rest := []) rfl (Nat.le_of_ble_eq_true rfl) ⟨Nat.le_of_ble_eq_true rfl, Nat.le_of_ble_eq_true rfl⟩ ⟨Nat.le_of_ble_eq_true rfl, Nat.le_of_ble_eq_true rfl⟩ (fun r σ14583 hp => ?_)
          obtain ⟨h14584, hp⟩ := hp
          have h14585 := HS.trans h14568 h14584 (by decide)
          have ga14586 := ga14569.of (h14584.2 (c + 1) (by rw [kC_at (k := 1) (by decide)]; decide))
          have ga14587 := ga14570.of (h14584.2 (c + 2) (by rw [kC_at (k := 2) (by decide)]; decide))
          have ga14588 := ga14571.of (h14584.2 (c + 3) (by rw [kC_at (k := 3) (by decide)]; decide))
          have ga14589 := ga14572.of (h14584.2 (c + 7) (by rw [kC_at (k := 7) (by decide)]; decide))
          have ga14590 := ga14573.of (h14584.2 (c + 8) (by rw [kC_at (k := 8) (by decide)]; decide))
          have ga14591 := ga14574.of (h14584.2 (c + 9) (by rw [kC_at (k := 9) (by decide)]; decide))
          have ga14592 := ga14575.of (h14584.2 (c + 11) (by rw [kC_at (k := 11) (by decide)]; decide))
          obtain ⟨rfl, rfl⟩ := hp
          refine m_aload_n F rfl e_X10_readLine_170 ?_
          refine m_dup F rfl e_X10_readLine_171 ?_
          refine r_getC F e_X10_readLine_172 fl_X10_202 h14585 (yd14576) ?_
          refine m_iconst F (v := 1) (by decide) e_X10_readLine_175 ?_
          refine m_iadd F e_X10_readLine_176 ?_
          refine Wm.topE (w := nI (ln3 + 1)) (nI_add ln3 1) ?_
          refine r_put F (g' := (⟨T, 0, u, h, P14416, L⟩ : RG)) e_X10_readLine_177 fp_X10_202 h14585 (by decide) ⟨_, rfl⟩ (fun _ _ _ _ q => q) (fun _ _ _ q => q) rfl rfl (by decide) (fun σ14593 h14594 g14595 g14596 f14597 => ?_)
          have ga14598 := ga14569.of (g14595 _ (by omega))
          have ga14599 := ga14570.of (g14595 _ (by omega))
          have ga14600 := ga14571.of (g14595 _ (by omega))
          have ga14601 := ga14572.of (g14595 _ (by omega))
          have ga14602 := ga14573.of (g14595 _ (by omega))
          have ga14603 := ga14574.of (g14595 _ (by omega))
          have ga14604 := ga14575.of (g14595 _ (by omega))
          have h14605 : HS V c _ [0, 2, 17, 18, 19, 20, 21, 22, 23] _ _ := ⟨HR.mono (Z' := Z) (by intro e; first | rfl | assumption | omega) h14594.1, h14594.2⟩
          exact m_vret F hQ e_X10_readLine_180 (⟨P14416, oP14416, (by unfold RP; omega), (by rw [eo14425]; show RM _ c n _ (stopS (tok t n) (j1, 3, j3, j4) nl3 nm3 np3 nc3 lc3 no3 sd3 md3 ln3); rw [stopS_1 (by decide)]; exact RM.l ((g14596 23 (by decide)).trans yd14581) ((g14596 24 (by decide)).trans yd14582) (by omega) (by omega) (by omega)), (fun S2 hS _ => by rw [eo14425] at hS; replace hS : stopS (tok t n) (j1, 3, j3, j4) nl3 nm3 np3 nc3 lc3 no3 sd3 md3 ln3 = .inr S2 := hS; rw [stopS_1 (by decide)] at hS; cases hS), h14605, rfl⟩)
        · refine r_getC F e_X10_readLine_154 fl_X10_110 h14415 (yd14442) ?_
          refine m_iconst F (v := 3) (by decide) e_X10_readLine_157 ?_
          refine m_icmp_eq F e_X10_readLine_158 (fun _ => ?_) (fun q => absurd (by decide) q)
          refine m_aload_n F rfl e_X10_readLine_166 ?_
          refine r_callV F e_X10_readLine_167 (q_X10_goOnE (x_l X) V c T Z u h P14416 L _ _  n j1 3 va3 ln3 fp3 t h14415.1 (hob) oP14416  ⟨(yd14439), (yd14440), (yd14441), (yd14442), (yd14443), (yd14444), (yd14445)⟩ ga14418 hn7 (by omega)) cb_X10_goOn ml_X10_154 im_X10_goOn se_X10_goOn h14415 rfl rfl (rest := []) rfl (Nat.le_of_ble_eq_true rfl) ⟨Nat.le_of_ble_eq_true rfl, Nat.le_of_ble_eq_true rfl⟩ ⟨Nat.le_of_ble_eq_true rfl, Nat.le_of_ble_eq_true rfl⟩ (fun r σ14606 hp => ?_)
          obtain ⟨P14609, oP14609, rP14609, pr14610, pr14611, h14607, hp⟩ := hp
          have h14608 := HS.trans h14415 h14607 (by decide)
          have xP14609 := oP14609
          unfold OKP at xP14609
          unfold RA at rP14609
          have ga14612 := ga14418.of (h14607.2 (c + 1) (by rw [kC_at (k := 1) (by decide)]; decide))
          have ga14613 := hN3.of (h14607.2 (c + 2) (by rw [kC_at (k := 2) (by decide)]; decide))
          have ga14614 := hM3.of (h14607.2 (c + 3) (by rw [kC_at (k := 3) (by decide)]; decide))
          have ga14615 := hK3.of (h14607.2 (c + 7) (by rw [kC_at (k := 7) (by decide)]; decide))
          have ga14616 := hF3.of (h14607.2 (c + 8) (by rw [kC_at (k := 8) (by decide)]; decide))
          have ga14617 := hG3.of (h14607.2 (c + 9) (by rw [kC_at (k := 9) (by decide)]; decide))
          have ga14618 := hQ3.of (h14607.2 (c + 11) (by rw [kC_at (k := 11) (by decide)]; decide))
          obtain rfl := hp
          rw [pa3] at pr14610 pr14611
          have b8 := tok_ok (t := t) (n := n) j4 c1
          obtain ⟨so14619, va14620, mt14621, yd14622⟩ := pr14611
          have hyd14623 := yd14622
          obtain ⟨yd14623, yd14624, yd14625, yd14626, yd14627, yd14628, yd14629⟩ := hyd14623
          refine m_aload_n F rfl e_X10_readLine_170 ?_
          refine m_dup F rfl e_X10_readLine_171 ?_
          refine r_getC F e_X10_readLine_172 fl_X10_202 h14608 (yd14623) ?_
          refine m_iconst F (v := 1) (by decide) e_X10_readLine_175 ?_
          refine m_iadd F e_X10_readLine_176 ?_
          refine Wm.topE (w := nI (ln3 + 1)) (nI_add ln3 1) ?_
          refine r_put F (g' := (⟨T, Z, u, h, P14609, L⟩ : RG)) e_X10_readLine_177 fp_X10_202 h14608 (by decide) ⟨_, rfl⟩ (fun _ _ _ _ q => q) (fun _ _ _ q => q) rfl rfl (by decide) (fun σ14630 h14631 g14632 g14633 f14634 => ?_)
          have ga14635 := ga14612.of (g14632 _ (by omega))
          have ga14636 := ga14613.of (g14632 _ (by omega))
          have ga14637 := ga14614.of (g14632 _ (by omega))
          have ga14638 := ga14615.of (g14632 _ (by omega))
          have ga14639 := ga14616.of (g14632 _ (by omega))
          have ga14640 := ga14617.of (g14632 _ (by omega))
          have ga14641 := ga14618.of (g14632 _ (by omega))
          exact m_vret F hQ e_X10_readLine_180 (⟨P14609, oP14609, (by unfold RP; omega), (by rw [eo14425]; show RM _ c n _ (stopS (tok t n) (j1, 4, j3, j4) nl3 nm3 np3 nc3 lc3 no3 sd3 md3 ln3); rw [stopS_ok]; exact RM.r mt14621 ⟨(f14634), ((g14633 18 (by decide)).trans yd14624), ((g14633 20 (by decide)).trans yd14625), ((g14633 21 (by decide)).trans yd14626), ((g14633 22 (by decide)).trans yd14627), ((g14633 23 (by decide)).trans yd14628), ((g14633 24 (by decide)).trans yd14629)⟩ (by omega) (by omega) (by omega) ga14636 ga14637 ga14638 ga14639 ga14640 ga14641 (by omega) (by omega) (by omega) (by omega) (by omega)), (fun S2 hS hz => by rw [eo14425] at hS; replace hS : stopS (tok t n) (j1, 4, j3, j4) nl3 nm3 np3 nc3 lc3 no3 sd3 md3 ln3 = .inr S2 := hS; rw [stopS_ok] at hS; cases hS; replace hz : (tok t n j4).2.1 ≠ 0 := hz; have h8 := b8.2.2.2 hz; omega), h14631, rfl⟩)
        · refine r_getC F e_X10_readLine_154 fl_X10_110 h14415 (yd14442) ?_
          refine m_iconst F (v := 3) (by decide) e_X10_readLine_157 ?_
          refine m_icmp_eq F e_X10_readLine_158 (fun q => absurd q (by decide)) (fun _ => ?_)
          refine m_aload_n F rfl e_X10_readLine_161 ?_
          refine m_iconst F (v := 1) (by decide) e_X10_readLine_162 ?_
          refine r_callV F e_X10_readLine_163 (q_X10_wrongE (x_l X) V c T Z u h P14416 L _ _ 1 n j1 5 va3 ln3 fp3 h14415.1 (hob) oP14416 (by omega) ⟨(yd14439), (yd14440), (yd14441), (yd14442), (yd14443), (yd14444), (yd14445)⟩ (by decide)) cb_X10_wrong ml_X10_150 im_X10_wrong se_X10_wrong h14415 rfl rfl (rest := []) rfl (Nat.le_of_ble_eq_true rfl) ⟨Nat.le_of_ble_eq_true rfl, Nat.le_of_ble_eq_true rfl⟩ ⟨Nat.le_of_ble_eq_true rfl, Nat.le_of_ble_eq_true rfl⟩ (fun r σ14642 hp => ?_)
          obtain ⟨h14643, hp⟩ := hp
          have h14644 := HS.trans h14415 h14643 (by decide)
          have ga14645 := ga14418.of (h14643.2 (c + 1) (by rw [kC_at (k := 1) (by decide)]; decide))
          have ga14646 := hN3.of (h14643.2 (c + 2) (by rw [kC_at (k := 2) (by decide)]; decide))
          have ga14647 := hM3.of (h14643.2 (c + 3) (by rw [kC_at (k := 3) (by decide)]; decide))
          have ga14648 := hK3.of (h14643.2 (c + 7) (by rw [kC_at (k := 7) (by decide)]; decide))
          have ga14649 := hF3.of (h14643.2 (c + 8) (by rw [kC_at (k := 8) (by decide)]; decide))
          have ga14650 := hG3.of (h14643.2 (c + 9) (by rw [kC_at (k := 9) (by decide)]; decide))
          have ga14651 := hQ3.of (h14643.2 (c + 11) (by rw [kC_at (k := 11) (by decide)]; decide))
          obtain ⟨hp, rfl⟩ := hp
          have hyd14652 := hp
          obtain ⟨yd14652, yd14653, yd14654, yd14655, yd14656, yd14657, yd14658⟩ := hyd14652
          refine m_aload_n F rfl e_X10_readLine_166 ?_
          refine r_callV F e_X10_readLine_167 (q_X10_goOnG (x_l X) V c T 0 u h P14416 L _ _  1 h14644.1 (hob) oP14416  (yd14657) (by decide)) cb_X10_goOn ml_X10_154 im_X10_goOn se_X10_goOn h14644 rfl rfl (rest := []) rfl (Nat.le_of_ble_eq_true rfl) ⟨Nat.le_of_ble_eq_true rfl, Nat.le_of_ble_eq_true rfl⟩ ⟨Nat.le_of_ble_eq_true rfl, Nat.le_of_ble_eq_true rfl⟩ (fun r σ14659 hp => ?_)
          obtain ⟨h14660, hp⟩ := hp
          have h14661 := HS.trans h14644 h14660 (by decide)
          have ga14662 := ga14645.of (h14660.2 (c + 1) (by rw [kC_at (k := 1) (by decide)]; decide))
          have ga14663 := ga14646.of (h14660.2 (c + 2) (by rw [kC_at (k := 2) (by decide)]; decide))
          have ga14664 := ga14647.of (h14660.2 (c + 3) (by rw [kC_at (k := 3) (by decide)]; decide))
          have ga14665 := ga14648.of (h14660.2 (c + 7) (by rw [kC_at (k := 7) (by decide)]; decide))
          have ga14666 := ga14649.of (h14660.2 (c + 8) (by rw [kC_at (k := 8) (by decide)]; decide))
          have ga14667 := ga14650.of (h14660.2 (c + 9) (by rw [kC_at (k := 9) (by decide)]; decide))
          have ga14668 := ga14651.of (h14660.2 (c + 11) (by rw [kC_at (k := 11) (by decide)]; decide))
          obtain ⟨rfl, rfl⟩ := hp
          refine m_aload_n F rfl e_X10_readLine_170 ?_
          refine m_dup F rfl e_X10_readLine_171 ?_
          refine r_getC F e_X10_readLine_172 fl_X10_202 h14661 (yd14652) ?_
          refine m_iconst F (v := 1) (by decide) e_X10_readLine_175 ?_
          refine m_iadd F e_X10_readLine_176 ?_
          refine Wm.topE (w := nI (ln3 + 1)) (nI_add ln3 1) ?_
          refine r_put F (g' := (⟨T, 0, u, h, P14416, L⟩ : RG)) e_X10_readLine_177 fp_X10_202 h14661 (by decide) ⟨_, rfl⟩ (fun _ _ _ _ q => q) (fun _ _ _ q => q) rfl rfl (by decide) (fun σ14669 h14670 g14671 g14672 f14673 => ?_)
          have ga14674 := ga14645.of (g14671 _ (by omega))
          have ga14675 := ga14646.of (g14671 _ (by omega))
          have ga14676 := ga14647.of (g14671 _ (by omega))
          have ga14677 := ga14648.of (g14671 _ (by omega))
          have ga14678 := ga14649.of (g14671 _ (by omega))
          have ga14679 := ga14650.of (g14671 _ (by omega))
          have ga14680 := ga14651.of (g14671 _ (by omega))
          have h14681 : HS V c _ [0, 2, 17, 18, 19, 20, 21, 22, 23] _ _ := ⟨HR.mono (Z' := Z) (by intro e; first | rfl | assumption | omega) h14670.1, h14670.2⟩
          exact m_vret F hQ e_X10_readLine_180 (⟨P14416, oP14416, (by unfold RP; omega), (by rw [eo14425]; show RM _ c n _ (stopS (tok t n) (j1, 5, j3, j4) nl3 nm3 np3 nc3 lc3 no3 sd3 md3 ln3); rw [stopS_1 (by decide)]; exact RM.l ((g14672 23 (by decide)).trans yd14657) ((g14672 24 (by decide)).trans yd14658) (by omega) (by omega) (by omega)), (fun S2 hS _ => by rw [eo14425] at hS; replace hS : stopS (tok t n) (j1, 5, j3, j4) nl3 nm3 np3 nc3 lc3 no3 sd3 md3 ln3 = .inr S2 := hS; rw [stopS_1 (by decide)] at hS; cases hS), h14681, rfl⟩)
    · refine r_getC F e_X10_readLine_1 fl_X10_110 h1 (yd14104) ?_
      refine m_if_eq F e_X10_readLine_4 (fun _ => ?_) (fun q => absurd (by decide) q)
      refine m_aload_n F rfl e_X10_readLine_15 ?_
      refine r_getC F e_X10_readLine_16 fl_X10_120 h1 (yd14105) ?_
      refine m_if_ne F e_X10_readLine_19 (fun _ => ?_) (fun q => absurd q (by decide))
      refine m_aload_n F rfl e_X10_readLine_29 ?_
      refine r_getC F e_X10_readLine_30 fl_X10_120 h1 (yd14105) ?_
      refine m_iconst F (v := 1) (by decide) e_X10_readLine_33 ?_
      refine m_icmp_ne F e_X10_readLine_34 (fun _ => ?_) (fun q => absurd q (by decide))
      refine m_aload_n F rfl e_X10_readLine_44 ?_
      refine r_getC F e_X10_readLine_45 fl_X10_120 h1 (yd14105) ?_
      refine m_iconst F (v := 2) (by decide) e_X10_readLine_48 ?_
      refine m_icmp_eq F e_X10_readLine_49 (fun _ => ?_) (fun q => absurd (by decide) q)
      refine m_aload_n F rfl e_X10_readLine_60 ?_
      refine m_aload_n F rfl e_X10_readLine_61 ?_
      refine r_getC F e_X10_readLine_62 fl_X10_120 h1 (yd14105) ?_
      refine m_iconst F (v := 2) (by decide) e_X10_readLine_65 ?_
      refine m_icmp_ne F e_X10_readLine_66 (fun q => absurd (by decide) q) (fun _ => ?_)
      refine m_iconst F (v := 1) (by decide) e_X10_readLine_69 ?_
      refine m_goto F e_X10_readLine_70 ?_
      refine r_callV F e_X10_readLine_74 (q_X10_readMark1E (x_l X) V c T Z u h P L _ _  n st 0 2 ln fp t 1 2 nm np lc no sd md h1.1 (hob) hP  ⟨(yd14101), (yd14102), (yd14103), (yd14104), (yd14105), (yd14106), (yd14107)⟩ hp1 hn7 (by omega) hp4 hp5 hp6 hp7 hp8 hp9 hp10 hp11 hp12 hp13 hp14) cb_X10_readMark ml_X10_184 im_X10_readMark se_X10_readMark h1 rfl rfl (rest := []) rfl (Nat.le_of_ble_eq_true rfl) ⟨Nat.le_of_ble_eq_true rfl, Nat.le_of_ble_eq_true rfl⟩ ⟨Nat.le_of_ble_eq_true rfl, Nat.le_of_ble_eq_true rfl⟩ (fun r σ14682 hp => ?_)
      obtain ⟨P14685, oP14685, rP14685, pr14686, h14683, hp⟩ := hp
      have h14684 := HS.trans h1 h14683 (by decide)
      have xP14685 := oP14685
      unfold OKP at xP14685
      unfold RP at rP14685
      have ga14687 := hp1.of (h14683.2 (c + 1) (by rw [kC_at (k := 1) (by decide)]; decide))
      have ga14688 := hp6.of (h14683.2 (c + 2) (by rw [kC_at (k := 2) (by decide)]; decide))
      have ga14689 := hp7.of (h14683.2 (c + 3) (by rw [kC_at (k := 3) (by decide)]; decide))
      have ga14690 := hp9.of (h14683.2 (c + 8) (by rw [kC_at (k := 8) (by decide)]; decide))
      have ga14691 := hp10.of (h14683.2 (c + 9) (by rw [kC_at (k := 9) (by decide)]; decide))
      have ga14692 := hp11.of (h14683.2 (c + 11) (by rw [kC_at (k := 11) (by decide)]; decide))
      obtain rfl := hp
      have rm14693 : RM σ14682 c n P14685 (lineS (tok t n) (st, 1, 2, P.a) P.n5 nm np P.n7 lc no sd md ln) := by rw [lineS_2]; exact pr14686
      cases eo14694 : lineS (tok t n) (st, 1, 2, P.a) P.n5 nm np P.n7 lc no sd md ln with
      | inl e8 =>
        rw [eo14694] at rm14693
        obtain ⟨⟨fa14695, fb14696⟩, c1, c2, c3⟩ := rm14693
        have nz8 : nI e8.1 ≠ 0 := fun e => absurd (nI_inj9 (b := 0) (by omega) (by omega) e) (by omega)
        refine m_goto F e_X10_readLine_77 ?_
        refine m_aload_n F rfl e_X10_readLine_146 ?_
        refine r_getC F e_X10_readLine_147 fl_X10_141 h14684 (fa14695) ?_
        refine m_if_ne F e_X10_readLine_150 (fun q150 => ?_) (fun q150 => ?_)
        · have c150 : e8.1 ≠ 0 := by have hh := mt (nI_eq (a := e8.1) (b := 0) (by omega) (by omega)).mpr q150; omega
          refine m_aload_n F rfl e_X10_readLine_166 ?_
          refine r_callV F e_X10_readLine_167 (q_X10_goOnG (x_l X) V c T Z u h P14685 L _ _  (nI e8.1) h14684.1 (hob) oP14685  (fa14695) (by assumption)) cb_X10_goOn ml_X10_154 im_X10_goOn se_X10_goOn h14684 rfl rfl (rest := []) rfl (Nat.le_of_ble_eq_true rfl) ⟨Nat.le_of_ble_eq_true rfl, Nat.le_of_ble_eq_true rfl⟩ ⟨Nat.le_of_ble_eq_true rfl, Nat.le_of_ble_eq_true rfl⟩ (fun r σ14697 hp => ?_)
          obtain ⟨h14698, hp⟩ := hp
          have h14699 := HS.trans h14684 h14698 (by decide)
          obtain ⟨rfl, rfl⟩ := hp
          refine m_aload_n F rfl e_X10_readLine_170 ?_
          refine m_dup F rfl e_X10_readLine_171 ?_
          refine r_get F e_X10_readLine_172 fl_X10_202 h14699 rfl (fun v hv f14700 => ?_)
          obtain ⟨x14701, rfl⟩ := hv
          refine m_iconst F (v := 1) (by decide) e_X10_readLine_175 ?_
          refine m_iadd F e_X10_readLine_176 ?_
          refine Wm.top (fun x14702 _ => ?_)
          refine r_put F (g' := (⟨T, Z, u, h, P14685, L⟩ : RG)) e_X10_readLine_177 fp_X10_202 h14699 (by decide) ⟨_, rfl⟩ (fun _ _ _ _ q => q) (fun _ _ _ q => q) rfl rfl (by decide) (fun σ14703 h14704 g14705 g14706 f14707 => ?_)
          exact m_vret F hQ e_X10_readLine_180 (⟨P14685, oP14685, (by unfold RP; omega), (by rw [eo14694]; show RM _ c n _ (.inl e8); exact RM.l ((g14706 23 (by decide)).trans fa14695) ((g14706 24 (by decide)).trans fb14696) (by omega) (by omega) (by omega)), (fun S2 hS _ => by rw [eo14694] at hS; cases hS), h14704, rfl⟩)
        · have c150 : e8.1 = 0 := (nI_eq (a := e8.1) (b := 0) (by omega) (by omega)).mp q150
          exact absurd q150 nz8
      | inr S1 =>
        rw [eo14694] at rm14693
        obtain ⟨⟨j1, j2, j3, j4⟩, nl3, nm3, np3, nc3, lc3, no3, sd3, md3, ln3⟩ := S1
        obtain ⟨so3, va3, fp3, mt3, yd3, ⟨pa3, p53, p73⟩, hN3, hM3, hK3, hF3, hG3, hQ3, c1, c2, c3, c4, c5⟩ := rm14693
        replace pa3 : _ = j4 := pa3
        replace c1 : j4 ≤ n := c1
        replace c2 : j1 ≤ n := c2
        have hyd14708 := yd3
        obtain ⟨yd14708, yd14709, yd14710, yd14711, yd14712, yd14713, yd14714⟩ := hyd14708
        refine m_goto F e_X10_readLine_77 ?_
        refine m_aload_n F rfl e_X10_readLine_146 ?_
        refine r_getC F e_X10_readLine_147 fl_X10_141 h14684 (yd14713) ?_
        refine m_if_ne F e_X10_readLine_150 (fun q => absurd (by decide) q) (fun _ => ?_)
        refine m_aload_n F rfl e_X10_readLine_153 ?_
        have hmt := mt3
        rcases hmt with ⟨rfl, rfl⟩ | ⟨rfl, rfl, rfl, hv3⟩ | ⟨rfl, rfl, rfl, hv3⟩ | ⟨rfl, rfl, w3, hw3, rfl, hm3⟩ | ⟨rfl, rfl⟩ | ⟨rfl, rfl⟩
        · refine r_getC F e_X10_readLine_154 fl_X10_110 h14684 (yd14711) ?_
          refine m_iconst F (v := 3) (by decide) e_X10_readLine_157 ?_
          refine m_icmp_eq F e_X10_readLine_158 (fun q => absurd q (by decide)) (fun _ => ?_)
          refine m_aload_n F rfl e_X10_readLine_161 ?_
          refine m_iconst F (v := 1) (by decide) e_X10_readLine_162 ?_
          refine r_callV F e_X10_readLine_163 (q_X10_wrongE (x_l X) V c T Z u h P14685 L _ _ 1 n j1 4 va3 ln3 fp3 h14684.1 (hob) oP14685 (by omega) ⟨(yd14708), (yd14709), (yd14710), (yd14711), (yd14712), (yd14713), (yd14714)⟩ (by decide)) cb_X10_wrong ml_X10_150 im_X10_wrong se_X10_wrong h14684 rfl rfl (rest := []) rfl (Nat.le_of_ble_eq_true rfl) ⟨Nat.le_of_ble_eq_true rfl, Nat.le_of_ble_eq_true rfl⟩ ⟨Nat.le_of_ble_eq_true rfl, Nat.le_of_ble_eq_true rfl⟩ (fun r σ14715 hp => ?_)
          obtain ⟨h14716, hp⟩ := hp
          have h14717 := HS.trans h14684 h14716 (by decide)
          have ga14718 := ga14687.of (h14716.2 (c + 1) (by rw [kC_at (k := 1) (by decide)]; decide))
          have ga14719 := hN3.of (h14716.2 (c + 2) (by rw [kC_at (k := 2) (by decide)]; decide))
          have ga14720 := hM3.of (h14716.2 (c + 3) (by rw [kC_at (k := 3) (by decide)]; decide))
          have ga14721 := hK3.of (h14716.2 (c + 7) (by rw [kC_at (k := 7) (by decide)]; decide))
          have ga14722 := hF3.of (h14716.2 (c + 8) (by rw [kC_at (k := 8) (by decide)]; decide))
          have ga14723 := hG3.of (h14716.2 (c + 9) (by rw [kC_at (k := 9) (by decide)]; decide))
          have ga14724 := hQ3.of (h14716.2 (c + 11) (by rw [kC_at (k := 11) (by decide)]; decide))
          obtain ⟨hp, rfl⟩ := hp
          have hyd14725 := hp
          obtain ⟨yd14725, yd14726, yd14727, yd14728, yd14729, yd14730, yd14731⟩ := hyd14725
          refine m_aload_n F rfl e_X10_readLine_166 ?_
          refine r_callV F e_X10_readLine_167 (q_X10_goOnG (x_l X) V c T 0 u h P14685 L _ _  1 h14717.1 (hob) oP14685  (yd14730) (by decide)) cb_X10_goOn ml_X10_154 im_X10_goOn se_X10_goOn h14717 rfl rfl (rest := []) rfl (Nat.le_of_ble_eq_true rfl) ⟨Nat.le_of_ble_eq_true rfl, Nat.le_of_ble_eq_true rfl⟩ ⟨Nat.le_of_ble_eq_true rfl, Nat.le_of_ble_eq_true rfl⟩ (fun r σ14732 hp => ?_)
          obtain ⟨h14733, hp⟩ := hp
          have h14734 := HS.trans h14717 h14733 (by decide)
          have ga14735 := ga14718.of (h14733.2 (c + 1) (by rw [kC_at (k := 1) (by decide)]; decide))
          have ga14736 := ga14719.of (h14733.2 (c + 2) (by rw [kC_at (k := 2) (by decide)]; decide))
          have ga14737 := ga14720.of (h14733.2 (c + 3) (by rw [kC_at (k := 3) (by decide)]; decide))
          have ga14738 := ga14721.of (h14733.2 (c + 7) (by rw [kC_at (k := 7) (by decide)]; decide))
          have ga14739 := ga14722.of (h14733.2 (c + 8) (by rw [kC_at (k := 8) (by decide)]; decide))
          have ga14740 := ga14723.of (h14733.2 (c + 9) (by rw [kC_at (k := 9) (by decide)]; decide))
          have ga14741 := ga14724.of (h14733.2 (c + 11) (by rw [kC_at (k := 11) (by decide)]; decide))
          obtain ⟨rfl, rfl⟩ := hp
          refine m_aload_n F rfl e_X10_readLine_170 ?_
          refine m_dup F rfl e_X10_readLine_171 ?_
          refine r_getC F e_X10_readLine_172 fl_X10_202 h14734 (yd14725) ?_
          refine m_iconst F (v := 1) (by decide) e_X10_readLine_175 ?_
          refine m_iadd F e_X10_readLine_176 ?_
          refine Wm.topE (w := nI (ln3 + 1)) (nI_add ln3 1) ?_
          refine r_put F (g' := (⟨T, 0, u, h, P14685, L⟩ : RG)) e_X10_readLine_177 fp_X10_202 h14734 (by decide) ⟨_, rfl⟩ (fun _ _ _ _ q => q) (fun _ _ _ q => q) rfl rfl (by decide) (fun σ14742 h14743 g14744 g14745 f14746 => ?_)
          have ga14747 := ga14718.of (g14744 _ (by omega))
          have ga14748 := ga14719.of (g14744 _ (by omega))
          have ga14749 := ga14720.of (g14744 _ (by omega))
          have ga14750 := ga14721.of (g14744 _ (by omega))
          have ga14751 := ga14722.of (g14744 _ (by omega))
          have ga14752 := ga14723.of (g14744 _ (by omega))
          have ga14753 := ga14724.of (g14744 _ (by omega))
          have h14754 : HS V c _ [0, 2, 17, 18, 19, 20, 21, 22, 23] _ _ := ⟨HR.mono (Z' := Z) (by intro e; first | rfl | assumption | omega) h14743.1, h14743.2⟩
          exact m_vret F hQ e_X10_readLine_180 (⟨P14685, oP14685, (by unfold RP; omega), (by rw [eo14694]; show RM _ c n _ (stopS (tok t n) (j1, 0, j3, j4) nl3 nm3 np3 nc3 lc3 no3 sd3 md3 ln3); rw [stopS_1 (by decide)]; exact RM.l ((g14745 23 (by decide)).trans yd14730) ((g14745 24 (by decide)).trans yd14731) (by omega) (by omega) (by omega)), (fun S2 hS _ => by rw [eo14694] at hS; replace hS : stopS (tok t n) (j1, 0, j3, j4) nl3 nm3 np3 nc3 lc3 no3 sd3 md3 ln3 = .inr S2 := hS; rw [stopS_1 (by decide)] at hS; cases hS), h14754, rfl⟩)
        · refine r_getC F e_X10_readLine_154 fl_X10_110 h14684 (yd14711) ?_
          refine m_iconst F (v := 3) (by decide) e_X10_readLine_157 ?_
          refine m_icmp_eq F e_X10_readLine_158 (fun q => absurd q (by decide)) (fun _ => ?_)
          refine m_aload_n F rfl e_X10_readLine_161 ?_
          refine m_iconst F (v := 1) (by decide) e_X10_readLine_162 ?_
          refine r_callV F e_X10_readLine_163 (q_X10_wrongE (x_l X) V c T Z u h P14685 L _ _ 1 n j1 0 (nI j3) ln3 fp3 h14684.1 (hob) oP14685 (by omega) ⟨(yd14708), (yd14709), (yd14710), (yd14711), (yd14712), (yd14713), (yd14714)⟩ (by decide)) cb_X10_wrong ml_X10_150 im_X10_wrong se_X10_wrong h14684 rfl rfl (rest := []) rfl (Nat.le_of_ble_eq_true rfl) ⟨Nat.le_of_ble_eq_true rfl, Nat.le_of_ble_eq_true rfl⟩ ⟨Nat.le_of_ble_eq_true rfl, Nat.le_of_ble_eq_true rfl⟩ (fun r σ14755 hp => ?_)
          obtain ⟨h14756, hp⟩ := hp
          have h14757 := HS.trans h14684 h14756 (by decide)
          have ga14758 := ga14687.of (h14756.2 (c + 1) (by rw [kC_at (k := 1) (by decide)]; decide))
          have ga14759 := hN3.of (h14756.2 (c + 2) (by rw [kC_at (k := 2) (by decide)]; decide))
          have ga14760 := hM3.of (h14756.2 (c + 3) (by rw [kC_at (k := 3) (by decide)]; decide))
          have ga14761 := hK3.of (h14756.2 (c + 7) (by rw [kC_at (k := 7) (by decide)]; decide))
          have ga14762 := hF3.of (h14756.2 (c + 8) (by rw [kC_at (k := 8) (by decide)]; decide))
          have ga14763 := hG3.of (h14756.2 (c + 9) (by rw [kC_at (k := 9) (by decide)]; decide))
          have ga14764 := hQ3.of (h14756.2 (c + 11) (by rw [kC_at (k := 11) (by decide)]; decide))
          obtain ⟨hp, rfl⟩ := hp
          have hyd14765 := hp
          obtain ⟨yd14765, yd14766, yd14767, yd14768, yd14769, yd14770, yd14771⟩ := hyd14765
          refine m_aload_n F rfl e_X10_readLine_166 ?_
          refine r_callV F e_X10_readLine_167 (q_X10_goOnG (x_l X) V c T 0 u h P14685 L _ _  1 h14757.1 (hob) oP14685  (yd14770) (by decide)) cb_X10_goOn ml_X10_154 im_X10_goOn se_X10_goOn h14757 rfl rfl (rest := []) rfl (Nat.le_of_ble_eq_true rfl) ⟨Nat.le_of_ble_eq_true rfl, Nat.le_of_ble_eq_true rfl⟩ ⟨Nat.le_of_ble_eq_true rfl, Nat.le_of_ble_eq_true rfl⟩ (fun r σ14772 hp => ?_)
          obtain ⟨h14773, hp⟩ := hp
          have h14774 := HS.trans h14757 h14773 (by decide)
          have ga14775 := ga14758.of (h14773.2 (c + 1) (by rw [kC_at (k := 1) (by decide)]; decide))
          have ga14776 := ga14759.of (h14773.2 (c + 2) (by rw [kC_at (k := 2) (by decide)]; decide))
          have ga14777 := ga14760.of (h14773.2 (c + 3) (by rw [kC_at (k := 3) (by decide)]; decide))
          have ga14778 := ga14761.of (h14773.2 (c + 7) (by rw [kC_at (k := 7) (by decide)]; decide))
          have ga14779 := ga14762.of (h14773.2 (c + 8) (by rw [kC_at (k := 8) (by decide)]; decide))
          have ga14780 := ga14763.of (h14773.2 (c + 9) (by rw [kC_at (k := 9) (by decide)]; decide))
          have ga14781 := ga14764.of (h14773.2 (c + 11) (by rw [kC_at (k := 11) (by decide)]; decide))
          obtain ⟨rfl, rfl⟩ := hp
          refine m_aload_n F rfl e_X10_readLine_170 ?_
          refine m_dup F rfl e_X10_readLine_171 ?_
          refine r_getC F e_X10_readLine_172 fl_X10_202 h14774 (yd14765) ?_
          refine m_iconst F (v := 1) (by decide) e_X10_readLine_175 ?_
          refine m_iadd F e_X10_readLine_176 ?_
          refine Wm.topE (w := nI (ln3 + 1)) (nI_add ln3 1) ?_
          refine r_put F (g' := (⟨T, 0, u, h, P14685, L⟩ : RG)) e_X10_readLine_177 fp_X10_202 h14774 (by decide) ⟨_, rfl⟩ (fun _ _ _ _ q => q) (fun _ _ _ q => q) rfl rfl (by decide) (fun σ14782 h14783 g14784 g14785 f14786 => ?_)
          have ga14787 := ga14758.of (g14784 _ (by omega))
          have ga14788 := ga14759.of (g14784 _ (by omega))
          have ga14789 := ga14760.of (g14784 _ (by omega))
          have ga14790 := ga14761.of (g14784 _ (by omega))
          have ga14791 := ga14762.of (g14784 _ (by omega))
          have ga14792 := ga14763.of (g14784 _ (by omega))
          have ga14793 := ga14764.of (g14784 _ (by omega))
          have h14794 : HS V c _ [0, 2, 17, 18, 19, 20, 21, 22, 23] _ _ := ⟨HR.mono (Z' := Z) (by intro e; first | rfl | assumption | omega) h14783.1, h14783.2⟩
          exact m_vret F hQ e_X10_readLine_180 (⟨P14685, oP14685, (by unfold RP; omega), (by rw [eo14694]; show RM _ c n _ (stopS (tok t n) (j1, 1, j3, j4) nl3 nm3 np3 nc3 lc3 no3 sd3 md3 ln3); rw [stopS_1 (by decide)]; exact RM.l ((g14785 23 (by decide)).trans yd14770) ((g14785 24 (by decide)).trans yd14771) (by omega) (by omega) (by omega)), (fun S2 hS _ => by rw [eo14694] at hS; replace hS : stopS (tok t n) (j1, 1, j3, j4) nl3 nm3 np3 nc3 lc3 no3 sd3 md3 ln3 = .inr S2 := hS; rw [stopS_1 (by decide)] at hS; cases hS), h14794, rfl⟩)
        · refine r_getC F e_X10_readLine_154 fl_X10_110 h14684 (yd14711) ?_
          refine m_iconst F (v := 3) (by decide) e_X10_readLine_157 ?_
          refine m_icmp_eq F e_X10_readLine_158 (fun q => absurd q (by decide)) (fun _ => ?_)
          refine m_aload_n F rfl e_X10_readLine_161 ?_
          refine m_iconst F (v := 1) (by decide) e_X10_readLine_162 ?_
          refine r_callV F e_X10_readLine_163 (q_X10_wrongE (x_l X) V c T Z u h P14685 L _ _ 1 n j1 1 (nI j3) ln3 fp3 h14684.1 (hob) oP14685 (by omega) ⟨(yd14708), (yd14709), (yd14710), (yd14711), (yd14712), (yd14713), (yd14714)⟩ (by decide)) cb_X10_wrong ml_X10_150 im_X10_wrong se_X10_wrong h14684 rfl rfl (rest := []) rfl (Nat.le_of_ble_eq_true rfl) ⟨Nat.le_of_ble_eq_true rfl, Nat.le_of_ble_eq_true rfl⟩ ⟨Nat.le_of_ble_eq_true rfl, Nat.le_of_ble_eq_true rfl⟩ (fun r σ14795 hp => ?_)
          obtain ⟨h14796, hp⟩ := hp
          have h14797 := HS.trans h14684 h14796 (by decide)
          have ga14798 := ga14687.of (h14796.2 (c + 1) (by rw [kC_at (k := 1) (by decide)]; decide))
          have ga14799 := hN3.of (h14796.2 (c + 2) (by rw [kC_at (k := 2) (by decide)]; decide))
          have ga14800 := hM3.of (h14796.2 (c + 3) (by rw [kC_at (k := 3) (by decide)]; decide))
          have ga14801 := hK3.of (h14796.2 (c + 7) (by rw [kC_at (k := 7) (by decide)]; decide))
          have ga14802 := hF3.of (h14796.2 (c + 8) (by rw [kC_at (k := 8) (by decide)]; decide))
          have ga14803 := hG3.of (h14796.2 (c + 9) (by rw [kC_at (k := 9) (by decide)]; decide))
          have ga14804 := hQ3.of (h14796.2 (c + 11) (by rw [kC_at (k := 11) (by decide)]; decide))
          obtain ⟨hp, rfl⟩ := hp
          have hyd14805 := hp
          obtain ⟨yd14805, yd14806, yd14807, yd14808, yd14809, yd14810, yd14811⟩ := hyd14805
          refine m_aload_n F rfl e_X10_readLine_166 ?_
          refine r_callV F e_X10_readLine_167 (q_X10_goOnG (x_l X) V c T 0 u h P14685 L _ _  1 h14797.1 (hob) oP14685  (yd14810) (by decide)) cb_X10_goOn ml_X10_154 im_X10_goOn se_X10_goOn h14797 rfl rfl (rest := []) rfl (Nat.le_of_ble_eq_true rfl) ⟨Nat.le_of_ble_eq_true rfl, Nat.le_of_ble_eq_true rfl⟩ ⟨Nat.le_of_ble_eq_true rfl, Nat.le_of_ble_eq_true rfl⟩ (fun r σ14812 hp => ?_)
          obtain ⟨h14813, hp⟩ := hp
          have h14814 := HS.trans h14797 h14813 (by decide)
          have ga14815 := ga14798.of (h14813.2 (c + 1) (by rw [kC_at (k := 1) (by decide)]; decide))
          have ga14816 := ga14799.of (h14813.2 (c + 2) (by rw [kC_at (k := 2) (by decide)]; decide))
          have ga14817 := ga14800.of (h14813.2 (c + 3) (by rw [kC_at (k := 3) (by decide)]; decide))
          have ga14818 := ga14801.of (h14813.2 (c + 7) (by rw [kC_at (k := 7) (by decide)]; decide))
          have ga14819 := ga14802.of (h14813.2 (c + 8) (by rw [kC_at (k := 8) (by decide)]; decide))
          have ga14820 := ga14803.of (h14813.2 (c + 9) (by rw [kC_at (k := 9) (by decide)]; decide))
          have ga14821 := ga14804.of (h14813.2 (c + 11) (by rw [kC_at (k := 11) (by decide)]; decide))
          obtain ⟨rfl, rfl⟩ := hp
          refine m_aload_n F rfl e_X10_readLine_170 ?_
          refine m_dup F rfl e_X10_readLine_171 ?_
          refine r_getC F e_X10_readLine_172 fl_X10_202 h14814 (yd14805) ?_
          refine m_iconst F (v := 1) (by decide) e_X10_readLine_175 ?_
          refine m_iadd F e_X10_readLine_176 ?_
          refine Wm.topE (w := nI (ln3 + 1)) (nI_add ln3 1) ?_
          refine r_put F (g' := (⟨T, 0, u, h, P14685, L⟩ : RG)) e_X10_readLine_177 fp_X10_202 h14814 (by decide) ⟨_, rfl⟩ (fun _ _ _ _ q => q) (fun _ _ _ q => q) rfl rfl (by decide) (fun σ14822 h14823 g14824 g14825 f14826 => ?_)
          have ga14827 := ga14798.of (g14824 _ (by omega))
          have ga14828 := ga14799.of (g14824 _ (by omega))
          have ga14829 := ga14800.of (g14824 _ (by omega))
          have ga14830 := ga14801.of (g14824 _ (by omega))
          have ga14831 := ga14802.of (g14824 _ (by omega))
          have ga14832 := ga14803.of (g14824 _ (by omega))
          have ga14833 := ga14804.of (g14824 _ (by omega))
          have h14834 : HS V c _ [0, 2, 17, 18, 19, 20, 21, 22, 23] _ _ := ⟨HR.mono (Z' := Z) (by intro e; first | rfl | assumption | omega) h14823.1, h14823.2⟩
          exact m_vret F hQ e_X10_readLine_180 (⟨P14685, oP14685, (by unfold RP; omega), (by rw [eo14694]; show RM _ c n _ (stopS (tok t n) (j1, 2, j3, j4) nl3 nm3 np3 nc3 lc3 no3 sd3 md3 ln3); rw [stopS_1 (by decide)]; exact RM.l ((g14825 23 (by decide)).trans yd14810) ((g14825 24 (by decide)).trans yd14811) (by omega) (by omega) (by omega)), (fun S2 hS _ => by rw [eo14694] at hS; replace hS : stopS (tok t n) (j1, 2, j3, j4) nl3 nm3 np3 nc3 lc3 no3 sd3 md3 ln3 = .inr S2 := hS; rw [stopS_1 (by decide)] at hS; cases hS), h14834, rfl⟩)
        · refine r_getC F e_X10_readLine_154 fl_X10_110 h14684 (yd14711) ?_
          refine m_iconst F (v := 3) (by decide) e_X10_readLine_157 ?_
          refine m_icmp_eq F e_X10_readLine_158 (fun q => absurd q (by decide)) (fun _ => ?_)
          refine m_aload_n F rfl e_X10_readLine_161 ?_
          refine m_iconst F (v := 1) (by decide) e_X10_readLine_162 ?_
          refine r_callV F e_X10_readLine_163 (q_X10_wrongE (x_l X) V c T Z u h P14685 L _ _ 1 n j1 2 (nI w3) ln3 fp3 h14684.1 (hob) oP14685 (by omega) ⟨(yd14708), (yd14709), (yd14710), (yd14711), (yd14712), (yd14713), (yd14714)⟩ (by decide)) cb_X10_wrong ml_X10_150 im_X10_wrong se_X10_wrong h14684 rfl rfl (rest := []) rfl (Nat.le_of_ble_eq_true rfl) ⟨Nat.le_of_ble_eq_true rfl, Nat.le_of_ble_eq_true rfl⟩ ⟨Nat.le_of_ble_eq_true rfl, Nat.le_of_ble_eq_true rfl⟩ (fun r σ14835 hp => ?_)
          obtain ⟨h14836, hp⟩ := hp
          have h14837 := HS.trans h14684 h14836 (by decide)
          have ga14838 := ga14687.of (h14836.2 (c + 1) (by rw [kC_at (k := 1) (by decide)]; decide))
          have ga14839 := hN3.of (h14836.2 (c + 2) (by rw [kC_at (k := 2) (by decide)]; decide))
          have ga14840 := hM3.of (h14836.2 (c + 3) (by rw [kC_at (k := 3) (by decide)]; decide))
          have ga14841 := hK3.of (h14836.2 (c + 7) (by rw [kC_at (k := 7) (by decide)]; decide))
          have ga14842 := hF3.of (h14836.2 (c + 8) (by rw [kC_at (k := 8) (by decide)]; decide))
          have ga14843 := hG3.of (h14836.2 (c + 9) (by rw [kC_at (k := 9) (by decide)]; decide))
          have ga14844 := hQ3.of (h14836.2 (c + 11) (by rw [kC_at (k := 11) (by decide)]; decide))
          obtain ⟨hp, rfl⟩ := hp
          have hyd14845 := hp
          obtain ⟨yd14845, yd14846, yd14847, yd14848, yd14849, yd14850, yd14851⟩ := hyd14845
          refine m_aload_n F rfl e_X10_readLine_166 ?_
          refine r_callV F e_X10_readLine_167 (q_X10_goOnG (x_l X) V c T 0 u h P14685 L _ _  1 h14837.1 (hob) oP14685  (yd14850) (by decide)) cb_X10_goOn ml_X10_154 im_X10_goOn se_X10_goOn h14837 rfl rfl (rest := []) rfl (Nat.le_of_ble_eq_true rfl) ⟨Nat.le_of_ble_eq_true rfl, Nat.le_of_ble_eq_true rfl⟩ ⟨Nat.le_of_ble_eq_true rfl, Nat.le_of_ble_eq_true rfl⟩ (fun r σ14852 hp => ?_)
          obtain ⟨h14853, hp⟩ := hp
          have h14854 := HS.trans h14837 h14853 (by decide)
          have ga14855 := ga14838.of (h14853.2 (c + 1) (by rw [kC_at (k := 1) (by decide)]; decide))
          have ga14856 := ga14839.of (h14853.2 (c + 2) (by rw [kC_at (k := 2) (by decide)]; decide))
          have ga14857 := ga14840.of (h14853.2 (c + 3) (by rw [kC_at (k := 3) (by decide)]; decide))
          have ga14858 := ga14841.of (h14853.2 (c + 7) (by rw [kC_at (k := 7) (by decide)]; decide))
          have ga14859 := ga14842.of (h14853.2 (c + 8) (by rw [kC_at (k := 8) (by decide)]; decide))
          have ga14860 := ga14843.of (h14853.2 (c + 9) (by rw [kC_at (k := 9) (by decide)]; decide))
          have ga14861 := ga14844.of (h14853.2 (c + 11) (by rw [kC_at (k := 11) (by decide)]; decide))
          obtain ⟨rfl, rfl⟩ := hp
          refine m_aload_n F rfl e_X10_readLine_170 ?_
          refine m_dup F rfl e_X10_readLine_171 ?_
          refine r_getC F e_X10_readLine_172 fl_X10_202 h14854 (yd14845) ?_
          refine m_iconst F (v := 1) (by decide) e_X10_readLine_175 ?_
          refine m_iadd F e_X10_readLine_176 ?_
          refine Wm.topE (w := nI (ln3 + 1)) (nI_add ln3 1) ?_
          refine r_put F (g' := (⟨T, 0, u, h, P14685, L⟩ : RG)) e_X10_readLine_177 fp_X10_202 h14854 (by decide) ⟨_, rfl⟩ (fun _ _ _ _ q => q) (fun _ _ _ q => q) rfl rfl (by decide) (fun σ14862 h14863 g14864 g14865 f14866 => ?_)
          have ga14867 := ga14838.of (g14864 _ (by omega))
          have ga14868 := ga14839.of (g14864 _ (by omega))
          have ga14869 := ga14840.of (g14864 _ (by omega))
          have ga14870 := ga14841.of (g14864 _ (by omega))
          have ga14871 := ga14842.of (g14864 _ (by omega))
          have ga14872 := ga14843.of (g14864 _ (by omega))
          have ga14873 := ga14844.of (g14864 _ (by omega))
          have h14874 : HS V c _ [0, 2, 17, 18, 19, 20, 21, 22, 23] _ _ := ⟨HR.mono (Z' := Z) (by intro e; first | rfl | assumption | omega) h14863.1, h14863.2⟩
          exact m_vret F hQ e_X10_readLine_180 (⟨P14685, oP14685, (by unfold RP; omega), (by rw [eo14694]; show RM _ c n _ (stopS (tok t n) (j1, 3, j3, j4) nl3 nm3 np3 nc3 lc3 no3 sd3 md3 ln3); rw [stopS_1 (by decide)]; exact RM.l ((g14865 23 (by decide)).trans yd14850) ((g14865 24 (by decide)).trans yd14851) (by omega) (by omega) (by omega)), (fun S2 hS _ => by rw [eo14694] at hS; replace hS : stopS (tok t n) (j1, 3, j3, j4) nl3 nm3 np3 nc3 lc3 no3 sd3 md3 ln3 = .inr S2 := hS; rw [stopS_1 (by decide)] at hS; cases hS), h14874, rfl⟩)
        · refine r_getC F e_X10_readLine_154 fl_X10_110 h14684 (yd14711) ?_
          refine m_iconst F (v := 3) (by decide) e_X10_readLine_157 ?_
          refine m_icmp_eq F e_X10_readLine_158 (fun _ => ?_) (fun q => absurd (by decide) q)
          refine m_aload_n F rfl e_X10_readLine_166 ?_
          refine r_callV F e_X10_readLine_167 (q_X10_goOnE (x_l X) V c T Z u h P14685 L _ _  n j1 3 va3 ln3 fp3 t h14684.1 (hob) oP14685  ⟨(yd14708), (yd14709), (yd14710), (yd14711), (yd14712), (yd14713), (yd14714)⟩ ga14687 hn7 (by omega)) cb_X10_goOn ml_X10_154 im_X10_goOn se_X10_goOn h14684 rfl rfl (rest := []) rfl (Nat.le_of_ble_eq_true rfl) ⟨Nat.le_of_ble_eq_true rfl, Nat.le_of_ble_eq_true rfl⟩ ⟨Nat.le_of_ble_eq_true rfl, Nat.le_of_ble_eq_true rfl⟩ (fun r σ14875 hp => ?_)
          obtain ⟨P14878, oP14878, rP14878, pr14879, pr14880, h14876, hp⟩ := hp
          have h14877 := HS.trans h14684 h14876 (by decide)
          have xP14878 := oP14878
          unfold OKP at xP14878
          unfold RA at rP14878
          have ga14881 := ga14687.of (h14876.2 (c + 1) (by rw [kC_at (k := 1) (by decide)]; decide))
          have ga14882 := hN3.of (h14876.2 (c + 2) (by rw [kC_at (k := 2) (by decide)]; decide))
          have ga14883 := hM3.of (h14876.2 (c + 3) (by rw [kC_at (k := 3) (by decide)]; decide))
          have ga14884 := hK3.of (h14876.2 (c + 7) (by rw [kC_at (k := 7) (by decide)]; decide))
          have ga14885 := hF3.of (h14876.2 (c + 8) (by rw [kC_at (k := 8) (by decide)]; decide))
          have ga14886 := hG3.of (h14876.2 (c + 9) (by rw [kC_at (k := 9) (by decide)]; decide))
          have ga14887 := hQ3.of (h14876.2 (c + 11) (by rw [kC_at (k := 11) (by decide)]; decide))
          obtain rfl := hp
          rw [pa3] at pr14879 pr14880
          have b8 := tok_ok (t := t) (n := n) j4 c1
          obtain ⟨so14888, va14889, mt14890, yd14891⟩ := pr14880
          have hyd14892 := yd14891
          obtain ⟨yd14892, yd14893, yd14894, yd14895, yd14896, yd14897, yd14898⟩ := hyd14892
          refine m_aload_n F rfl e_X10_readLine_170 ?_
          refine m_dup F rfl e_X10_readLine_171 ?_
          refine r_getC F e_X10_readLine_172 fl_X10_202 h14877 (yd14892) ?_
          refine m_iconst F (v := 1) (by decide) e_X10_readLine_175 ?_
          refine m_iadd F e_X10_readLine_176 ?_
          refine Wm.topE (w := nI (ln3 + 1)) (nI_add ln3 1) ?_
          refine r_put F (g' := (⟨T, Z, u, h, P14878, L⟩ : RG)) e_X10_readLine_177 fp_X10_202 h14877 (by decide) ⟨_, rfl⟩ (fun _ _ _ _ q => q) (fun _ _ _ q => q) rfl rfl (by decide) (fun σ14899 h14900 g14901 g14902 f14903 => ?_)
          have ga14904 := ga14881.of (g14901 _ (by omega))
          have ga14905 := ga14882.of (g14901 _ (by omega))
          have ga14906 := ga14883.of (g14901 _ (by omega))
          have ga14907 := ga14884.of (g14901 _ (by omega))
          have ga14908 := ga14885.of (g14901 _ (by omega))
          have ga14909 := ga14886.of (g14901 _ (by omega))
          have ga14910 := ga14887.of (g14901 _ (by omega))
          exact m_vret F hQ e_X10_readLine_180 (⟨P14878, oP14878, (by unfold RP; omega), (by rw [eo14694]; show RM _ c n _ (stopS (tok t n) (j1, 4, j3, j4) nl3 nm3 np3 nc3 lc3 no3 sd3 md3 ln3); rw [stopS_ok]; exact RM.r mt14890 ⟨(f14903), ((g14902 18 (by decide)).trans yd14893), ((g14902 20 (by decide)).trans yd14894), ((g14902 21 (by decide)).trans yd14895), ((g14902 22 (by decide)).trans yd14896), ((g14902 23 (by decide)).trans yd14897), ((g14902 24 (by decide)).trans yd14898)⟩ (by omega) (by omega) (by omega) ga14905 ga14906 ga14907 ga14908 ga14909 ga14910 (by omega) (by omega) (by omega) (by omega) (by omega)), (fun S2 hS hz => by rw [eo14694] at hS; replace hS : stopS (tok t n) (j1, 4, j3, j4) nl3 nm3 np3 nc3 lc3 no3 sd3 md3 ln3 = .inr S2 := hS; rw [stopS_ok] at hS; cases hS; replace hz : (tok t n j4).2.1 ≠ 0 := hz; have h8 := b8.2.2.2 hz; omega), h14900, rfl⟩)
        · refine r_getC F e_X10_readLine_154 fl_X10_110 h14684 (yd14711) ?_
          refine m_iconst F (v := 3) (by decide) e_X10_readLine_157 ?_
          refine m_icmp_eq F e_X10_readLine_158 (fun q => absurd q (by decide)) (fun _ => ?_)
          refine m_aload_n F rfl e_X10_readLine_161 ?_
          refine m_iconst F (v := 1) (by decide) e_X10_readLine_162 ?_
          refine r_callV F e_X10_readLine_163 (q_X10_wrongE (x_l X) V c T Z u h P14685 L _ _ 1 n j1 5 va3 ln3 fp3 h14684.1 (hob) oP14685 (by omega) ⟨(yd14708), (yd14709), (yd14710), (yd14711), (yd14712), (yd14713), (yd14714)⟩ (by decide)) cb_X10_wrong ml_X10_150 im_X10_wrong se_X10_wrong h14684 rfl rfl (rest := []) rfl (Nat.le_of_ble_eq_true rfl) ⟨Nat.le_of_ble_eq_true rfl, Nat.le_of_ble_eq_true rfl⟩ ⟨Nat.le_of_ble_eq_true rfl, Nat.le_of_ble_eq_true rfl⟩ (fun r σ14911 hp => ?_)
          obtain ⟨h14912, hp⟩ := hp
          have h14913 := HS.trans h14684 h14912 (by decide)
          have ga14914 := ga14687.of (h14912.2 (c + 1) (by rw [kC_at (k := 1) (by decide)]; decide))
          have ga14915 := hN3.of (h14912.2 (c + 2) (by rw [kC_at (k := 2) (by decide)]; decide))
          have ga14916 := hM3.of (h14912.2 (c + 3) (by rw [kC_at (k := 3) (by decide)]; decide))
          have ga14917 := hK3.of (h14912.2 (c + 7) (by rw [kC_at (k := 7) (by decide)]; decide))
          have ga14918 := hF3.of (h14912.2 (c + 8) (by rw [kC_at (k := 8) (by decide)]; decide))
          have ga14919 := hG3.of (h14912.2 (c + 9) (by rw [kC_at (k := 9) (by decide)]; decide))
          have ga14920 := hQ3.of (h14912.2 (c + 11) (by rw [kC_at (k := 11) (by decide)]; decide))
          obtain ⟨hp, rfl⟩ := hp
          have hyd14921 := hp
          obtain ⟨yd14921, yd14922, yd14923, yd14924, yd14925, yd14926, yd14927⟩ := hyd14921
          refine m_aload_n F rfl e_X10_readLine_166 ?_
          refine r_callV F e_X10_readLine_167 (q_X10_goOnG (x_l X) V c T 0 u h P14685 L _ _  1 h14913.1 (hob) oP14685  (yd14926) (by decide)) cb_X10_goOn ml_X10_154 im_X10_goOn se_X10_goOn h14913 rfl rfl (rest := []) rfl (Nat.le_of_ble_eq_true rfl) ⟨Nat.le_of_ble_eq_true rfl, Nat.le_of_ble_eq_true rfl⟩ ⟨Nat.le_of_ble_eq_true rfl, Nat.le_of_ble_eq_true rfl⟩ (fun r σ14928 hp => ?_)
          obtain ⟨h14929, hp⟩ := hp
          have h14930 := HS.trans h14913 h14929 (by decide)
          have ga14931 := ga14914.of (h14929.2 (c + 1) (by rw [kC_at (k := 1) (by decide)]; decide))
          have ga14932 := ga14915.of (h14929.2 (c + 2) (by rw [kC_at (k := 2) (by decide)]; decide))
          have ga14933 := ga14916.of (h14929.2 (c + 3) (by rw [kC_at (k := 3) (by decide)]; decide))
          have ga14934 := ga14917.of (h14929.2 (c + 7) (by rw [kC_at (k := 7) (by decide)]; decide))
          have ga14935 := ga14918.of (h14929.2 (c + 8) (by rw [kC_at (k := 8) (by decide)]; decide))
          have ga14936 := ga14919.of (h14929.2 (c + 9) (by rw [kC_at (k := 9) (by decide)]; decide))
          have ga14937 := ga14920.of (h14929.2 (c + 11) (by rw [kC_at (k := 11) (by decide)]; decide))
          obtain ⟨rfl, rfl⟩ := hp
          refine m_aload_n F rfl e_X10_readLine_170 ?_
          refine m_dup F rfl e_X10_readLine_171 ?_
          refine r_getC F e_X10_readLine_172 fl_X10_202 h14930 (yd14921) ?_
          refine m_iconst F (v := 1) (by decide) e_X10_readLine_175 ?_
          refine m_iadd F e_X10_readLine_176 ?_
          refine Wm.topE (w := nI (ln3 + 1)) (nI_add ln3 1) ?_
          refine r_put F (g' := (⟨T, 0, u, h, P14685, L⟩ : RG)) e_X10_readLine_177 fp_X10_202 h14930 (by decide) ⟨_, rfl⟩ (fun _ _ _ _ q => q) (fun _ _ _ q => q) rfl rfl (by decide) (fun σ14938 h14939 g14940 g14941 f14942 => ?_)
          have ga14943 := ga14914.of (g14940 _ (by omega))
          have ga14944 := ga14915.of (g14940 _ (by omega))
          have ga14945 := ga14916.of (g14940 _ (by omega))
          have ga14946 := ga14917.of (g14940 _ (by omega))
          have ga14947 := ga14918.of (g14940 _ (by omega))
          have ga14948 := ga14919.of (g14940 _ (by omega))
          have ga14949 := ga14920.of (g14940 _ (by omega))
          have h14950 : HS V c _ [0, 2, 17, 18, 19, 20, 21, 22, 23] _ _ := ⟨HR.mono (Z' := Z) (by intro e; first | rfl | assumption | omega) h14939.1, h14939.2⟩
          exact m_vret F hQ e_X10_readLine_180 (⟨P14685, oP14685, (by unfold RP; omega), (by rw [eo14694]; show RM _ c n _ (stopS (tok t n) (j1, 5, j3, j4) nl3 nm3 np3 nc3 lc3 no3 sd3 md3 ln3); rw [stopS_1 (by decide)]; exact RM.l ((g14941 23 (by decide)).trans yd14926) ((g14941 24 (by decide)).trans yd14927) (by omega) (by omega) (by omega)), (fun S2 hS _ => by rw [eo14694] at hS; replace hS : stopS (tok t n) (j1, 5, j3, j4) nl3 nm3 np3 nc3 lc3 no3 sd3 md3 ln3 = .inr S2 := hS; rw [stopS_1 (by decide)] at hS; cases hS), h14950, rfl⟩)
    · refine r_getC F e_X10_readLine_1 fl_X10_110 h1 (yd14104) ?_
      refine m_if_eq F e_X10_readLine_4 (fun _ => ?_) (fun q => absurd (by decide) q)
      refine m_aload_n F rfl e_X10_readLine_15 ?_
      refine r_getC F e_X10_readLine_16 fl_X10_120 h1 (yd14105) ?_
      refine m_if_ne F e_X10_readLine_19 (fun _ => ?_) (fun q => absurd q (by decide))
      refine m_aload_n F rfl e_X10_readLine_29 ?_
      refine r_getC F e_X10_readLine_30 fl_X10_120 h1 (yd14105) ?_
      refine m_iconst F (v := 1) (by decide) e_X10_readLine_33 ?_
      refine m_icmp_ne F e_X10_readLine_34 (fun _ => ?_) (fun q => absurd q (by decide))
      refine m_aload_n F rfl e_X10_readLine_44 ?_
      refine r_getC F e_X10_readLine_45 fl_X10_120 h1 (yd14105) ?_
      refine m_iconst F (v := 2) (by decide) e_X10_readLine_48 ?_
      refine m_icmp_eq F e_X10_readLine_49 (fun q => absurd q (by decide)) (fun _ => ?_)
      refine m_aload_n F rfl e_X10_readLine_52 ?_
      refine r_getC F e_X10_readLine_53 fl_X10_120 h1 (yd14105) ?_
      refine m_iconst F (v := 5) (by decide) e_X10_readLine_56 ?_
      refine m_icmp_ne F e_X10_readLine_57 (fun _ => ?_) (fun q => absurd q (by decide))
      refine m_aload_n F rfl e_X10_readLine_80 ?_
      refine r_getC F e_X10_readLine_81 fl_X10_120 h1 (yd14105) ?_
      refine m_iconst F (v := 3) (by decide) e_X10_readLine_84 ?_
      refine m_icmp_ne F e_X10_readLine_85 (fun q => absurd (by decide) q) (fun _ => ?_)
      refine m_aload_n F rfl e_X10_readLine_88 ?_
      refine r_callV F e_X10_readLine_89 (q_X10_readFairE (x_l X) V c T Z u h P L _ _  n st 0 3 ln fp t 1 3 nm np lc no sd md h1.1 (hob) hP  ⟨(yd14101), (yd14102), (yd14103), (yd14104), (yd14105), (yd14106), (yd14107)⟩ hp1 hn7 (by omega) hp4 hp5 hp6 hp7 hp8 hp9 hp10 hp11 hp12 hp13 hp14) cb_X10_readFair ml_X10_187 im_X10_readFair se_X10_readFair h1 rfl rfl (rest := []) rfl (Nat.le_of_ble_eq_true rfl) ⟨Nat.le_of_ble_eq_true rfl, Nat.le_of_ble_eq_true rfl⟩ ⟨Nat.le_of_ble_eq_true rfl, Nat.le_of_ble_eq_true rfl⟩ (fun r σ14951 hp => ?_)
      obtain ⟨P14954, oP14954, rP14954, pr14955, h14952, hp⟩ := hp
      have h14953 := HS.trans h1 h14952 (by decide)
      have xP14954 := oP14954
      unfold OKP at xP14954
      unfold RP at rP14954
      have ga14956 := hp1.of (h14952.2 (c + 1) (by rw [kC_at (k := 1) (by decide)]; decide))
      have ga14957 := hp6.of (h14952.2 (c + 2) (by rw [kC_at (k := 2) (by decide)]; decide))
      have ga14958 := hp7.of (h14952.2 (c + 3) (by rw [kC_at (k := 3) (by decide)]; decide))
      have ga14959 := hp8.of (h14952.2 (c + 7) (by rw [kC_at (k := 7) (by decide)]; decide))
      have ga14960 := hp10.of (h14952.2 (c + 9) (by rw [kC_at (k := 9) (by decide)]; decide))
      have ga14961 := hp11.of (h14952.2 (c + 11) (by rw [kC_at (k := 11) (by decide)]; decide))
      obtain rfl := hp
      have rm14962 : RM σ14951 c n P14954 (lineS (tok t n) (st, 1, 3, P.a) P.n5 nm np P.n7 lc no sd md ln) := by rw [lineS_3]; exact pr14955
      cases eo14963 : lineS (tok t n) (st, 1, 3, P.a) P.n5 nm np P.n7 lc no sd md ln with
      | inl e8 =>
        rw [eo14963] at rm14962
        obtain ⟨⟨fa14964, fb14965⟩, c1, c2, c3⟩ := rm14962
        have nz8 : nI e8.1 ≠ 0 := fun e => absurd (nI_inj9 (b := 0) (by omega) (by omega) e) (by omega)
        refine m_goto F e_X10_readLine_92 ?_
        refine m_aload_n F rfl e_X10_readLine_146 ?_
        refine r_getC F e_X10_readLine_147 fl_X10_141 h14953 (fa14964) ?_
        refine m_if_ne F e_X10_readLine_150 (fun q150 => ?_) (fun q150 => ?_)
        · have c150 : e8.1 ≠ 0 := by have hh := mt (nI_eq (a := e8.1) (b := 0) (by omega) (by omega)).mpr q150; omega
          refine m_aload_n F rfl e_X10_readLine_166 ?_
          refine r_callV F e_X10_readLine_167 (q_X10_goOnG (x_l X) V c T Z u h P14954 L _ _  (nI e8.1) h14953.1 (hob) oP14954  (fa14964) (by assumption)) cb_X10_goOn ml_X10_154 im_X10_goOn se_X10_goOn h14953 rfl rfl (rest := []) rfl (Nat.le_of_ble_eq_true rfl) ⟨Nat.le_of_ble_eq_true rfl, Nat.le_of_ble_eq_true rfl⟩ ⟨Nat.le_of_ble_eq_true rfl, Nat.le_of_ble_eq_true rfl⟩ (fun r σ14966 hp => ?_)
          obtain ⟨h14967, hp⟩ := hp
          have h14968 := HS.trans h14953 h14967 (by decide)
          obtain ⟨rfl, rfl⟩ := hp
          refine m_aload_n F rfl e_X10_readLine_170 ?_
          refine m_dup F rfl e_X10_readLine_171 ?_
          refine r_get F e_X10_readLine_172 fl_X10_202 h14968 rfl (fun v hv f14969 => ?_)
          obtain ⟨x14970, rfl⟩ := hv
          refine m_iconst F (v := 1) (by decide) e_X10_readLine_175 ?_
          refine m_iadd F e_X10_readLine_176 ?_
          refine Wm.top (fun x14971 _ => ?_)
          refine r_put F (g' := (⟨T, Z, u, h, P14954, L⟩ : RG)) e_X10_readLine_177 fp_X10_202 h14968 (by decide) ⟨_, rfl⟩ (fun _ _ _ _ q => q) (fun _ _ _ q => q) rfl rfl (by decide) (fun σ14972 h14973 g14974 g14975 f14976 => ?_)
          exact m_vret F hQ e_X10_readLine_180 (⟨P14954, oP14954, (by unfold RP; omega), (by rw [eo14963]; show RM _ c n _ (.inl e8); exact RM.l ((g14975 23 (by decide)).trans fa14964) ((g14975 24 (by decide)).trans fb14965) (by omega) (by omega) (by omega)), (fun S2 hS _ => by rw [eo14963] at hS; cases hS), h14973, rfl⟩)
        · have c150 : e8.1 = 0 := (nI_eq (a := e8.1) (b := 0) (by omega) (by omega)).mp q150
          exact absurd q150 nz8
      | inr S1 =>
        rw [eo14963] at rm14962
        obtain ⟨⟨j1, j2, j3, j4⟩, nl3, nm3, np3, nc3, lc3, no3, sd3, md3, ln3⟩ := S1
        obtain ⟨so3, va3, fp3, mt3, yd3, ⟨pa3, p53, p73⟩, hN3, hM3, hK3, hF3, hG3, hQ3, c1, c2, c3, c4, c5⟩ := rm14962
        replace pa3 : _ = j4 := pa3
        replace c1 : j4 ≤ n := c1
        replace c2 : j1 ≤ n := c2
        have hyd14977 := yd3
        obtain ⟨yd14977, yd14978, yd14979, yd14980, yd14981, yd14982, yd14983⟩ := hyd14977
        refine m_goto F e_X10_readLine_92 ?_
        refine m_aload_n F rfl e_X10_readLine_146 ?_
        refine r_getC F e_X10_readLine_147 fl_X10_141 h14953 (yd14982) ?_
        refine m_if_ne F e_X10_readLine_150 (fun q => absurd (by decide) q) (fun _ => ?_)
        refine m_aload_n F rfl e_X10_readLine_153 ?_
        have hmt := mt3
        rcases hmt with ⟨rfl, rfl⟩ | ⟨rfl, rfl, rfl, hv3⟩ | ⟨rfl, rfl, rfl, hv3⟩ | ⟨rfl, rfl, w3, hw3, rfl, hm3⟩ | ⟨rfl, rfl⟩ | ⟨rfl, rfl⟩
        · refine r_getC F e_X10_readLine_154 fl_X10_110 h14953 (yd14980) ?_
          refine m_iconst F (v := 3) (by decide) e_X10_readLine_157 ?_
          refine m_icmp_eq F e_X10_readLine_158 (fun q => absurd q (by decide)) (fun _ => ?_)
          refine m_aload_n F rfl e_X10_readLine_161 ?_
          refine m_iconst F (v := 1) (by decide) e_X10_readLine_162 ?_
          refine r_callV F e_X10_readLine_163 (q_X10_wrongE (x_l X) V c T Z u h P14954 L _ _ 1 n j1 4 va3 ln3 fp3 h14953.1 (hob) oP14954 (by omega) ⟨(yd14977), (yd14978), (yd14979), (yd14980), (yd14981), (yd14982), (yd14983)⟩ (by decide)) cb_X10_wrong ml_X10_150 im_X10_wrong se_X10_wrong h14953 rfl rfl (rest := []) rfl (Nat.le_of_ble_eq_true rfl) ⟨Nat.le_of_ble_eq_true rfl, Nat.le_of_ble_eq_true rfl⟩ ⟨Nat.le_of_ble_eq_true rfl, Nat.le_of_ble_eq_true rfl⟩ (fun r σ14984 hp => ?_)
          obtain ⟨h14985, hp⟩ := hp
          have h14986 := HS.trans h14953 h14985 (by decide)
          have ga14987 := ga14956.of (h14985.2 (c + 1) (by rw [kC_at (k := 1) (by decide)]; decide))
          have ga14988 := hN3.of (h14985.2 (c + 2) (by rw [kC_at (k := 2) (by decide)]; decide))
          have ga14989 := hM3.of (h14985.2 (c + 3) (by rw [kC_at (k := 3) (by decide)]; decide))
          have ga14990 := hK3.of (h14985.2 (c + 7) (by rw [kC_at (k := 7) (by decide)]; decide))
          have ga14991 := hF3.of (h14985.2 (c + 8) (by rw [kC_at (k := 8) (by decide)]; decide))
          have ga14992 := hG3.of (h14985.2 (c + 9) (by rw [kC_at (k := 9) (by decide)]; decide))
          have ga14993 := hQ3.of (h14985.2 (c + 11) (by rw [kC_at (k := 11) (by decide)]; decide))
          obtain ⟨hp, rfl⟩ := hp
          have hyd14994 := hp
          obtain ⟨yd14994, yd14995, yd14996, yd14997, yd14998, yd14999, yd15000⟩ := hyd14994
          refine m_aload_n F rfl e_X10_readLine_166 ?_
          refine r_callV F e_X10_readLine_167 (q_X10_goOnG (x_l X) V c T 0 u h P14954 L _ _  1 h14986.1 (hob) oP14954  (yd14999) (by decide)) cb_X10_goOn ml_X10_154 im_X10_goOn se_X10_goOn h14986 rfl rfl (rest := []) rfl (Nat.le_of_ble_eq_true rfl) ⟨Nat.le_of_ble_eq_true rfl, Nat.le_of_ble_eq_true rfl⟩ ⟨Nat.le_of_ble_eq_true rfl, Nat.le_of_ble_eq_true rfl⟩ (fun r σ15001 hp => ?_)
          obtain ⟨h15002, hp⟩ := hp
          have h15003 := HS.trans h14986 h15002 (by decide)
          have ga15004 := ga14987.of (h15002.2 (c + 1) (by rw [kC_at (k := 1) (by decide)]; decide))
          have ga15005 := ga14988.of (h15002.2 (c + 2) (by rw [kC_at (k := 2) (by decide)]; decide))
          have ga15006 := ga14989.of (h15002.2 (c + 3) (by rw [kC_at (k := 3) (by decide)]; decide))
          have ga15007 := ga14990.of (h15002.2 (c + 7) (by rw [kC_at (k := 7) (by decide)]; decide))
          have ga15008 := ga14991.of (h15002.2 (c + 8) (by rw [kC_at (k := 8) (by decide)]; decide))
          have ga15009 := ga14992.of (h15002.2 (c + 9) (by rw [kC_at (k := 9) (by decide)]; decide))
          have ga15010 := ga14993.of (h15002.2 (c + 11) (by rw [kC_at (k := 11) (by decide)]; decide))
          obtain ⟨rfl, rfl⟩ := hp
          refine m_aload_n F rfl e_X10_readLine_170 ?_
          refine m_dup F rfl e_X10_readLine_171 ?_
          refine r_getC F e_X10_readLine_172 fl_X10_202 h15003 (yd14994) ?_
          refine m_iconst F (v := 1) (by decide) e_X10_readLine_175 ?_
          refine m_iadd F e_X10_readLine_176 ?_
          refine Wm.topE (w := nI (ln3 + 1)) (nI_add ln3 1) ?_
          refine r_put F (g' := (⟨T, 0, u, h, P14954, L⟩ : RG)) e_X10_readLine_177 fp_X10_202 h15003 (by decide) ⟨_, rfl⟩ (fun _ _ _ _ q => q) (fun _ _ _ q => q) rfl rfl (by decide) (fun σ15011 h15012 g15013 g15014 f15015 => ?_)
          have ga15016 := ga14987.of (g15013 _ (by omega))
          have ga15017 := ga14988.of (g15013 _ (by omega))
          have ga15018 := ga14989.of (g15013 _ (by omega))
          have ga15019 := ga14990.of (g15013 _ (by omega))
          have ga15020 := ga14991.of (g15013 _ (by omega))
          have ga15021 := ga14992.of (g15013 _ (by omega))
          have ga15022 := ga14993.of (g15013 _ (by omega))
          have h15023 : HS V c _ [0, 2, 17, 18, 19, 20, 21, 22, 23] _ _ := ⟨HR.mono (Z' := Z) (by intro e; first | rfl | assumption | omega) h15012.1, h15012.2⟩
          exact m_vret F hQ e_X10_readLine_180 (⟨P14954, oP14954, (by unfold RP; omega), (by rw [eo14963]; show RM _ c n _ (stopS (tok t n) (j1, 0, j3, j4) nl3 nm3 np3 nc3 lc3 no3 sd3 md3 ln3); rw [stopS_1 (by decide)]; exact RM.l ((g15014 23 (by decide)).trans yd14999) ((g15014 24 (by decide)).trans yd15000) (by omega) (by omega) (by omega)), (fun S2 hS _ => by rw [eo14963] at hS; replace hS : stopS (tok t n) (j1, 0, j3, j4) nl3 nm3 np3 nc3 lc3 no3 sd3 md3 ln3 = .inr S2 := hS; rw [stopS_1 (by decide)] at hS; cases hS), h15023, rfl⟩)
        · refine r_getC F e_X10_readLine_154 fl_X10_110 h14953 (yd14980) ?_
          refine m_iconst F (v := 3) (by decide) e_X10_readLine_157 ?_
          refine m_icmp_eq F e_X10_readLine_158 (fun q => absurd q (by decide)) (fun _ => ?_)
          refine m_aload_n F rfl e_X10_readLine_161 ?_
          refine m_iconst F (v := 1) (by decide) e_X10_readLine_162 ?_
          refine r_callV F e_X10_readLine_163 (q_X10_wrongE (x_l X) V c T Z u h P14954 L _ _ 1 n j1 0 (nI j3) ln3 fp3 h14953.1 (hob) oP14954 (by omega) ⟨(yd14977), (yd14978), (yd14979), (yd14980), (yd14981), (yd14982), (yd14983)⟩ (by decide)) cb_X10_wrong ml_X10_150 im_X10_wrong se_X10_wrong h14953 rfl rfl (rest := []) rfl (Nat.le_of_ble_eq_true rfl) ⟨Nat.le_of_ble_eq_true rfl, Nat.le_of_ble_eq_true rfl⟩ ⟨Nat.le_of_ble_eq_true rfl, Nat.le_of_ble_eq_true rfl⟩ (fun r σ15024 hp => ?_)
          obtain ⟨h15025, hp⟩ := hp
          have h15026 := HS.trans h14953 h15025 (by decide)
          have ga15027 := ga14956.of (h15025.2 (c + 1) (by rw [kC_at (k := 1) (by decide)]; decide))
          have ga15028 := hN3.of (h15025.2 (c + 2) (by rw [kC_at (k := 2) (by decide)]; decide))
          have ga15029 := hM3.of (h15025.2 (c + 3) (by rw [kC_at (k := 3) (by decide)]; decide))
          have ga15030 := hK3.of (h15025.2 (c + 7) (by rw [kC_at (k := 7) (by decide)]; decide))
          have ga15031 := hF3.of (h15025.2 (c + 8) (by rw [kC_at (k := 8) (by decide)]; decide))
          have ga15032 := hG3.of (h15025.2 (c + 9) (by rw [kC_at (k := 9) (by decide)]; decide))
          have ga15033 := hQ3.of (h15025.2 (c + 11) (by rw [kC_at (k := 11) (by decide)]; decide))
          obtain ⟨hp, rfl⟩ := hp
          have hyd15034 := hp
          obtain ⟨yd15034, yd15035, yd15036, yd15037, yd15038, yd15039, yd15040⟩ := hyd15034
          refine m_aload_n F rfl e_X10_readLine_166 ?_
          refine r_callV F e_X10_readLine_167 (q_X10_goOnG (x_l X) V c T 0 u h P14954 L _ _  1 h15026.1 (hob) oP14954  (yd15039) (by decide)) cb_X10_goOn ml_X10_154 im_X10_goOn se_X10_goOn h15026 rfl rfl (rest := []) rfl (Nat.le_of_ble_eq_true rfl) ⟨Nat.le_of_ble_eq_true rfl, Nat.le_of_ble_eq_true rfl⟩ ⟨Nat.le_of_ble_eq_true rfl, Nat.le_of_ble_eq_true rfl⟩ (fun r σ15041 hp => ?_)
          obtain ⟨h15042, hp⟩ := hp
          have h15043 := HS.trans h15026 h15042 (by decide)
          have ga15044 := ga15027.of (h15042.2 (c + 1) (by rw [kC_at (k := 1) (by decide)]; decide))
          have ga15045 := ga15028.of (h15042.2 (c + 2) (by rw [kC_at (k := 2) (by decide)]; decide))
          have ga15046 := ga15029.of (h15042.2 (c + 3) (by rw [kC_at (k := 3) (by decide)]; decide))
          have ga15047 := ga15030.of (h15042.2 (c + 7) (by rw [kC_at (k := 7) (by decide)]; decide))
          have ga15048 := ga15031.of (h15042.2 (c + 8) (by rw [kC_at (k := 8) (by decide)]; decide))
          have ga15049 := ga15032.of (h15042.2 (c + 9) (by rw [kC_at (k := 9) (by decide)]; decide))
          have ga15050 := ga15033.of (h15042.2 (c + 11) (by rw [kC_at (k := 11) (by decide)]; decide))
          obtain ⟨rfl, rfl⟩ := hp
          refine m_aload_n F rfl e_X10_readLine_170 ?_
          refine m_dup F rfl e_X10_readLine_171 ?_
          refine r_getC F e_X10_readLine_172 fl_X10_202 h15043 (yd15034) ?_
          refine m_iconst F (v := 1) (by decide) e_X10_readLine_175 ?_
          refine m_iadd F e_X10_readLine_176 ?_
          refine Wm.topE (w := nI (ln3 + 1)) (nI_add ln3 1) ?_
          refine r_put F (g' := (⟨T, 0, u, h, P14954, L⟩ : RG)) e_X10_readLine_177 fp_X10_202 h15043 (by decide) ⟨_, rfl⟩ (fun _ _ _ _ q => q) (fun _ _ _ q => q) rfl rfl (by decide) (fun σ15051 h15052 g15053 g15054 f15055 => ?_)
          have ga15056 := ga15027.of (g15053 _ (by omega))
          have ga15057 := ga15028.of (g15053 _ (by omega))
          have ga15058 := ga15029.of (g15053 _ (by omega))
          have ga15059 := ga15030.of (g15053 _ (by omega))
          have ga15060 := ga15031.of (g15053 _ (by omega))
          have ga15061 := ga15032.of (g15053 _ (by omega))
          have ga15062 := ga15033.of (g15053 _ (by omega))
          have h15063 : HS V c _ [0, 2, 17, 18, 19, 20, 21, 22, 23] _ _ := ⟨HR.mono (Z' := Z) (by intro e; first | rfl | assumption | omega) h15052.1, h15052.2⟩
          exact m_vret F hQ e_X10_readLine_180 (⟨P14954, oP14954, (by unfold RP; omega), (by rw [eo14963]; show RM _ c n _ (stopS (tok t n) (j1, 1, j3, j4) nl3 nm3 np3 nc3 lc3 no3 sd3 md3 ln3); rw [stopS_1 (by decide)]; exact RM.l ((g15054 23 (by decide)).trans yd15039) ((g15054 24 (by decide)).trans yd15040) (by omega) (by omega) (by omega)), (fun S2 hS _ => by rw [eo14963] at hS; replace hS : stopS (tok t n) (j1, 1, j3, j4) nl3 nm3 np3 nc3 lc3 no3 sd3 md3 ln3 = .inr S2 := hS; rw [stopS_1 (by decide)] at hS; cases hS), h15063, rfl⟩)
        · refine r_getC F e_X10_readLine_154 fl_X10_110 h14953 (yd14980) ?_
          refine m_iconst F (v := 3) (by decide) e_X10_readLine_157 ?_
          refine m_icmp_eq F e_X10_readLine_158 (fun q => absurd q (by decide)) (fun _ => ?_)
          refine m_aload_n F rfl e_X10_readLine_161 ?_
          refine m_iconst F (v := 1) (by decide) e_X10_readLine_162 ?_
          refine r_callV F e_X10_readLine_163 (q_X10_wrongE (x_l X) V c T Z u h P14954 L _ _ 1 n j1 1 (nI j3) ln3 fp3 h14953.1 (hob) oP14954 (by omega) ⟨(yd14977), (yd14978), (yd14979), (yd14980), (yd14981), (yd14982), (yd14983)⟩ (by decide)) cb_X10_wrong ml_X10_150 im_X10_wrong se_X10_wrong h14953 rfl rfl (rest := []) rfl (Nat.le_of_ble_eq_true rfl) ⟨Nat.le_of_ble_eq_true rfl, Nat.le_of_ble_eq_true rfl⟩ ⟨Nat.le_of_ble_eq_true rfl, Nat.le_of_ble_eq_true rfl⟩ (fun r σ15064 hp => ?_)
          obtain ⟨h15065, hp⟩ := hp
          have h15066 := HS.trans h14953 h15065 (by decide)
          have ga15067 := ga14956.of (h15065.2 (c + 1) (by rw [kC_at (k := 1) (by decide)]; decide))
          have ga15068 := hN3.of (h15065.2 (c + 2) (by rw [kC_at (k := 2) (by decide)]; decide))
          have ga15069 := hM3.of (h15065.2 (c + 3) (by rw [kC_at (k := 3) (by decide)]; decide))
          have ga15070 := hK3.of (h15065.2 (c + 7) (by rw [kC_at (k := 7) (by decide)]; decide))
          have ga15071 := hF3.of (h15065.2 (c + 8) (by rw [kC_at (k := 8) (by decide)]; decide))
          have ga15072 := hG3.of (h15065.2 (c + 9) (by rw [kC_at (k := 9) (by decide)]; decide))
          have ga15073 := hQ3.of (h15065.2 (c + 11) (by rw [kC_at (k := 11) (by decide)]; decide))
          obtain ⟨hp, rfl⟩ := hp
          have hyd15074 := hp
          obtain ⟨yd15074, yd15075, yd15076, yd15077, yd15078, yd15079, yd15080⟩ := hyd15074
          refine m_aload_n F rfl e_X10_readLine_166 ?_
          refine r_callV F e_X10_readLine_167 (q_X10_goOnG (x_l X) V c T 0 u h P14954 L _ _  1 h15066.1 (hob) oP14954  (yd15079) (by decide)) cb_X10_goOn ml_X10_154 im_X10_goOn se_X10_goOn h15066 rfl rfl (rest := []) rfl (Nat.le_of_ble_eq_true rfl) ⟨Nat.le_of_ble_eq_true rfl, Nat.le_of_ble_eq_true rfl⟩ ⟨Nat.le_of_ble_eq_true rfl, Nat.le_of_ble_eq_true rfl⟩ (fun r σ15081 hp => ?_)
          obtain ⟨h15082, hp⟩ := hp
          have h15083 := HS.trans h15066 h15082 (by decide)
          have ga15084 := ga15067.of (h15082.2 (c + 1) (by rw [kC_at (k := 1) (by decide)]; decide))
          have ga15085 := ga15068.of (h15082.2 (c + 2) (by rw [kC_at (k := 2) (by decide)]; decide))
          have ga15086 := ga15069.of (h15082.2 (c + 3) (by rw [kC_at (k := 3) (by decide)]; decide))
          have ga15087 := ga15070.of (h15082.2 (c + 7) (by rw [kC_at (k := 7) (by decide)]; decide))
          have ga15088 := ga15071.of (h15082.2 (c + 8) (by rw [kC_at (k := 8) (by decide)]; decide))
          have ga15089 := ga15072.of (h15082.2 (c + 9) (by rw [kC_at (k := 9) (by decide)]; decide))
          have ga15090 := ga15073.of (h15082.2 (c + 11) (by rw [kC_at (k := 11) (by decide)]; decide))
          obtain ⟨rfl, rfl⟩ := hp
          refine m_aload_n F rfl e_X10_readLine_170 ?_
          refine m_dup F rfl e_X10_readLine_171 ?_
          refine r_getC F e_X10_readLine_172 fl_X10_202 h15083 (yd15074) ?_
          refine m_iconst F (v := 1) (by decide) e_X10_readLine_175 ?_
          refine m_iadd F e_X10_readLine_176 ?_
          refine Wm.topE (w := nI (ln3 + 1)) (nI_add ln3 1) ?_
          refine r_put F (g' := (⟨T, 0, u, h, P14954, L⟩ : RG)) e_X10_readLine_177 fp_X10_202 h15083 (by decide) ⟨_, rfl⟩ (fun _ _ _ _ q => q) (fun _ _ _ q => q) rfl rfl (by decide) (fun σ15091 h15092 g15093 g15094 f15095 => ?_)
          have ga15096 := ga15067.of (g15093 _ (by omega))
          have ga15097 := ga15068.of (g15093 _ (by omega))
          have ga15098 := ga15069.of (g15093 _ (by omega))
          have ga15099 := ga15070.of (g15093 _ (by omega))
          have ga15100 := ga15071.of (g15093 _ (by omega))
          have ga15101 := ga15072.of (g15093 _ (by omega))
          have ga15102 := ga15073.of (g15093 _ (by omega))
          have h15103 : HS V c _ [0, 2, 17, 18, 19, 20, 21, 22, 23] _ _ := ⟨HR.mono (Z' := Z) (by intro e; first | rfl | assumption | omega) h15092.1, h15092.2⟩
          exact m_vret F hQ e_X10_readLine_180 (⟨P14954, oP14954, (by unfold RP; omega), (by rw [eo14963]; show RM _ c n _ (stopS (tok t n) (j1, 2, j3, j4) nl3 nm3 np3 nc3 lc3 no3 sd3 md3 ln3); rw [stopS_1 (by decide)]; exact RM.l ((g15094 23 (by decide)).trans yd15079) ((g15094 24 (by decide)).trans yd15080) (by omega) (by omega) (by omega)), (fun S2 hS _ => by rw [eo14963] at hS; replace hS : stopS (tok t n) (j1, 2, j3, j4) nl3 nm3 np3 nc3 lc3 no3 sd3 md3 ln3 = .inr S2 := hS; rw [stopS_1 (by decide)] at hS; cases hS), h15103, rfl⟩)
        · refine r_getC F e_X10_readLine_154 fl_X10_110 h14953 (yd14980) ?_
          refine m_iconst F (v := 3) (by decide) e_X10_readLine_157 ?_
          refine m_icmp_eq F e_X10_readLine_158 (fun q => absurd q (by decide)) (fun _ => ?_)
          refine m_aload_n F rfl e_X10_readLine_161 ?_
          refine m_iconst F (v := 1) (by decide) e_X10_readLine_162 ?_
          refine r_callV F e_X10_readLine_163 (q_X10_wrongE (x_l X) V c T Z u h P14954 L _ _ 1 n j1 2 (nI w3) ln3 fp3 h14953.1 (hob) oP14954 (by omega) ⟨(yd14977), (yd14978), (yd14979), (yd14980), (yd14981), (yd14982), (yd14983)⟩ (by decide)) cb_X10_wrong ml_X10_150 im_X10_wrong se_X10_wrong h14953 rfl rfl (rest := []) rfl (Nat.le_of_ble_eq_true rfl) ⟨Nat.le_of_ble_eq_true rfl, Nat.le_of_ble_eq_true rfl⟩ ⟨Nat.le_of_ble_eq_true rfl, Nat.le_of_ble_eq_true rfl⟩ (fun r σ15104 hp => ?_)
          obtain ⟨h15105, hp⟩ := hp
          have h15106 := HS.trans h14953 h15105 (by decide)
          have ga15107 := ga14956.of (h15105.2 (c + 1) (by rw [kC_at (k := 1) (by decide)]; decide))
          have ga15108 := hN3.of (h15105.2 (c + 2) (by rw [kC_at (k := 2) (by decide)]; decide))
          have ga15109 := hM3.of (h15105.2 (c + 3) (by rw [kC_at (k := 3) (by decide)]; decide))
          have ga15110 := hK3.of (h15105.2 (c + 7) (by rw [kC_at (k := 7) (by decide)]; decide))
          have ga15111 := hF3.of (h15105.2 (c + 8) (by rw [kC_at (k := 8) (by decide)]; decide))
          have ga15112 := hG3.of (h15105.2 (c + 9) (by rw [kC_at (k := 9) (by decide)]; decide))
          have ga15113 := hQ3.of (h15105.2 (c + 11) (by rw [kC_at (k := 11) (by decide)]; decide))
          obtain ⟨hp, rfl⟩ := hp
          have hyd15114 := hp
          obtain ⟨yd15114, yd15115, yd15116, yd15117, yd15118, yd15119, yd15120⟩ := hyd15114
          refine m_aload_n F rfl e_X10_readLine_166 ?_
          refine r_callV F e_X10_readLine_167 (q_X10_goOnG (x_l X) V c T 0 u h P14954 L _ _  1 h15106.1 (hob) oP14954  (yd15119) (by decide)) cb_X10_goOn ml_X10_154 im_X10_goOn se_X10_goOn h15106 rfl rfl (rest := []) rfl (Nat.le_of_ble_eq_true rfl) ⟨Nat.le_of_ble_eq_true rfl, Nat.le_of_ble_eq_true rfl⟩ ⟨Nat.le_of_ble_eq_true rfl, Nat.le_of_ble_eq_true rfl⟩ (fun r σ15121 hp => ?_)
          obtain ⟨h15122, hp⟩ := hp
          have h15123 := HS.trans h15106 h15122 (by decide)
          have ga15124 := ga15107.of (h15122.2 (c + 1) (by rw [kC_at (k := 1) (by decide)]; decide))
          have ga15125 := ga15108.of (h15122.2 (c + 2) (by rw [kC_at (k := 2) (by decide)]; decide))
          have ga15126 := ga15109.of (h15122.2 (c + 3) (by rw [kC_at (k := 3) (by decide)]; decide))
          have ga15127 := ga15110.of (h15122.2 (c + 7) (by rw [kC_at (k := 7) (by decide)]; decide))
          have ga15128 := ga15111.of (h15122.2 (c + 8) (by rw [kC_at (k := 8) (by decide)]; decide))
          have ga15129 := ga15112.of (h15122.2 (c + 9) (by rw [kC_at (k := 9) (by decide)]; decide))
          have ga15130 := ga15113.of (h15122.2 (c + 11) (by rw [kC_at (k := 11) (by decide)]; decide))
          obtain ⟨rfl, rfl⟩ := hp
          refine m_aload_n F rfl e_X10_readLine_170 ?_
          refine m_dup F rfl e_X10_readLine_171 ?_
          refine r_getC F e_X10_readLine_172 fl_X10_202 h15123 (yd15114) ?_
          refine m_iconst F (v := 1) (by decide) e_X10_readLine_175 ?_
          refine m_iadd F e_X10_readLine_176 ?_
          refine Wm.topE (w := nI (ln3 + 1)) (nI_add ln3 1) ?_
          refine r_put F (g' := (⟨T, 0, u, h, P14954, L⟩ : RG)) e_X10_readLine_177 fp_X10_202 h15123 (by decide) ⟨_, rfl⟩ (fun _ _ _ _ q => q) (fun _ _ _ q => q) rfl rfl (by decide) (fun σ15131 h15132 g15133 g15134 f15135 => ?_)
          have ga15136 := ga15107.of (g15133 _ (by omega))
          have ga15137 := ga15108.of (g15133 _ (by omega))
          have ga15138 := ga15109.of (g15133 _ (by omega))
          have ga15139 := ga15110.of (g15133 _ (by omega))
          have ga15140 := ga15111.of (g15133 _ (by omega))
          have ga15141 := ga15112.of (g15133 _ (by omega))
          have ga15142 := ga15113.of (g15133 _ (by omega))
          have h15143 : HS V c _ [0, 2, 17, 18, 19, 20, 21, 22, 23] _ _ := ⟨HR.mono (Z' := Z) (by intro e; first | rfl | assumption | omega) h15132.1, h15132.2⟩
          exact m_vret F hQ e_X10_readLine_180 (⟨P14954, oP14954, (by unfold RP; omega), (by rw [eo14963]; show RM _ c n _ (stopS (tok t n) (j1, 3, j3, j4) nl3 nm3 np3 nc3 lc3 no3 sd3 md3 ln3); rw [stopS_1 (by decide)]; exact RM.l ((g15134 23 (by decide)).trans yd15119) ((g15134 24 (by decide)).trans yd15120) (by omega) (by omega) (by omega)), (fun S2 hS _ => by rw [eo14963] at hS; replace hS : stopS (tok t n) (j1, 3, j3, j4) nl3 nm3 np3 nc3 lc3 no3 sd3 md3 ln3 = .inr S2 := hS; rw [stopS_1 (by decide)] at hS; cases hS), h15143, rfl⟩)
        · refine r_getC F e_X10_readLine_154 fl_X10_110 h14953 (yd14980) ?_
          refine m_iconst F (v := 3) (by decide) e_X10_readLine_157 ?_
          refine m_icmp_eq F e_X10_readLine_158 (fun _ => ?_) (fun q => absurd (by decide) q)
          refine m_aload_n F rfl e_X10_readLine_166 ?_
          refine r_callV F e_X10_readLine_167 (q_X10_goOnE (x_l X) V c T Z u h P14954 L _ _  n j1 3 va3 ln3 fp3 t h14953.1 (hob) oP14954  ⟨(yd14977), (yd14978), (yd14979), (yd14980), (yd14981), (yd14982), (yd14983)⟩ ga14956 hn7 (by omega)) cb_X10_goOn ml_X10_154 im_X10_goOn se_X10_goOn h14953 rfl rfl (rest := []) rfl (Nat.le_of_ble_eq_true rfl) ⟨Nat.le_of_ble_eq_true rfl, Nat.le_of_ble_eq_true rfl⟩ ⟨Nat.le_of_ble_eq_true rfl, Nat.le_of_ble_eq_true rfl⟩ (fun r σ15144 hp => ?_)
          obtain ⟨P15147, oP15147, rP15147, pr15148, pr15149, h15145, hp⟩ := hp
          have h15146 := HS.trans h14953 h15145 (by decide)
          have xP15147 := oP15147
          unfold OKP at xP15147
          unfold RA at rP15147
          have ga15150 := ga14956.of (h15145.2 (c + 1) (by rw [kC_at (k := 1) (by decide)]; decide))
          have ga15151 := hN3.of (h15145.2 (c + 2) (by rw [kC_at (k := 2) (by decide)]; decide))
          have ga15152 := hM3.of (h15145.2 (c + 3) (by rw [kC_at (k := 3) (by decide)]; decide))
          have ga15153 := hK3.of (h15145.2 (c + 7) (by rw [kC_at (k := 7) (by decide)]; decide))
          have ga15154 := hF3.of (h15145.2 (c + 8) (by rw [kC_at (k := 8) (by decide)]; decide))
          have ga15155 := hG3.of (h15145.2 (c + 9) (by rw [kC_at (k := 9) (by decide)]; decide))
          have ga15156 := hQ3.of (h15145.2 (c + 11) (by rw [kC_at (k := 11) (by decide)]; decide))
          obtain rfl := hp
          rw [pa3] at pr15148 pr15149
          have b8 := tok_ok (t := t) (n := n) j4 c1
          obtain ⟨so15157, va15158, mt15159, yd15160⟩ := pr15149
          have hyd15161 := yd15160
          obtain ⟨yd15161, yd15162, yd15163, yd15164, yd15165, yd15166, yd15167⟩ := hyd15161
          refine m_aload_n F rfl e_X10_readLine_170 ?_
          refine m_dup F rfl e_X10_readLine_171 ?_
          refine r_getC F e_X10_readLine_172 fl_X10_202 h15146 (yd15161) ?_
          refine m_iconst F (v := 1) (by decide) e_X10_readLine_175 ?_
          refine m_iadd F e_X10_readLine_176 ?_
          refine Wm.topE (w := nI (ln3 + 1)) (nI_add ln3 1) ?_
          refine r_put F (g' := (⟨T, Z, u, h, P15147, L⟩ : RG)) e_X10_readLine_177 fp_X10_202 h15146 (by decide) ⟨_, rfl⟩ (fun _ _ _ _ q => q) (fun _ _ _ q => q) rfl rfl (by decide) (fun σ15168 h15169 g15170 g15171 f15172 => ?_)
          have ga15173 := ga15150.of (g15170 _ (by omega))
          have ga15174 := ga15151.of (g15170 _ (by omega))
          have ga15175 := ga15152.of (g15170 _ (by omega))
          have ga15176 := ga15153.of (g15170 _ (by omega))
          have ga15177 := ga15154.of (g15170 _ (by omega))
          have ga15178 := ga15155.of (g15170 _ (by omega))
          have ga15179 := ga15156.of (g15170 _ (by omega))
          exact m_vret F hQ e_X10_readLine_180 (⟨P15147, oP15147, (by unfold RP; omega), (by rw [eo14963]; show RM _ c n _ (stopS (tok t n) (j1, 4, j3, j4) nl3 nm3 np3 nc3 lc3 no3 sd3 md3 ln3); rw [stopS_ok]; exact RM.r mt15159 ⟨(f15172), ((g15171 18 (by decide)).trans yd15162), ((g15171 20 (by decide)).trans yd15163), ((g15171 21 (by decide)).trans yd15164), ((g15171 22 (by decide)).trans yd15165), ((g15171 23 (by decide)).trans yd15166), ((g15171 24 (by decide)).trans yd15167)⟩ (by omega) (by omega) (by omega) ga15174 ga15175 ga15176 ga15177 ga15178 ga15179 (by omega) (by omega) (by omega) (by omega) (by omega)), (fun S2 hS hz => by rw [eo14963] at hS; replace hS : stopS (tok t n) (j1, 4, j3, j4) nl3 nm3 np3 nc3 lc3 no3 sd3 md3 ln3 = .inr S2 := hS; rw [stopS_ok] at hS; cases hS; replace hz : (tok t n j4).2.1 ≠ 0 := hz; have h8 := b8.2.2.2 hz; omega), h15169, rfl⟩)
        · refine r_getC F e_X10_readLine_154 fl_X10_110 h14953 (yd14980) ?_
          refine m_iconst F (v := 3) (by decide) e_X10_readLine_157 ?_
          refine m_icmp_eq F e_X10_readLine_158 (fun q => absurd q (by decide)) (fun _ => ?_)
          refine m_aload_n F rfl e_X10_readLine_161 ?_
          refine m_iconst F (v := 1) (by decide) e_X10_readLine_162 ?_
          refine r_callV F e_X10_readLine_163 (q_X10_wrongE (x_l X) V c T Z u h P14954 L _ _ 1 n j1 5 va3 ln3 fp3 h14953.1 (hob) oP14954 (by omega) ⟨(yd14977), (yd14978), (yd14979), (yd14980), (yd14981), (yd14982), (yd14983)⟩ (by decide)) cb_X10_wrong ml_X10_150 im_X10_wrong se_X10_wrong h14953 rfl rfl (rest := []) rfl (Nat.le_of_ble_eq_true rfl) ⟨Nat.le_of_ble_eq_true rfl, Nat.le_of_ble_eq_true rfl⟩ ⟨Nat.le_of_ble_eq_true rfl, Nat.le_of_ble_eq_true rfl⟩ (fun r σ15180 hp => ?_)
          obtain ⟨h15181, hp⟩ := hp
          have h15182 := HS.trans h14953 h15181 (by decide)
          have ga15183 := ga14956.of (h15181.2 (c + 1) (by rw [kC_at (k := 1) (by decide)]; decide))
          have ga15184 := hN3.of (h15181.2 (c + 2) (by rw [kC_at (k := 2) (by decide)]; decide))
          have ga15185 := hM3.of (h15181.2 (c + 3) (by rw [kC_at (k := 3) (by decide)]; decide))
          have ga15186 := hK3.of (h15181.2 (c + 7) (by rw [kC_at (k := 7) (by decide)]; decide))
          have ga15187 := hF3.of (h15181.2 (c + 8) (by rw [kC_at (k := 8) (by decide)]; decide))
          have ga15188 := hG3.of (h15181.2 (c + 9) (by rw [kC_at (k := 9) (by decide)]; decide))
          have ga15189 := hQ3.of (h15181.2 (c + 11) (by rw [kC_at (k := 11) (by decide)]; decide))
          obtain ⟨hp, rfl⟩ := hp
          have hyd15190 := hp
          obtain ⟨yd15190, yd15191, yd15192, yd15193, yd15194, yd15195, yd15196⟩ := hyd15190
          refine m_aload_n F rfl e_X10_readLine_166 ?_
          refine r_callV F e_X10_readLine_167 (q_X10_goOnG (x_l X) V c T 0 u h P14954 L _ _  1 h15182.1 (hob) oP14954  (yd15195) (by decide)) cb_X10_goOn ml_X10_154 im_X10_goOn se_X10_goOn h15182 rfl rfl (rest := []) rfl (Nat.le_of_ble_eq_true rfl) ⟨Nat.le_of_ble_eq_true rfl, Nat.le_of_ble_eq_true rfl⟩ ⟨Nat.le_of_ble_eq_true rfl, Nat.le_of_ble_eq_true rfl⟩ (fun r σ15197 hp => ?_)
          obtain ⟨h15198, hp⟩ := hp
          have h15199 := HS.trans h15182 h15198 (by decide)
          have ga15200 := ga15183.of (h15198.2 (c + 1) (by rw [kC_at (k := 1) (by decide)]; decide))
          have ga15201 := ga15184.of (h15198.2 (c + 2) (by rw [kC_at (k := 2) (by decide)]; decide))
          have ga15202 := ga15185.of (h15198.2 (c + 3) (by rw [kC_at (k := 3) (by decide)]; decide))
          have ga15203 := ga15186.of (h15198.2 (c + 7) (by rw [kC_at (k := 7) (by decide)]; decide))
          have ga15204 := ga15187.of (h15198.2 (c + 8) (by rw [kC_at (k := 8) (by decide)]; decide))
          have ga15205 := ga15188.of (h15198.2 (c + 9) (by rw [kC_at (k := 9) (by decide)]; decide))
          have ga15206 := ga15189.of (h15198.2 (c + 11) (by rw [kC_at (k := 11) (by decide)]; decide))
          obtain ⟨rfl, rfl⟩ := hp
          refine m_aload_n F rfl e_X10_readLine_170 ?_
          refine m_dup F rfl e_X10_readLine_171 ?_
          refine r_getC F e_X10_readLine_172 fl_X10_202 h15199 (yd15190) ?_
          refine m_iconst F (v := 1) (by decide) e_X10_readLine_175 ?_
          refine m_iadd F e_X10_readLine_176 ?_
          refine Wm.topE (w := nI (ln3 + 1)) (nI_add ln3 1) ?_
          refine r_put F (g' := (⟨T, 0, u, h, P14954, L⟩ : RG)) e_X10_readLine_177 fp_X10_202 h15199 (by decide) ⟨_, rfl⟩ (fun _ _ _ _ q => q) (fun _ _ _ q => q) rfl rfl (by decide) (fun σ15207 h15208 g15209 g15210 f15211 => ?_)
          have ga15212 := ga15183.of (g15209 _ (by omega))
          have ga15213 := ga15184.of (g15209 _ (by omega))
          have ga15214 := ga15185.of (g15209 _ (by omega))
          have ga15215 := ga15186.of (g15209 _ (by omega))
          have ga15216 := ga15187.of (g15209 _ (by omega))
          have ga15217 := ga15188.of (g15209 _ (by omega))
          have ga15218 := ga15189.of (g15209 _ (by omega))
          have h15219 : HS V c _ [0, 2, 17, 18, 19, 20, 21, 22, 23] _ _ := ⟨HR.mono (Z' := Z) (by intro e; first | rfl | assumption | omega) h15208.1, h15208.2⟩
          exact m_vret F hQ e_X10_readLine_180 (⟨P14954, oP14954, (by unfold RP; omega), (by rw [eo14963]; show RM _ c n _ (stopS (tok t n) (j1, 5, j3, j4) nl3 nm3 np3 nc3 lc3 no3 sd3 md3 ln3); rw [stopS_1 (by decide)]; exact RM.l ((g15210 23 (by decide)).trans yd15195) ((g15210 24 (by decide)).trans yd15196) (by omega) (by omega) (by omega)), (fun S2 hS _ => by rw [eo14963] at hS; replace hS : stopS (tok t n) (j1, 5, j3, j4) nl3 nm3 np3 nc3 lc3 no3 sd3 md3 ln3 = .inr S2 := hS; rw [stopS_1 (by decide)] at hS; cases hS), h15219, rfl⟩)
    · refine r_getC F e_X10_readLine_1 fl_X10_110 h1 (yd14104) ?_
      refine m_if_eq F e_X10_readLine_4 (fun _ => ?_) (fun q => absurd (by decide) q)
      refine m_aload_n F rfl e_X10_readLine_15 ?_
      refine r_getC F e_X10_readLine_16 fl_X10_120 h1 (yd14105) ?_
      refine m_if_ne F e_X10_readLine_19 (fun _ => ?_) (fun q => absurd q (by decide))
      refine m_aload_n F rfl e_X10_readLine_29 ?_
      refine r_getC F e_X10_readLine_30 fl_X10_120 h1 (yd14105) ?_
      refine m_iconst F (v := 1) (by decide) e_X10_readLine_33 ?_
      refine m_icmp_ne F e_X10_readLine_34 (fun _ => ?_) (fun q => absurd q (by decide))
      refine m_aload_n F rfl e_X10_readLine_44 ?_
      refine r_getC F e_X10_readLine_45 fl_X10_120 h1 (yd14105) ?_
      refine m_iconst F (v := 2) (by decide) e_X10_readLine_48 ?_
      refine m_icmp_eq F e_X10_readLine_49 (fun q => absurd q (by decide)) (fun _ => ?_)
      refine m_aload_n F rfl e_X10_readLine_52 ?_
      refine r_getC F e_X10_readLine_53 fl_X10_120 h1 (yd14105) ?_
      refine m_iconst F (v := 5) (by decide) e_X10_readLine_56 ?_
      refine m_icmp_ne F e_X10_readLine_57 (fun _ => ?_) (fun q => absurd q (by decide))
      refine m_aload_n F rfl e_X10_readLine_80 ?_
      refine r_getC F e_X10_readLine_81 fl_X10_120 h1 (yd14105) ?_
      refine m_iconst F (v := 3) (by decide) e_X10_readLine_84 ?_
      refine m_icmp_ne F e_X10_readLine_85 (fun _ => ?_) (fun q => absurd q (by decide))
      refine m_aload_n F rfl e_X10_readLine_95 ?_
      refine r_getC F e_X10_readLine_96 fl_X10_120 h1 (yd14105) ?_
      refine m_iconst F (v := 4) (by decide) e_X10_readLine_99 ?_
      refine m_icmp_ne F e_X10_readLine_100 (fun q => absurd (by decide) q) (fun _ => ?_)
      refine m_aload_n F rfl e_X10_readLine_103 ?_
      refine r_callV F e_X10_readLine_104 (q_X10_readFeeE (x_l X) V c T Z u h P L _ _  n st 0 4 ln fp t 1 4 nm np lc no sd md h1.1 (hob) hP  ⟨(yd14101), (yd14102), (yd14103), (yd14104), (yd14105), (yd14106), (yd14107)⟩ hp1 hn7 (by omega) hp4 hp5 hp6 hp7 hp8 hp9 hp10 hp11 hp12 hp13 hp14) cb_X10_readFee ml_X10_190 im_X10_readFee se_X10_readFee h1 rfl rfl (rest := []) rfl (Nat.le_of_ble_eq_true rfl) ⟨Nat.le_of_ble_eq_true rfl, Nat.le_of_ble_eq_true rfl⟩ ⟨Nat.le_of_ble_eq_true rfl, Nat.le_of_ble_eq_true rfl⟩ (fun r σ15220 hp => ?_)
      obtain ⟨P15223, oP15223, rP15223, pr15224, h15221, hp⟩ := hp
      have h15222 := HS.trans h1 h15221 (by decide)
      have xP15223 := oP15223
      unfold OKP at xP15223
      unfold RP at rP15223
      have ga15225 := hp1.of (h15221.2 (c + 1) (by rw [kC_at (k := 1) (by decide)]; decide))
      have ga15226 := hp6.of (h15221.2 (c + 2) (by rw [kC_at (k := 2) (by decide)]; decide))
      have ga15227 := hp7.of (h15221.2 (c + 3) (by rw [kC_at (k := 3) (by decide)]; decide))
      have ga15228 := hp8.of (h15221.2 (c + 7) (by rw [kC_at (k := 7) (by decide)]; decide))
      have ga15229 := hp9.of (h15221.2 (c + 8) (by rw [kC_at (k := 8) (by decide)]; decide))
      have ga15230 := hp11.of (h15221.2 (c + 11) (by rw [kC_at (k := 11) (by decide)]; decide))
      obtain rfl := hp
      have rm15231 : RM σ15220 c n P15223 (lineS (tok t n) (st, 1, 4, P.a) P.n5 nm np P.n7 lc no sd md ln) := by rw [lineS_4]; exact pr15224
      cases eo15232 : lineS (tok t n) (st, 1, 4, P.a) P.n5 nm np P.n7 lc no sd md ln with
      | inl e8 =>
        rw [eo15232] at rm15231
        obtain ⟨⟨fa15233, fb15234⟩, c1, c2, c3⟩ := rm15231
        have nz8 : nI e8.1 ≠ 0 := fun e => absurd (nI_inj9 (b := 0) (by omega) (by omega) e) (by omega)
        refine m_goto F e_X10_readLine_107 ?_
        refine m_aload_n F rfl e_X10_readLine_146 ?_
        refine r_getC F e_X10_readLine_147 fl_X10_141 h15222 (fa15233) ?_
        refine m_if_ne F e_X10_readLine_150 (fun q150 => ?_) (fun q150 => ?_)
        · have c150 : e8.1 ≠ 0 := by have hh := mt (nI_eq (a := e8.1) (b := 0) (by omega) (by omega)).mpr q150; omega
          refine m_aload_n F rfl e_X10_readLine_166 ?_
          refine r_callV F e_X10_readLine_167 (q_X10_goOnG (x_l X) V c T Z u h P15223 L _ _  (nI e8.1) h15222.1 (hob) oP15223  (fa15233) (by assumption)) cb_X10_goOn ml_X10_154 im_X10_goOn se_X10_goOn h15222 rfl rfl (rest := []) rfl (Nat.le_of_ble_eq_true rfl) ⟨Nat.le_of_ble_eq_true rfl, Nat.le_of_ble_eq_true rfl⟩ ⟨Nat.le_of_ble_eq_true rfl, Nat.le_of_ble_eq_true rfl⟩ (fun r σ15235 hp => ?_)
          obtain ⟨h15236, hp⟩ := hp
          have h15237 := HS.trans h15222 h15236 (by decide)
          obtain ⟨rfl, rfl⟩ := hp
          refine m_aload_n F rfl e_X10_readLine_170 ?_
          refine m_dup F rfl e_X10_readLine_171 ?_
          refine r_get F e_X10_readLine_172 fl_X10_202 h15237 rfl (fun v hv f15238 => ?_)
          obtain ⟨x15239, rfl⟩ := hv
          refine m_iconst F (v := 1) (by decide) e_X10_readLine_175 ?_
          refine m_iadd F e_X10_readLine_176 ?_
          refine Wm.top (fun x15240 _ => ?_)
          refine r_put F (g' := (⟨T, Z, u, h, P15223, L⟩ : RG)) e_X10_readLine_177 fp_X10_202 h15237 (by decide) ⟨_, rfl⟩ (fun _ _ _ _ q => q) (fun _ _ _ q => q) rfl rfl (by decide) (fun σ15241 h15242 g15243 g15244 f15245 => ?_)
          exact m_vret F hQ e_X10_readLine_180 (⟨P15223, oP15223, (by unfold RP; omega), (by rw [eo15232]; show RM _ c n _ (.inl e8); exact RM.l ((g15244 23 (by decide)).trans fa15233) ((g15244 24 (by decide)).trans fb15234) (by omega) (by omega) (by omega)), (fun S2 hS _ => by rw [eo15232] at hS; cases hS), h15242, rfl⟩)
        · have c150 : e8.1 = 0 := (nI_eq (a := e8.1) (b := 0) (by omega) (by omega)).mp q150
          exact absurd q150 nz8
      | inr S1 =>
        rw [eo15232] at rm15231
        obtain ⟨⟨j1, j2, j3, j4⟩, nl3, nm3, np3, nc3, lc3, no3, sd3, md3, ln3⟩ := S1
        obtain ⟨so3, va3, fp3, mt3, yd3, ⟨pa3, p53, p73⟩, hN3, hM3, hK3, hF3, hG3, hQ3, c1, c2, c3, c4, c5⟩ := rm15231
        replace pa3 : _ = j4 := pa3
        replace c1 : j4 ≤ n := c1
        replace c2 : j1 ≤ n := c2
        have hyd15246 := yd3
        obtain ⟨yd15246, yd15247, yd15248, yd15249, yd15250, yd15251, yd15252⟩ := hyd15246
        refine m_goto F e_X10_readLine_107 ?_
        refine m_aload_n F rfl e_X10_readLine_146 ?_
        refine r_getC F e_X10_readLine_147 fl_X10_141 h15222 (yd15251) ?_
        refine m_if_ne F e_X10_readLine_150 (fun q => absurd (by decide) q) (fun _ => ?_)
        refine m_aload_n F rfl e_X10_readLine_153 ?_
        have hmt := mt3
        rcases hmt with ⟨rfl, rfl⟩ | ⟨rfl, rfl, rfl, hv3⟩ | ⟨rfl, rfl, rfl, hv3⟩ | ⟨rfl, rfl, w3, hw3, rfl, hm3⟩ | ⟨rfl, rfl⟩ | ⟨rfl, rfl⟩
        · refine r_getC F e_X10_readLine_154 fl_X10_110 h15222 (yd15249) ?_
          refine m_iconst F (v := 3) (by decide) e_X10_readLine_157 ?_
          refine m_icmp_eq F e_X10_readLine_158 (fun q => absurd q (by decide)) (fun _ => ?_)
          refine m_aload_n F rfl e_X10_readLine_161 ?_
          refine m_iconst F (v := 1) (by decide) e_X10_readLine_162 ?_
          refine r_callV F e_X10_readLine_163 (q_X10_wrongE (x_l X) V c T Z u h P15223 L _ _ 1 n j1 4 va3 ln3 fp3 h15222.1 (hob) oP15223 (by omega) ⟨(yd15246), (yd15247), (yd15248), (yd15249), (yd15250), (yd15251), (yd15252)⟩ (by decide)) cb_X10_wrong ml_X10_150 im_X10_wrong se_X10_wrong h15222 rfl rfl (rest := []) rfl (Nat.le_of_ble_eq_true rfl) ⟨Nat.le_of_ble_eq_true rfl, Nat.le_of_ble_eq_true rfl⟩ ⟨Nat.le_of_ble_eq_true rfl, Nat.le_of_ble_eq_true rfl⟩ (fun r σ15253 hp => ?_)
          obtain ⟨h15254, hp⟩ := hp
          have h15255 := HS.trans h15222 h15254 (by decide)
          have ga15256 := ga15225.of (h15254.2 (c + 1) (by rw [kC_at (k := 1) (by decide)]; decide))
          have ga15257 := hN3.of (h15254.2 (c + 2) (by rw [kC_at (k := 2) (by decide)]; decide))
          have ga15258 := hM3.of (h15254.2 (c + 3) (by rw [kC_at (k := 3) (by decide)]; decide))
          have ga15259 := hK3.of (h15254.2 (c + 7) (by rw [kC_at (k := 7) (by decide)]; decide))
          have ga15260 := hF3.of (h15254.2 (c + 8) (by rw [kC_at (k := 8) (by decide)]; decide))
          have ga15261 := hG3.of (h15254.2 (c + 9) (by rw [kC_at (k := 9) (by decide)]; decide))
          have ga15262 := hQ3.of (h15254.2 (c + 11) (by rw [kC_at (k := 11) (by decide)]; decide))
          obtain ⟨hp, rfl⟩ := hp
          have hyd15263 := hp
          obtain ⟨yd15263, yd15264, yd15265, yd15266, yd15267, yd15268, yd15269⟩ := hyd15263
          refine m_aload_n F rfl e_X10_readLine_166 ?_
          refine r_callV F e_X10_readLine_167 (q_X10_goOnG (x_l X) V c T 0 u h P15223 L _ _  1 h15255.1 (hob) oP15223  (yd15268) (by decide)) cb_X10_goOn ml_X10_154 im_X10_goOn se_X10_goOn h15255 rfl rfl (rest := []) rfl (Nat.le_of_ble_eq_true rfl) ⟨Nat.le_of_ble_eq_true rfl, Nat.le_of_ble_eq_true rfl⟩ ⟨Nat.le_of_ble_eq_true rfl, Nat.le_of_ble_eq_true rfl⟩ (fun r σ15270 hp => ?_)
          obtain ⟨h15271, hp⟩ := hp
          have h15272 := HS.trans h15255 h15271 (by decide)
          have ga15273 := ga15256.of (h15271.2 (c + 1) (by rw [kC_at (k := 1) (by decide)]; decide))
          have ga15274 := ga15257.of (h15271.2 (c + 2) (by rw [kC_at (k := 2) (by decide)]; decide))
          have ga15275 := ga15258.of (h15271.2 (c + 3) (by rw [kC_at (k := 3) (by decide)]; decide))
          have ga15276 := ga15259.of (h15271.2 (c + 7) (by rw [kC_at (k := 7) (by decide)]; decide))
          have ga15277 := ga15260.of (h15271.2 (c + 8) (by rw [kC_at (k := 8) (by decide)]; decide))
          have ga15278 := ga15261.of (h15271.2 (c + 9) (by rw [kC_at (k := 9) (by decide)]; decide))
          have ga15279 := ga15262.of (h15271.2 (c + 11) (by rw [kC_at (k := 11) (by decide)]; decide))
          obtain ⟨rfl, rfl⟩ := hp
          refine m_aload_n F rfl e_X10_readLine_170 ?_
          refine m_dup F rfl e_X10_readLine_171 ?_
          refine r_getC F e_X10_readLine_172 fl_X10_202 h15272 (yd15263) ?_
          refine m_iconst F (v := 1) (by decide) e_X10_readLine_175 ?_
          refine m_iadd F e_X10_readLine_176 ?_
          refine Wm.topE (w := nI (ln3 + 1)) (nI_add ln3 1) ?_
          refine r_put F (g' := (⟨T, 0, u, h, P15223, L⟩ : RG)) e_X10_readLine_177 fp_X10_202 h15272 (by decide) ⟨_, rfl⟩ (fun _ _ _ _ q => q) (fun _ _ _ q => q) rfl rfl (by decide) (fun σ15280 h15281 g15282 g15283 f15284 => ?_)
          have ga15285 := ga15256.of (g15282 _ (by omega))
          have ga15286 := ga15257.of (g15282 _ (by omega))
          have ga15287 := ga15258.of (g15282 _ (by omega))
          have ga15288 := ga15259.of (g15282 _ (by omega))
          have ga15289 := ga15260.of (g15282 _ (by omega))
          have ga15290 := ga15261.of (g15282 _ (by omega))
          have ga15291 := ga15262.of (g15282 _ (by omega))
          have h15292 : HS V c _ [0, 2, 17, 18, 19, 20, 21, 22, 23] _ _ := ⟨HR.mono (Z' := Z) (by intro e; first | rfl | assumption | omega) h15281.1, h15281.2⟩
          exact m_vret F hQ e_X10_readLine_180 (⟨P15223, oP15223, (by unfold RP; omega), (by rw [eo15232]; show RM _ c n _ (stopS (tok t n) (j1, 0, j3, j4) nl3 nm3 np3 nc3 lc3 no3 sd3 md3 ln3); rw [stopS_1 (by decide)]; exact RM.l ((g15283 23 (by decide)).trans yd15268) ((g15283 24 (by decide)).trans yd15269) (by omega) (by omega) (by omega)), (fun S2 hS _ => by rw [eo15232] at hS; replace hS : stopS (tok t n) (j1, 0, j3, j4) nl3 nm3 np3 nc3 lc3 no3 sd3 md3 ln3 = .inr S2 := hS; rw [stopS_1 (by decide)] at hS; cases hS), h15292, rfl⟩)
        · refine r_getC F e_X10_readLine_154 fl_X10_110 h15222 (yd15249) ?_
          refine m_iconst F (v := 3) (by decide) e_X10_readLine_157 ?_
          refine m_icmp_eq F e_X10_readLine_158 (fun q => absurd q (by decide)) (fun _ => ?_)
          refine m_aload_n F rfl e_X10_readLine_161 ?_
          refine m_iconst F (v := 1) (by decide) e_X10_readLine_162 ?_
          refine r_callV F e_X10_readLine_163 (q_X10_wrongE (x_l X) V c T Z u h P15223 L _ _ 1 n j1 0 (nI j3) ln3 fp3 h15222.1 (hob) oP15223 (by omega) ⟨(yd15246), (yd15247), (yd15248), (yd15249), (yd15250), (yd15251), (yd15252)⟩ (by decide)) cb_X10_wrong ml_X10_150 im_X10_wrong se_X10_wrong h15222 rfl rfl (rest := []) rfl (Nat.le_of_ble_eq_true rfl) ⟨Nat.le_of_ble_eq_true rfl, Nat.le_of_ble_eq_true rfl⟩ ⟨Nat.le_of_ble_eq_true rfl, Nat.le_of_ble_eq_true rfl⟩ (fun r σ15293 hp => ?_)
          obtain ⟨h15294, hp⟩ := hp
          have h15295 := HS.trans h15222 h15294 (by decide)
          have ga15296 := ga15225.of (h15294.2 (c + 1) (by rw [kC_at (k := 1) (by decide)]; decide))
          have ga15297 := hN3.of (h15294.2 (c + 2) (by rw [kC_at (k := 2) (by decide)]; decide))
          have ga15298 := hM3.of (h15294.2 (c + 3) (by rw [kC_at (k := 3) (by decide)]; decide))
          have ga15299 := hK3.of (h15294.2 (c + 7) (by rw [kC_at (k := 7) (by decide)]; decide))
          have ga15300 := hF3.of (h15294.2 (c + 8) (by rw [kC_at (k := 8) (by decide)]; decide))
          have ga15301 := hG3.of (h15294.2 (c + 9) (by rw [kC_at (k := 9) (by decide)]; decide))
          have ga15302 := hQ3.of (h15294.2 (c + 11) (by rw [kC_at (k := 11) (by decide)]; decide))
          obtain ⟨hp, rfl⟩ := hp
          have hyd15303 := hp
          obtain ⟨yd15303, yd15304, yd15305, yd15306, yd15307, yd15308, yd15309⟩ := hyd15303
          refine m_aload_n F rfl e_X10_readLine_166 ?_
          refine r_callV F e_X10_readLine_167 (q_X10_goOnG (x_l X) V c T 0 u h P15223 L _ _  1 h15295.1 (hob) oP15223  (yd15308) (by decide)) cb_X10_goOn ml_X10_154 im_X10_goOn se_X10_goOn h15295 rfl rfl (rest := []) rfl (Nat.le_of_ble_eq_true rfl) ⟨Nat.le_of_ble_eq_true rfl, Nat.le_of_ble_eq_true rfl⟩ ⟨Nat.le_of_ble_eq_true rfl, Nat.le_of_ble_eq_true rfl⟩ (fun r σ15310 hp => ?_)
          obtain ⟨h15311, hp⟩ := hp
          have h15312 := HS.trans h15295 h15311 (by decide)
          have ga15313 := ga15296.of (h15311.2 (c + 1) (by rw [kC_at (k := 1) (by decide)]; decide))
          have ga15314 := ga15297.of (h15311.2 (c + 2) (by rw [kC_at (k := 2) (by decide)]; decide))
          have ga15315 := ga15298.of (h15311.2 (c + 3) (by rw [kC_at (k := 3) (by decide)]; decide))
          have ga15316 := ga15299.of (h15311.2 (c + 7) (by rw [kC_at (k := 7) (by decide)]; decide))
          have ga15317 := ga15300.of (h15311.2 (c + 8) (by rw [kC_at (k := 8) (by decide)]; decide))
          have ga15318 := ga15301.of (h15311.2 (c + 9) (by rw [kC_at (k := 9) (by decide)]; decide))
          have ga15319 := ga15302.of (h15311.2 (c + 11) (by rw [kC_at (k := 11) (by decide)]; decide))
          obtain ⟨rfl, rfl⟩ := hp
          refine m_aload_n F rfl e_X10_readLine_170 ?_
          refine m_dup F rfl e_X10_readLine_171 ?_
          refine r_getC F e_X10_readLine_172 fl_X10_202 h15312 (yd15303) ?_
          refine m_iconst F (v := 1) (by decide) e_X10_readLine_175 ?_
          refine m_iadd F e_X10_readLine_176 ?_
          refine Wm.topE (w := nI (ln3 + 1)) (nI_add ln3 1) ?_
          refine r_put F (g' := (⟨T, 0, u, h, P15223, L⟩ : RG)) e_X10_readLine_177 fp_X10_202 h15312 (by decide) ⟨_, rfl⟩ (fun _ _ _ _ q => q) (fun _ _ _ q => q) rfl rfl (by decide) (fun σ15320 h15321 g15322 g15323 f15324 => ?_)
          have ga15325 := ga15296.of (g15322 _ (by omega))
          have ga15326 := ga15297.of (g15322 _ (by omega))
          have ga15327 := ga15298.of (g15322 _ (by omega))
          have ga15328 := ga15299.of (g15322 _ (by omega))
          have ga15329 := ga15300.of (g15322 _ (by omega))
          have ga15330 := ga15301.of (g15322 _ (by omega))
          have ga15331 := ga15302.of (g15322 _ (by omega))
          have h15332 : HS V c _ [0, 2, 17, 18, 19, 20, 21, 22, 23] _ _ := ⟨HR.mono (Z' := Z) (by intro e; first | rfl | assumption | omega) h15321.1, h15321.2⟩
          exact m_vret F hQ e_X10_readLine_180 (⟨P15223, oP15223, (by unfold RP; omega), (by rw [eo15232]; show RM _ c n _ (stopS (tok t n) (j1, 1, j3, j4) nl3 nm3 np3 nc3 lc3 no3 sd3 md3 ln3); rw [stopS_1 (by decide)]; exact RM.l ((g15323 23 (by decide)).trans yd15308) ((g15323 24 (by decide)).trans yd15309) (by omega) (by omega) (by omega)), (fun S2 hS _ => by rw [eo15232] at hS; replace hS : stopS (tok t n) (j1, 1, j3, j4) nl3 nm3 np3 nc3 lc3 no3 sd3 md3 ln3 = .inr S2 := hS; rw [stopS_1 (by decide)] at hS; cases hS), h15332, rfl⟩)
        · refine r_getC F e_X10_readLine_154 fl_X10_110 h15222 (yd15249) ?_
          refine m_iconst F (v := 3) (by decide) e_X10_readLine_157 ?_
          refine m_icmp_eq F e_X10_readLine_158 (fun q => absurd q (by decide)) (fun _ => ?_)
          refine m_aload_n F rfl e_X10_readLine_161 ?_
          refine m_iconst F (v := 1) (by decide) e_X10_readLine_162 ?_
          refine r_callV F e_X10_readLine_163 (q_X10_wrongE (x_l X) V c T Z u h P15223 L _ _ 1 n j1 1 (nI j3) ln3 fp3 h15222.1 (hob) oP15223 (by omega) ⟨(yd15246), (yd15247), (yd15248), (yd15249), (yd15250), (yd15251), (yd15252)⟩ (by decide)) cb_X10_wrong ml_X10_150 im_X10_wrong se_X10_wrong h15222 rfl rfl (rest := []) rfl (Nat.le_of_ble_eq_true rfl) ⟨Nat.le_of_ble_eq_true rfl, Nat.le_of_ble_eq_true rfl⟩ ⟨Nat.le_of_ble_eq_true rfl, Nat.le_of_ble_eq_true rfl⟩ (fun r σ15333 hp => ?_)
          obtain ⟨h15334, hp⟩ := hp
          have h15335 := HS.trans h15222 h15334 (by decide)
          have ga15336 := ga15225.of (h15334.2 (c + 1) (by rw [kC_at (k := 1) (by decide)]; decide))
          have ga15337 := hN3.of (h15334.2 (c + 2) (by rw [kC_at (k := 2) (by decide)]; decide))
          have ga15338 := hM3.of (h15334.2 (c + 3) (by rw [kC_at (k := 3) (by decide)]; decide))
          have ga15339 := hK3.of (h15334.2 (c + 7) (by rw [kC_at (k := 7) (by decide)]; decide))
          have ga15340 := hF3.of (h15334.2 (c + 8) (by rw [kC_at (k := 8) (by decide)]; decide))
          have ga15341 := hG3.of (h15334.2 (c + 9) (by rw [kC_at (k := 9) (by decide)]; decide))
          have ga15342 := hQ3.of (h15334.2 (c + 11) (by rw [kC_at (k := 11) (by decide)]; decide))
          obtain ⟨hp, rfl⟩ := hp
          have hyd15343 := hp
          obtain ⟨yd15343, yd15344, yd15345, yd15346, yd15347, yd15348, yd15349⟩ := hyd15343
          refine m_aload_n F rfl e_X10_readLine_166 ?_
          refine r_callV F e_X10_readLine_167 (q_X10_goOnG (x_l X) V c T 0 u h P15223 L _ _  1 h15335.1 (hob) oP15223  (yd15348) (by decide)) cb_X10_goOn ml_X10_154 im_X10_goOn se_X10_goOn h15335 rfl rfl (rest := []) rfl (Nat.le_of_ble_eq_true rfl) ⟨Nat.le_of_ble_eq_true rfl, Nat.le_of_ble_eq_true rfl⟩ ⟨Nat.le_of_ble_eq_true rfl, Nat.le_of_ble_eq_true rfl⟩ (fun r σ15350 hp => ?_)
          obtain ⟨h15351, hp⟩ := hp
          have h15352 := HS.trans h15335 h15351 (by decide)
          have ga15353 := ga15336.of (h15351.2 (c + 1) (by rw [kC_at (k := 1) (by decide)]; decide))
          have ga15354 := ga15337.of (h15351.2 (c + 2) (by rw [kC_at (k := 2) (by decide)]; decide))
          have ga15355 := ga15338.of (h15351.2 (c + 3) (by rw [kC_at (k := 3) (by decide)]; decide))
          have ga15356 := ga15339.of (h15351.2 (c + 7) (by rw [kC_at (k := 7) (by decide)]; decide))
          have ga15357 := ga15340.of (h15351.2 (c + 8) (by rw [kC_at (k := 8) (by decide)]; decide))
          have ga15358 := ga15341.of (h15351.2 (c + 9) (by rw [kC_at (k := 9) (by decide)]; decide))
          have ga15359 := ga15342.of (h15351.2 (c + 11) (by rw [kC_at (k := 11) (by decide)]; decide))
          obtain ⟨rfl, rfl⟩ := hp
          refine m_aload_n F rfl e_X10_readLine_170 ?_
          refine m_dup F rfl e_X10_readLine_171 ?_
          refine r_getC F e_X10_readLine_172 fl_X10_202 h15352 (yd15343) ?_
          refine m_iconst F (v := 1) (by decide) e_X10_readLine_175 ?_
          refine m_iadd F e_X10_readLine_176 ?_
          refine Wm.topE (w := nI (ln3 + 1)) (nI_add ln3 1) ?_
          refine r_put F (g' := (⟨T, 0, u, h, P15223, L⟩ : RG)) e_X10_readLine_177 fp_X10_202 h15352 (by decide) ⟨_, rfl⟩ (fun _ _ _ _ q => q) (fun _ _ _ q => q) rfl rfl (by decide) (fun σ15360 h15361 g15362 g15363 f15364 => ?_)
          have ga15365 := ga15336.of (g15362 _ (by omega))
          have ga15366 := ga15337.of (g15362 _ (by omega))
          have ga15367 := ga15338.of (g15362 _ (by omega))
          have ga15368 := ga15339.of (g15362 _ (by omega))
          have ga15369 := ga15340.of (g15362 _ (by omega))
          have ga15370 := ga15341.of (g15362 _ (by omega))
          have ga15371 := ga15342.of (g15362 _ (by omega))
          have h15372 : HS V c _ [0, 2, 17, 18, 19, 20, 21, 22, 23] _ _ := ⟨HR.mono (Z' := Z) (by intro e; first | rfl | assumption | omega) h15361.1, h15361.2⟩
          exact m_vret F hQ e_X10_readLine_180 (⟨P15223, oP15223, (by unfold RP; omega), (by rw [eo15232]; show RM _ c n _ (stopS (tok t n) (j1, 2, j3, j4) nl3 nm3 np3 nc3 lc3 no3 sd3 md3 ln3); rw [stopS_1 (by decide)]; exact RM.l ((g15363 23 (by decide)).trans yd15348) ((g15363 24 (by decide)).trans yd15349) (by omega) (by omega) (by omega)), (fun S2 hS _ => by rw [eo15232] at hS; replace hS : stopS (tok t n) (j1, 2, j3, j4) nl3 nm3 np3 nc3 lc3 no3 sd3 md3 ln3 = .inr S2 := hS; rw [stopS_1 (by decide)] at hS; cases hS), h15372, rfl⟩)
        · refine r_getC F e_X10_readLine_154 fl_X10_110 h15222 (yd15249) ?_
          refine m_iconst F (v := 3) (by decide) e_X10_readLine_157 ?_
          refine m_icmp_eq F e_X10_readLine_158 (fun q => absurd q (by decide)) (fun _ => ?_)
          refine m_aload_n F rfl e_X10_readLine_161 ?_
          refine m_iconst F (v := 1) (by decide) e_X10_readLine_162 ?_
          refine r_callV F e_X10_readLine_163 (q_X10_wrongE (x_l X) V c T Z u h P15223 L _ _ 1 n j1 2 (nI w3) ln3 fp3 h15222.1 (hob) oP15223 (by omega) ⟨(yd15246), (yd15247), (yd15248), (yd15249), (yd15250), (yd15251), (yd15252)⟩ (by decide)) cb_X10_wrong ml_X10_150 im_X10_wrong se_X10_wrong h15222 rfl rfl (rest := []) rfl (Nat.le_of_ble_eq_true rfl) ⟨Nat.le_of_ble_eq_true rfl, Nat.le_of_ble_eq_true rfl⟩ ⟨Nat.le_of_ble_eq_true rfl, Nat.le_of_ble_eq_true rfl⟩ (fun r σ15373 hp => ?_)
          obtain ⟨h15374, hp⟩ := hp
          have h15375 := HS.trans h15222 h15374 (by decide)
          have ga15376 := ga15225.of (h15374.2 (c + 1) (by rw [kC_at (k := 1) (by decide)]; decide))
          have ga15377 := hN3.of (h15374.2 (c + 2) (by rw [kC_at (k := 2) (by decide)]; decide))
          have ga15378 := hM3.of (h15374.2 (c + 3) (by rw [kC_at (k := 3) (by decide)]; decide))
          have ga15379 := hK3.of (h15374.2 (c + 7) (by rw [kC_at (k := 7) (by decide)]; decide))
          have ga15380 := hF3.of (h15374.2 (c + 8) (by rw [kC_at (k := 8) (by decide)]; decide))
          have ga15381 := hG3.of (h15374.2 (c + 9) (by rw [kC_at (k := 9) (by decide)]; decide))
          have ga15382 := hQ3.of (h15374.2 (c + 11) (by rw [kC_at (k := 11) (by decide)]; decide))
          obtain ⟨hp, rfl⟩ := hp
          have hyd15383 := hp
          obtain ⟨yd15383, yd15384, yd15385, yd15386, yd15387, yd15388, yd15389⟩ := hyd15383
          refine m_aload_n F rfl e_X10_readLine_166 ?_
          refine r_callV F e_X10_readLine_167 (q_X10_goOnG (x_l X) V c T 0 u h P15223 L _ _  1 h15375.1 (hob) oP15223  (yd15388) (by decide)) cb_X10_goOn ml_X10_154 im_X10_goOn se_X10_goOn h15375 rfl rfl (rest := []) rfl (Nat.le_of_ble_eq_true rfl) ⟨Nat.le_of_ble_eq_true rfl, Nat.le_of_ble_eq_true rfl⟩ ⟨Nat.le_of_ble_eq_true rfl, Nat.le_of_ble_eq_true rfl⟩ (fun r σ15390 hp => ?_)
          obtain ⟨h15391, hp⟩ := hp
          have h15392 := HS.trans h15375 h15391 (by decide)
          have ga15393 := ga15376.of (h15391.2 (c + 1) (by rw [kC_at (k := 1) (by decide)]; decide))
          have ga15394 := ga15377.of (h15391.2 (c + 2) (by rw [kC_at (k := 2) (by decide)]; decide))
          have ga15395 := ga15378.of (h15391.2 (c + 3) (by rw [kC_at (k := 3) (by decide)]; decide))
          have ga15396 := ga15379.of (h15391.2 (c + 7) (by rw [kC_at (k := 7) (by decide)]; decide))
          have ga15397 := ga15380.of (h15391.2 (c + 8) (by rw [kC_at (k := 8) (by decide)]; decide))
          have ga15398 := ga15381.of (h15391.2 (c + 9) (by rw [kC_at (k := 9) (by decide)]; decide))
          have ga15399 := ga15382.of (h15391.2 (c + 11) (by rw [kC_at (k := 11) (by decide)]; decide))
          obtain ⟨rfl, rfl⟩ := hp
          refine m_aload_n F rfl e_X10_readLine_170 ?_
          refine m_dup F rfl e_X10_readLine_171 ?_
          refine r_getC F e_X10_readLine_172 fl_X10_202 h15392 (yd15383) ?_
          refine m_iconst F (v := 1) (by decide) e_X10_readLine_175 ?_
          refine m_iadd F e_X10_readLine_176 ?_
          refine Wm.topE (w := nI (ln3 + 1)) (nI_add ln3 1) ?_
          refine r_put F (g' := (⟨T, 0, u, h, P15223, L⟩ : RG)) e_X10_readLine_177 fp_X10_202 h15392 (by decide) ⟨_, rfl⟩ (fun _ _ _ _ q => q) (fun _ _ _ q => q) rfl rfl (by decide) (fun σ15400 h15401 g15402 g15403 f15404 => ?_)
          have ga15405 := ga15376.of (g15402 _ (by omega))
          have ga15406 := ga15377.of (g15402 _ (by omega))
          have ga15407 := ga15378.of (g15402 _ (by omega))
          have ga15408 := ga15379.of (g15402 _ (by omega))
          have ga15409 := ga15380.of (g15402 _ (by omega))
          have ga15410 := ga15381.of (g15402 _ (by omega))
          have ga15411 := ga15382.of (g15402 _ (by omega))
          have h15412 : HS V c _ [0, 2, 17, 18, 19, 20, 21, 22, 23] _ _ := ⟨HR.mono (Z' := Z) (by intro e; first | rfl | assumption | omega) h15401.1, h15401.2⟩
          exact m_vret F hQ e_X10_readLine_180 (⟨P15223, oP15223, (by unfold RP; omega), (by rw [eo15232]; show RM _ c n _ (stopS (tok t n) (j1, 3, j3, j4) nl3 nm3 np3 nc3 lc3 no3 sd3 md3 ln3); rw [stopS_1 (by decide)]; exact RM.l ((g15403 23 (by decide)).trans yd15388) ((g15403 24 (by decide)).trans yd15389) (by omega) (by omega) (by omega)), (fun S2 hS _ => by rw [eo15232] at hS; replace hS : stopS (tok t n) (j1, 3, j3, j4) nl3 nm3 np3 nc3 lc3 no3 sd3 md3 ln3 = .inr S2 := hS; rw [stopS_1 (by decide)] at hS; cases hS), h15412, rfl⟩)
        · refine r_getC F e_X10_readLine_154 fl_X10_110 h15222 (yd15249) ?_
          refine m_iconst F (v := 3) (by decide) e_X10_readLine_157 ?_
          refine m_icmp_eq F e_X10_readLine_158 (fun _ => ?_) (fun q => absurd (by decide) q)
          refine m_aload_n F rfl e_X10_readLine_166 ?_
          refine r_callV F e_X10_readLine_167 (q_X10_goOnE (x_l X) V c T Z u h P15223 L _ _  n j1 3 va3 ln3 fp3 t h15222.1 (hob) oP15223  ⟨(yd15246), (yd15247), (yd15248), (yd15249), (yd15250), (yd15251), (yd15252)⟩ ga15225 hn7 (by omega)) cb_X10_goOn ml_X10_154 im_X10_goOn se_X10_goOn h15222 rfl rfl (rest := []) rfl (Nat.le_of_ble_eq_true rfl) ⟨Nat.le_of_ble_eq_true rfl, Nat.le_of_ble_eq_true rfl⟩ ⟨Nat.le_of_ble_eq_true rfl, Nat.le_of_ble_eq_true rfl⟩ (fun r σ15413 hp => ?_)
          obtain ⟨P15416, oP15416, rP15416, pr15417, pr15418, h15414, hp⟩ := hp
          have h15415 := HS.trans h15222 h15414 (by decide)
          have xP15416 := oP15416
          unfold OKP at xP15416
          unfold RA at rP15416
          have ga15419 := ga15225.of (h15414.2 (c + 1) (by rw [kC_at (k := 1) (by decide)]; decide))
          have ga15420 := hN3.of (h15414.2 (c + 2) (by rw [kC_at (k := 2) (by decide)]; decide))
          have ga15421 := hM3.of (h15414.2 (c + 3) (by rw [kC_at (k := 3) (by decide)]; decide))
          have ga15422 := hK3.of (h15414.2 (c + 7) (by rw [kC_at (k := 7) (by decide)]; decide))
          have ga15423 := hF3.of (h15414.2 (c + 8) (by rw [kC_at (k := 8) (by decide)]; decide))
          have ga15424 := hG3.of (h15414.2 (c + 9) (by rw [kC_at (k := 9) (by decide)]; decide))
          have ga15425 := hQ3.of (h15414.2 (c + 11) (by rw [kC_at (k := 11) (by decide)]; decide))
          obtain rfl := hp
          rw [pa3] at pr15417 pr15418
          have b8 := tok_ok (t := t) (n := n) j4 c1
          obtain ⟨so15426, va15427, mt15428, yd15429⟩ := pr15418
          have hyd15430 := yd15429
          obtain ⟨yd15430, yd15431, yd15432, yd15433, yd15434, yd15435, yd15436⟩ := hyd15430
          refine m_aload_n F rfl e_X10_readLine_170 ?_
          refine m_dup F rfl e_X10_readLine_171 ?_
          refine r_getC F e_X10_readLine_172 fl_X10_202 h15415 (yd15430) ?_
          refine m_iconst F (v := 1) (by decide) e_X10_readLine_175 ?_
          refine m_iadd F e_X10_readLine_176 ?_
          refine Wm.topE (w := nI (ln3 + 1)) (nI_add ln3 1) ?_
          refine r_put F (g' := (⟨T, Z, u, h, P15416, L⟩ : RG)) e_X10_readLine_177 fp_X10_202 h15415 (by decide) ⟨_, rfl⟩ (fun _ _ _ _ q => q) (fun _ _ _ q => q) rfl rfl (by decide) (fun σ15437 h15438 g15439 g15440 f15441 => ?_)
          have ga15442 := ga15419.of (g15439 _ (by omega))
          have ga15443 := ga15420.of (g15439 _ (by omega))
          have ga15444 := ga15421.of (g15439 _ (by omega))
          have ga15445 := ga15422.of (g15439 _ (by omega))
          have ga15446 := ga15423.of (g15439 _ (by omega))
          have ga15447 := ga15424.of (g15439 _ (by omega))
          have ga15448 := ga15425.of (g15439 _ (by omega))
          exact m_vret F hQ e_X10_readLine_180 (⟨P15416, oP15416, (by unfold RP; omega), (by rw [eo15232]; show RM _ c n _ (stopS (tok t n) (j1, 4, j3, j4) nl3 nm3 np3 nc3 lc3 no3 sd3 md3 ln3); rw [stopS_ok]; exact RM.r mt15428 ⟨(f15441), ((g15440 18 (by decide)).trans yd15431), ((g15440 20 (by decide)).trans yd15432), ((g15440 21 (by decide)).trans yd15433), ((g15440 22 (by decide)).trans yd15434), ((g15440 23 (by decide)).trans yd15435), ((g15440 24 (by decide)).trans yd15436)⟩ (by omega) (by omega) (by omega) ga15443 ga15444 ga15445 ga15446 ga15447 ga15448 (by omega) (by omega) (by omega) (by omega) (by omega)), (fun S2 hS hz => by rw [eo15232] at hS; replace hS : stopS (tok t n) (j1, 4, j3, j4) nl3 nm3 np3 nc3 lc3 no3 sd3 md3 ln3 = .inr S2 := hS; rw [stopS_ok] at hS; cases hS; replace hz : (tok t n j4).2.1 ≠ 0 := hz; have h8 := b8.2.2.2 hz; omega), h15438, rfl⟩)
        · refine r_getC F e_X10_readLine_154 fl_X10_110 h15222 (yd15249) ?_
          refine m_iconst F (v := 3) (by decide) e_X10_readLine_157 ?_
          refine m_icmp_eq F e_X10_readLine_158 (fun q => absurd q (by decide)) (fun _ => ?_)
          refine m_aload_n F rfl e_X10_readLine_161 ?_
          refine m_iconst F (v := 1) (by decide) e_X10_readLine_162 ?_
          refine r_callV F e_X10_readLine_163 (q_X10_wrongE (x_l X) V c T Z u h P15223 L _ _ 1 n j1 5 va3 ln3 fp3 h15222.1 (hob) oP15223 (by omega) ⟨(yd15246), (yd15247), (yd15248), (yd15249), (yd15250), (yd15251), (yd15252)⟩ (by decide)) cb_X10_wrong ml_X10_150 im_X10_wrong se_X10_wrong h15222 rfl rfl (rest := []) rfl (Nat.le_of_ble_eq_true rfl) ⟨Nat.le_of_ble_eq_true rfl, Nat.le_of_ble_eq_true rfl⟩ ⟨Nat.le_of_ble_eq_true rfl, Nat.le_of_ble_eq_true rfl⟩ (fun r σ15449 hp => ?_)
          obtain ⟨h15450, hp⟩ := hp
          have h15451 := HS.trans h15222 h15450 (by decide)
          have ga15452 := ga15225.of (h15450.2 (c + 1) (by rw [kC_at (k := 1) (by decide)]; decide))
          have ga15453 := hN3.of (h15450.2 (c + 2) (by rw [kC_at (k := 2) (by decide)]; decide))
          have ga15454 := hM3.of (h15450.2 (c + 3) (by rw [kC_at (k := 3) (by decide)]; decide))
          have ga15455 := hK3.of (h15450.2 (c + 7) (by rw [kC_at (k := 7) (by decide)]; decide))
          have ga15456 := hF3.of (h15450.2 (c + 8) (by rw [kC_at (k := 8) (by decide)]; decide))
          have ga15457 := hG3.of (h15450.2 (c + 9) (by rw [kC_at (k := 9) (by decide)]; decide))
          have ga15458 := hQ3.of (h15450.2 (c + 11) (by rw [kC_at (k := 11) (by decide)]; decide))
          obtain ⟨hp, rfl⟩ := hp
          have hyd15459 := hp
          obtain ⟨yd15459, yd15460, yd15461, yd15462, yd15463, yd15464, yd15465⟩ := hyd15459
          refine m_aload_n F rfl e_X10_readLine_166 ?_
          refine r_callV F e_X10_readLine_167 (q_X10_goOnG (x_l X) V c T 0 u h P15223 L _ _  1 h15451.1 (hob) oP15223  (yd15464) (by decide)) cb_X10_goOn ml_X10_154 im_X10_goOn se_X10_goOn h15451 rfl rfl (rest := []) rfl (Nat.le_of_ble_eq_true rfl) ⟨Nat.le_of_ble_eq_true rfl, Nat.le_of_ble_eq_true rfl⟩ ⟨Nat.le_of_ble_eq_true rfl, Nat.le_of_ble_eq_true rfl⟩ (fun r σ15466 hp => ?_)
          obtain ⟨h15467, hp⟩ := hp
          have h15468 := HS.trans h15451 h15467 (by decide)
          have ga15469 := ga15452.of (h15467.2 (c + 1) (by rw [kC_at (k := 1) (by decide)]; decide))
          have ga15470 := ga15453.of (h15467.2 (c + 2) (by rw [kC_at (k := 2) (by decide)]; decide))
          have ga15471 := ga15454.of (h15467.2 (c + 3) (by rw [kC_at (k := 3) (by decide)]; decide))
          have ga15472 := ga15455.of (h15467.2 (c + 7) (by rw [kC_at (k := 7) (by decide)]; decide))
          have ga15473 := ga15456.of (h15467.2 (c + 8) (by rw [kC_at (k := 8) (by decide)]; decide))
          have ga15474 := ga15457.of (h15467.2 (c + 9) (by rw [kC_at (k := 9) (by decide)]; decide))
          have ga15475 := ga15458.of (h15467.2 (c + 11) (by rw [kC_at (k := 11) (by decide)]; decide))
          obtain ⟨rfl, rfl⟩ := hp
          refine m_aload_n F rfl e_X10_readLine_170 ?_
          refine m_dup F rfl e_X10_readLine_171 ?_
          refine r_getC F e_X10_readLine_172 fl_X10_202 h15468 (yd15459) ?_
          refine m_iconst F (v := 1) (by decide) e_X10_readLine_175 ?_
          refine m_iadd F e_X10_readLine_176 ?_
          refine Wm.topE (w := nI (ln3 + 1)) (nI_add ln3 1) ?_
          refine r_put F (g' := (⟨T, 0, u, h, P15223, L⟩ : RG)) e_X10_readLine_177 fp_X10_202 h15468 (by decide) ⟨_, rfl⟩ (fun _ _ _ _ q => q) (fun _ _ _ q => q) rfl rfl (by decide) (fun σ15476 h15477 g15478 g15479 f15480 => ?_)
          have ga15481 := ga15452.of (g15478 _ (by omega))
          have ga15482 := ga15453.of (g15478 _ (by omega))
          have ga15483 := ga15454.of (g15478 _ (by omega))
          have ga15484 := ga15455.of (g15478 _ (by omega))
          have ga15485 := ga15456.of (g15478 _ (by omega))
          have ga15486 := ga15457.of (g15478 _ (by omega))
          have ga15487 := ga15458.of (g15478 _ (by omega))
          have h15488 : HS V c _ [0, 2, 17, 18, 19, 20, 21, 22, 23] _ _ := ⟨HR.mono (Z' := Z) (by intro e; first | rfl | assumption | omega) h15477.1, h15477.2⟩
          exact m_vret F hQ e_X10_readLine_180 (⟨P15223, oP15223, (by unfold RP; omega), (by rw [eo15232]; show RM _ c n _ (stopS (tok t n) (j1, 5, j3, j4) nl3 nm3 np3 nc3 lc3 no3 sd3 md3 ln3); rw [stopS_1 (by decide)]; exact RM.l ((g15479 23 (by decide)).trans yd15464) ((g15479 24 (by decide)).trans yd15465) (by omega) (by omega) (by omega)), (fun S2 hS _ => by rw [eo15232] at hS; replace hS : stopS (tok t n) (j1, 5, j3, j4) nl3 nm3 np3 nc3 lc3 no3 sd3 md3 ln3 = .inr S2 := hS; rw [stopS_1 (by decide)] at hS; cases hS), h15488, rfl⟩)
    · refine r_getC F e_X10_readLine_1 fl_X10_110 h1 (yd14104) ?_
      refine m_if_eq F e_X10_readLine_4 (fun _ => ?_) (fun q => absurd (by decide) q)
      refine m_aload_n F rfl e_X10_readLine_15 ?_
      refine r_getC F e_X10_readLine_16 fl_X10_120 h1 (yd14105) ?_
      refine m_if_ne F e_X10_readLine_19 (fun _ => ?_) (fun q => absurd q (by decide))
      refine m_aload_n F rfl e_X10_readLine_29 ?_
      refine r_getC F e_X10_readLine_30 fl_X10_120 h1 (yd14105) ?_
      refine m_iconst F (v := 1) (by decide) e_X10_readLine_33 ?_
      refine m_icmp_ne F e_X10_readLine_34 (fun _ => ?_) (fun q => absurd q (by decide))
      refine m_aload_n F rfl e_X10_readLine_44 ?_
      refine r_getC F e_X10_readLine_45 fl_X10_120 h1 (yd14105) ?_
      refine m_iconst F (v := 2) (by decide) e_X10_readLine_48 ?_
      refine m_icmp_eq F e_X10_readLine_49 (fun q => absurd q (by decide)) (fun _ => ?_)
      refine m_aload_n F rfl e_X10_readLine_52 ?_
      refine r_getC F e_X10_readLine_53 fl_X10_120 h1 (yd14105) ?_
      refine m_iconst F (v := 5) (by decide) e_X10_readLine_56 ?_
      refine m_icmp_ne F e_X10_readLine_57 (fun q => absurd (by decide) q) (fun _ => ?_)
      refine m_aload_n F rfl e_X10_readLine_60 ?_
      refine m_aload_n F rfl e_X10_readLine_61 ?_
      refine r_getC F e_X10_readLine_62 fl_X10_120 h1 (yd14105) ?_
      refine m_iconst F (v := 2) (by decide) e_X10_readLine_65 ?_
      refine m_icmp_ne F e_X10_readLine_66 (fun _ => ?_) (fun q => absurd q (by decide))
      refine m_iconst F (v := 2) (by decide) e_X10_readLine_73 ?_
      refine r_callV F e_X10_readLine_74 (q_X10_readMark2E (x_l X) V c T Z u h P L _ _  n st 0 5 ln fp t 1 5 nm np lc no sd md h1.1 (hob) hP  ⟨(yd14101), (yd14102), (yd14103), (yd14104), (yd14105), (yd14106), (yd14107)⟩ hp1 hn7 (by omega) hp4 hp5 hp6 hp7 hp8 hp9 hp10 hp11 hp12 hp13 hp14) cb_X10_readMark ml_X10_184 im_X10_readMark se_X10_readMark h1 rfl rfl (rest := []) rfl (Nat.le_of_ble_eq_true rfl) ⟨Nat.le_of_ble_eq_true rfl, Nat.le_of_ble_eq_true rfl⟩ ⟨Nat.le_of_ble_eq_true rfl, Nat.le_of_ble_eq_true rfl⟩ (fun r σ15489 hp => ?_)
      obtain ⟨P15492, oP15492, rP15492, pr15493, h15490, hp⟩ := hp
      have h15491 := HS.trans h1 h15490 (by decide)
      have xP15492 := oP15492
      unfold OKP at xP15492
      unfold RP at rP15492
      have ga15494 := hp1.of (h15490.2 (c + 1) (by rw [kC_at (k := 1) (by decide)]; decide))
      have ga15495 := hp6.of (h15490.2 (c + 2) (by rw [kC_at (k := 2) (by decide)]; decide))
      have ga15496 := hp7.of (h15490.2 (c + 3) (by rw [kC_at (k := 3) (by decide)]; decide))
      have ga15497 := hp9.of (h15490.2 (c + 8) (by rw [kC_at (k := 8) (by decide)]; decide))
      have ga15498 := hp10.of (h15490.2 (c + 9) (by rw [kC_at (k := 9) (by decide)]; decide))
      have ga15499 := hp11.of (h15490.2 (c + 11) (by rw [kC_at (k := 11) (by decide)]; decide))
      obtain rfl := hp
      have rm15500 : RM σ15489 c n P15492 (lineS (tok t n) (st, 1, 5, P.a) P.n5 nm np P.n7 lc no sd md ln) := by rw [lineS_5]; exact pr15493
      cases eo15501 : lineS (tok t n) (st, 1, 5, P.a) P.n5 nm np P.n7 lc no sd md ln with
      | inl e8 =>
        rw [eo15501] at rm15500
        obtain ⟨⟨fa15502, fb15503⟩, c1, c2, c3⟩ := rm15500
        have nz8 : nI e8.1 ≠ 0 := fun e => absurd (nI_inj9 (b := 0) (by omega) (by omega) e) (by omega)
        refine m_goto F e_X10_readLine_77 ?_
        refine m_aload_n F rfl e_X10_readLine_146 ?_
        refine r_getC F e_X10_readLine_147 fl_X10_141 h15491 (fa15502) ?_
        refine m_if_ne F e_X10_readLine_150 (fun q150 => ?_) (fun q150 => ?_)
        · have c150 : e8.1 ≠ 0 := by have hh := mt (nI_eq (a := e8.1) (b := 0) (by omega) (by omega)).mpr q150; omega
          refine m_aload_n F rfl e_X10_readLine_166 ?_
          refine r_callV F e_X10_readLine_167 (q_X10_goOnG (x_l X) V c T Z u h P15492 L _ _  (nI e8.1) h15491.1 (hob) oP15492  (fa15502) (by assumption)) cb_X10_goOn ml_X10_154 im_X10_goOn se_X10_goOn h15491 rfl rfl (rest := []) rfl (Nat.le_of_ble_eq_true rfl) ⟨Nat.le_of_ble_eq_true rfl, Nat.le_of_ble_eq_true rfl⟩ ⟨Nat.le_of_ble_eq_true rfl, Nat.le_of_ble_eq_true rfl⟩ (fun r σ15504 hp => ?_)
          obtain ⟨h15505, hp⟩ := hp
          have h15506 := HS.trans h15491 h15505 (by decide)
          obtain ⟨rfl, rfl⟩ := hp
          refine m_aload_n F rfl e_X10_readLine_170 ?_
          refine m_dup F rfl e_X10_readLine_171 ?_
          refine r_get F e_X10_readLine_172 fl_X10_202 h15506 rfl (fun v hv f15507 => ?_)
          obtain ⟨x15508, rfl⟩ := hv
          refine m_iconst F (v := 1) (by decide) e_X10_readLine_175 ?_
          refine m_iadd F e_X10_readLine_176 ?_
          refine Wm.top (fun x15509 _ => ?_)
          refine r_put F (g' := (⟨T, Z, u, h, P15492, L⟩ : RG)) e_X10_readLine_177 fp_X10_202 h15506 (by decide) ⟨_, rfl⟩ (fun _ _ _ _ q => q) (fun _ _ _ q => q) rfl rfl (by decide) (fun σ15510 h15511 g15512 g15513 f15514 => ?_)
          exact m_vret F hQ e_X10_readLine_180 (⟨P15492, oP15492, (by unfold RP; omega), (by rw [eo15501]; show RM _ c n _ (.inl e8); exact RM.l ((g15513 23 (by decide)).trans fa15502) ((g15513 24 (by decide)).trans fb15503) (by omega) (by omega) (by omega)), (fun S2 hS _ => by rw [eo15501] at hS; cases hS), h15511, rfl⟩)
        · have c150 : e8.1 = 0 := (nI_eq (a := e8.1) (b := 0) (by omega) (by omega)).mp q150
          exact absurd q150 nz8
      | inr S1 =>
        rw [eo15501] at rm15500
        obtain ⟨⟨j1, j2, j3, j4⟩, nl3, nm3, np3, nc3, lc3, no3, sd3, md3, ln3⟩ := S1
        obtain ⟨so3, va3, fp3, mt3, yd3, ⟨pa3, p53, p73⟩, hN3, hM3, hK3, hF3, hG3, hQ3, c1, c2, c3, c4, c5⟩ := rm15500
        replace pa3 : _ = j4 := pa3
        replace c1 : j4 ≤ n := c1
        replace c2 : j1 ≤ n := c2
        have hyd15515 := yd3
        obtain ⟨yd15515, yd15516, yd15517, yd15518, yd15519, yd15520, yd15521⟩ := hyd15515
        refine m_goto F e_X10_readLine_77 ?_
        refine m_aload_n F rfl e_X10_readLine_146 ?_
        refine r_getC F e_X10_readLine_147 fl_X10_141 h15491 (yd15520) ?_
        refine m_if_ne F e_X10_readLine_150 (fun q => absurd (by decide) q) (fun _ => ?_)
        refine m_aload_n F rfl e_X10_readLine_153 ?_
        have hmt := mt3
        rcases hmt with ⟨rfl, rfl⟩ | ⟨rfl, rfl, rfl, hv3⟩ | ⟨rfl, rfl, rfl, hv3⟩ | ⟨rfl, rfl, w3, hw3, rfl, hm3⟩ | ⟨rfl, rfl⟩ | ⟨rfl, rfl⟩
        · refine r_getC F e_X10_readLine_154 fl_X10_110 h15491 (yd15518) ?_
          refine m_iconst F (v := 3) (by decide) e_X10_readLine_157 ?_
          refine m_icmp_eq F e_X10_readLine_158 (fun q => absurd q (by decide)) (fun _ => ?_)
          refine m_aload_n F rfl e_X10_readLine_161 ?_
          refine m_iconst F (v := 1) (by decide) e_X10_readLine_162 ?_
          refine r_callV F e_X10_readLine_163 (q_X10_wrongE (x_l X) V c T Z u h P15492 L _ _ 1 n j1 4 va3 ln3 fp3 h15491.1 (hob) oP15492 (by omega) ⟨(yd15515), (yd15516), (yd15517), (yd15518), (yd15519), (yd15520), (yd15521)⟩ (by decide)) cb_X10_wrong ml_X10_150 im_X10_wrong se_X10_wrong h15491 rfl rfl (rest := []) rfl (Nat.le_of_ble_eq_true rfl) ⟨Nat.le_of_ble_eq_true rfl, Nat.le_of_ble_eq_true rfl⟩ ⟨Nat.le_of_ble_eq_true rfl, Nat.le_of_ble_eq_true rfl⟩ (fun r σ15522 hp => ?_)
          obtain ⟨h15523, hp⟩ := hp
          have h15524 := HS.trans h15491 h15523 (by decide)
          have ga15525 := ga15494.of (h15523.2 (c + 1) (by rw [kC_at (k := 1) (by decide)]; decide))
          have ga15526 := hN3.of (h15523.2 (c + 2) (by rw [kC_at (k := 2) (by decide)]; decide))
          have ga15527 := hM3.of (h15523.2 (c + 3) (by rw [kC_at (k := 3) (by decide)]; decide))
          have ga15528 := hK3.of (h15523.2 (c + 7) (by rw [kC_at (k := 7) (by decide)]; decide))
          have ga15529 := hF3.of (h15523.2 (c + 8) (by rw [kC_at (k := 8) (by decide)]; decide))
          have ga15530 := hG3.of (h15523.2 (c + 9) (by rw [kC_at (k := 9) (by decide)]; decide))
          have ga15531 := hQ3.of (h15523.2 (c + 11) (by rw [kC_at (k := 11) (by decide)]; decide))
          obtain ⟨hp, rfl⟩ := hp
          have hyd15532 := hp
          obtain ⟨yd15532, yd15533, yd15534, yd15535, yd15536, yd15537, yd15538⟩ := hyd15532
          refine m_aload_n F rfl e_X10_readLine_166 ?_
          refine r_callV F e_X10_readLine_167 (q_X10_goOnG (x_l X) V c T 0 u h P15492 L _ _  1 h15524.1 (hob) oP15492  (yd15537) (by decide)) cb_X10_goOn ml_X10_154 im_X10_goOn se_X10_goOn h15524 rfl rfl (rest := []) rfl (Nat.le_of_ble_eq_true rfl) ⟨Nat.le_of_ble_eq_true rfl, Nat.le_of_ble_eq_true rfl⟩ ⟨Nat.le_of_ble_eq_true rfl, Nat.le_of_ble_eq_true rfl⟩ (fun r σ15539 hp => ?_)
          obtain ⟨h15540, hp⟩ := hp
          have h15541 := HS.trans h15524 h15540 (by decide)
          have ga15542 := ga15525.of (h15540.2 (c + 1) (by rw [kC_at (k := 1) (by decide)]; decide))
          have ga15543 := ga15526.of (h15540.2 (c + 2) (by rw [kC_at (k := 2) (by decide)]; decide))
          have ga15544 := ga15527.of (h15540.2 (c + 3) (by rw [kC_at (k := 3) (by decide)]; decide))
          have ga15545 := ga15528.of (h15540.2 (c + 7) (by rw [kC_at (k := 7) (by decide)]; decide))
          have ga15546 := ga15529.of (h15540.2 (c + 8) (by rw [kC_at (k := 8) (by decide)]; decide))
          have ga15547 := ga15530.of (h15540.2 (c + 9) (by rw [kC_at (k := 9) (by decide)]; decide))
          have ga15548 := ga15531.of (h15540.2 (c + 11) (by rw [kC_at (k := 11) (by decide)]; decide))
          obtain ⟨rfl, rfl⟩ := hp
          refine m_aload_n F rfl e_X10_readLine_170 ?_
          refine m_dup F rfl e_X10_readLine_171 ?_
          refine r_getC F e_X10_readLine_172 fl_X10_202 h15541 (yd15532) ?_
          refine m_iconst F (v := 1) (by decide) e_X10_readLine_175 ?_
          refine m_iadd F e_X10_readLine_176 ?_
          refine Wm.topE (w := nI (ln3 + 1)) (nI_add ln3 1) ?_
          refine r_put F (g' := (⟨T, 0, u, h, P15492, L⟩ : RG)) e_X10_readLine_177 fp_X10_202 h15541 (by decide) ⟨_, rfl⟩ (fun _ _ _ _ q => q) (fun _ _ _ q => q) rfl rfl (by decide) (fun σ15549 h15550 g15551 g15552 f15553 => ?_)
          have ga15554 := ga15525.of (g15551 _ (by omega))
          have ga15555 := ga15526.of (g15551 _ (by omega))
          have ga15556 := ga15527.of (g15551 _ (by omega))
          have ga15557 := ga15528.of (g15551 _ (by omega))
          have ga15558 := ga15529.of (g15551 _ (by omega))
          have ga15559 := ga15530.of (g15551 _ (by omega))
          have ga15560 := ga15531.of (g15551 _ (by omega))
          have h15561 : HS V c _ [0, 2, 17, 18, 19, 20, 21, 22, 23] _ _ := ⟨HR.mono (Z' := Z) (by intro e; first | rfl | assumption | omega) h15550.1, h15550.2⟩
          exact m_vret F hQ e_X10_readLine_180 (⟨P15492, oP15492, (by unfold RP; omega), (by rw [eo15501]; show RM _ c n _ (stopS (tok t n) (j1, 0, j3, j4) nl3 nm3 np3 nc3 lc3 no3 sd3 md3 ln3); rw [stopS_1 (by decide)]; exact RM.l ((g15552 23 (by decide)).trans yd15537) ((g15552 24 (by decide)).trans yd15538) (by omega) (by omega) (by omega)), (fun S2 hS _ => by rw [eo15501] at hS; replace hS : stopS (tok t n) (j1, 0, j3, j4) nl3 nm3 np3 nc3 lc3 no3 sd3 md3 ln3 = .inr S2 := hS; rw [stopS_1 (by decide)] at hS; cases hS), h15561, rfl⟩)
        · refine r_getC F e_X10_readLine_154 fl_X10_110 h15491 (yd15518) ?_
          refine m_iconst F (v := 3) (by decide) e_X10_readLine_157 ?_
          refine m_icmp_eq F e_X10_readLine_158 (fun q => absurd q (by decide)) (fun _ => ?_)
          refine m_aload_n F rfl e_X10_readLine_161 ?_
          refine m_iconst F (v := 1) (by decide) e_X10_readLine_162 ?_
          refine r_callV F e_X10_readLine_163 (q_X10_wrongE (x_l X) V c T Z u h P15492 L _ _ 1 n j1 0 (nI j3) ln3 fp3 h15491.1 (hob) oP15492 (by omega) ⟨(yd15515), (yd15516), (yd15517), (yd15518), (yd15519), (yd15520), (yd15521)⟩ (by decide)) cb_X10_wrong ml_X10_150 im_X10_wrong se_X10_wrong h15491 rfl rfl (rest := []) rfl (Nat.le_of_ble_eq_true rfl) ⟨Nat.le_of_ble_eq_true rfl, Nat.le_of_ble_eq_true rfl⟩ ⟨Nat.le_of_ble_eq_true rfl, Nat.le_of_ble_eq_true rfl⟩ (fun r σ15562 hp => ?_)
          obtain ⟨h15563, hp⟩ := hp
          have h15564 := HS.trans h15491 h15563 (by decide)
          have ga15565 := ga15494.of (h15563.2 (c + 1) (by rw [kC_at (k := 1) (by decide)]; decide))
          have ga15566 := hN3.of (h15563.2 (c + 2) (by rw [kC_at (k := 2) (by decide)]; decide))
          have ga15567 := hM3.of (h15563.2 (c + 3) (by rw [kC_at (k := 3) (by decide)]; decide))
          have ga15568 := hK3.of (h15563.2 (c + 7) (by rw [kC_at (k := 7) (by decide)]; decide))
          have ga15569 := hF3.of (h15563.2 (c + 8) (by rw [kC_at (k := 8) (by decide)]; decide))
          have ga15570 := hG3.of (h15563.2 (c + 9) (by rw [kC_at (k := 9) (by decide)]; decide))
          have ga15571 := hQ3.of (h15563.2 (c + 11) (by rw [kC_at (k := 11) (by decide)]; decide))
          obtain ⟨hp, rfl⟩ := hp
          have hyd15572 := hp
          obtain ⟨yd15572, yd15573, yd15574, yd15575, yd15576, yd15577, yd15578⟩ := hyd15572
          refine m_aload_n F rfl e_X10_readLine_166 ?_
          refine r_callV F e_X10_readLine_167 (q_X10_goOnG (x_l X) V c T 0 u h P15492 L _ _  1 h15564.1 (hob) oP15492  (yd15577) (by decide)) cb_X10_goOn ml_X10_154 im_X10_goOn se_X10_goOn h15564 rfl rfl (rest := []) rfl (Nat.le_of_ble_eq_true rfl) ⟨Nat.le_of_ble_eq_true rfl, Nat.le_of_ble_eq_true rfl⟩ ⟨Nat.le_of_ble_eq_true rfl, Nat.le_of_ble_eq_true rfl⟩ (fun r σ15579 hp => ?_)
          obtain ⟨h15580, hp⟩ := hp
          have h15581 := HS.trans h15564 h15580 (by decide)
          have ga15582 := ga15565.of (h15580.2 (c + 1) (by rw [kC_at (k := 1) (by decide)]; decide))
          have ga15583 := ga15566.of (h15580.2 (c + 2) (by rw [kC_at (k := 2) (by decide)]; decide))
          have ga15584 := ga15567.of (h15580.2 (c + 3) (by rw [kC_at (k := 3) (by decide)]; decide))
          have ga15585 := ga15568.of (h15580.2 (c + 7) (by rw [kC_at (k := 7) (by decide)]; decide))
          have ga15586 := ga15569.of (h15580.2 (c + 8) (by rw [kC_at (k := 8) (by decide)]; decide))
          have ga15587 := ga15570.of (h15580.2 (c + 9) (by rw [kC_at (k := 9) (by decide)]; decide))
          have ga15588 := ga15571.of (h15580.2 (c + 11) (by rw [kC_at (k := 11) (by decide)]; decide))
          obtain ⟨rfl, rfl⟩ := hp
          refine m_aload_n F rfl e_X10_readLine_170 ?_
          refine m_dup F rfl e_X10_readLine_171 ?_
          refine r_getC F e_X10_readLine_172 fl_X10_202 h15581 (yd15572) ?_
          refine m_iconst F (v := 1) (by decide) e_X10_readLine_175 ?_
          refine m_iadd F e_X10_readLine_176 ?_
          refine Wm.topE (w := nI (ln3 + 1)) (nI_add ln3 1) ?_
          refine r_put F (g' := (⟨T, 0, u, h, P15492, L⟩ : RG)) e_X10_readLine_177 fp_X10_202 h15581 (by decide) ⟨_, rfl⟩ (fun _ _ _ _ q => q) (fun _ _ _ q => q) rfl rfl (by decide) (fun σ15589 h15590 g15591 g15592 f15593 => ?_)
          have ga15594 := ga15565.of (g15591 _ (by omega))
          have ga15595 := ga15566.of (g15591 _ (by omega))
          have ga15596 := ga15567.of (g15591 _ (by omega))
          have ga15597 := ga15568.of (g15591 _ (by omega))
          have ga15598 := ga15569.of (g15591 _ (by omega))
          have ga15599 := ga15570.of (g15591 _ (by omega))
          have ga15600 := ga15571.of (g15591 _ (by omega))
          have h15601 : HS V c _ [0, 2, 17, 18, 19, 20, 21, 22, 23] _ _ := ⟨HR.mono (Z' := Z) (by intro e; first | rfl | assumption | omega) h15590.1, h15590.2⟩
          exact m_vret F hQ e_X10_readLine_180 (⟨P15492, oP15492, (by unfold RP; omega), (by rw [eo15501]; show RM _ c n _ (stopS (tok t n) (j1, 1, j3, j4) nl3 nm3 np3 nc3 lc3 no3 sd3 md3 ln3); rw [stopS_1 (by decide)]; exact RM.l ((g15592 23 (by decide)).trans yd15577) ((g15592 24 (by decide)).trans yd15578) (by omega) (by omega) (by omega)), (fun S2 hS _ => by rw [eo15501] at hS; replace hS : stopS (tok t n) (j1, 1, j3, j4) nl3 nm3 np3 nc3 lc3 no3 sd3 md3 ln3 = .inr S2 := hS; rw [stopS_1 (by decide)] at hS; cases hS), h15601, rfl⟩)
        · refine r_getC F e_X10_readLine_154 fl_X10_110 h15491 (yd15518) ?_
          refine m_iconst F (v := 3) (by decide) e_X10_readLine_157 ?_
          refine m_icmp_eq F e_X10_readLine_158 (fun q => absurd q (by decide)) (fun _ => ?_)
          refine m_aload_n F rfl e_X10_readLine_161 ?_
          refine m_iconst F (v := 1) (by decide) e_X10_readLine_162 ?_
          refine r_callV F e_X10_readLine_163 (q_X10_wrongE (x_l X) V c T Z u h P15492 L _ _ 1 n j1 1 (nI j3) ln3 fp3 h15491.1 (hob) oP15492 (by omega) ⟨(yd15515), (yd15516), (yd15517), (yd15518), (yd15519), (yd15520), (yd15521)⟩ (by decide)) cb_X10_wrong ml_X10_150 im_X10_wrong se_X10_wrong h15491 rfl rfl (rest := []) rfl (Nat.le_of_ble_eq_true rfl) ⟨Nat.le_of_ble_eq_true rfl, Nat.le_of_ble_eq_true rfl⟩ ⟨Nat.le_of_ble_eq_true rfl, Nat.le_of_ble_eq_true rfl⟩ (fun r σ15602 hp => ?_)
          obtain ⟨h15603, hp⟩ := hp
          have h15604 := HS.trans h15491 h15603 (by decide)
          have ga15605 := ga15494.of (h15603.2 (c + 1) (by rw [kC_at (k := 1) (by decide)]; decide))
          have ga15606 := hN3.of (h15603.2 (c + 2) (by rw [kC_at (k := 2) (by decide)]; decide))
          have ga15607 := hM3.of (h15603.2 (c + 3) (by rw [kC_at (k := 3) (by decide)]; decide))
          have ga15608 := hK3.of (h15603.2 (c + 7) (by rw [kC_at (k := 7) (by decide)]; decide))
          have ga15609 := hF3.of (h15603.2 (c + 8) (by rw [kC_at (k := 8) (by decide)]; decide))
          have ga15610 := hG3.of (h15603.2 (c + 9) (by rw [kC_at (k := 9) (by decide)]; decide))
          have ga15611 := hQ3.of (h15603.2 (c + 11) (by rw [kC_at (k := 11) (by decide)]; decide))
          obtain ⟨hp, rfl⟩ := hp
          have hyd15612 := hp
          obtain ⟨yd15612, yd15613, yd15614, yd15615, yd15616, yd15617, yd15618⟩ := hyd15612
          refine m_aload_n F rfl e_X10_readLine_166 ?_
          refine r_callV F e_X10_readLine_167 (q_X10_goOnG (x_l X) V c T 0 u h P15492 L _ _  1 h15604.1 (hob) oP15492  (yd15617) (by decide)) cb_X10_goOn ml_X10_154 im_X10_goOn se_X10_goOn h15604 rfl rfl (rest := []) rfl (Nat.le_of_ble_eq_true rfl) ⟨Nat.le_of_ble_eq_true rfl, Nat.le_of_ble_eq_true rfl⟩ ⟨Nat.le_of_ble_eq_true rfl, Nat.le_of_ble_eq_true rfl⟩ (fun r σ15619 hp => ?_)
          obtain ⟨h15620, hp⟩ := hp
          have h15621 := HS.trans h15604 h15620 (by decide)
          have ga15622 := ga15605.of (h15620.2 (c + 1) (by rw [kC_at (k := 1) (by decide)]; decide))
          have ga15623 := ga15606.of (h15620.2 (c + 2) (by rw [kC_at (k := 2) (by decide)]; decide))
          have ga15624 := ga15607.of (h15620.2 (c + 3) (by rw [kC_at (k := 3) (by decide)]; decide))
          have ga15625 := ga15608.of (h15620.2 (c + 7) (by rw [kC_at (k := 7) (by decide)]; decide))
          have ga15626 := ga15609.of (h15620.2 (c + 8) (by rw [kC_at (k := 8) (by decide)]; decide))
          have ga15627 := ga15610.of (h15620.2 (c + 9) (by rw [kC_at (k := 9) (by decide)]; decide))
          have ga15628 := ga15611.of (h15620.2 (c + 11) (by rw [kC_at (k := 11) (by decide)]; decide))
          obtain ⟨rfl, rfl⟩ := hp
          refine m_aload_n F rfl e_X10_readLine_170 ?_
          refine m_dup F rfl e_X10_readLine_171 ?_
          refine r_getC F e_X10_readLine_172 fl_X10_202 h15621 (yd15612) ?_
          refine m_iconst F (v := 1) (by decide) e_X10_readLine_175 ?_
          refine m_iadd F e_X10_readLine_176 ?_
          refine Wm.topE (w := nI (ln3 + 1)) (nI_add ln3 1) ?_
          refine r_put F (g' := (⟨T, 0, u, h, P15492, L⟩ : RG)) e_X10_readLine_177 fp_X10_202 h15621 (by decide) ⟨_, rfl⟩ (fun _ _ _ _ q => q) (fun _ _ _ q => q) rfl rfl (by decide) (fun σ15629 h15630 g15631 g15632 f15633 => ?_)
          have ga15634 := ga15605.of (g15631 _ (by omega))
          have ga15635 := ga15606.of (g15631 _ (by omega))
          have ga15636 := ga15607.of (g15631 _ (by omega))
          have ga15637 := ga15608.of (g15631 _ (by omega))
          have ga15638 := ga15609.of (g15631 _ (by omega))
          have ga15639 := ga15610.of (g15631 _ (by omega))
          have ga15640 := ga15611.of (g15631 _ (by omega))
          have h15641 : HS V c _ [0, 2, 17, 18, 19, 20, 21, 22, 23] _ _ := ⟨HR.mono (Z' := Z) (by intro e; first | rfl | assumption | omega) h15630.1, h15630.2⟩
          exact m_vret F hQ e_X10_readLine_180 (⟨P15492, oP15492, (by unfold RP; omega), (by rw [eo15501]; show RM _ c n _ (stopS (tok t n) (j1, 2, j3, j4) nl3 nm3 np3 nc3 lc3 no3 sd3 md3 ln3); rw [stopS_1 (by decide)]; exact RM.l ((g15632 23 (by decide)).trans yd15617) ((g15632 24 (by decide)).trans yd15618) (by omega) (by omega) (by omega)), (fun S2 hS _ => by rw [eo15501] at hS; replace hS : stopS (tok t n) (j1, 2, j3, j4) nl3 nm3 np3 nc3 lc3 no3 sd3 md3 ln3 = .inr S2 := hS; rw [stopS_1 (by decide)] at hS; cases hS), h15641, rfl⟩)
        · refine r_getC F e_X10_readLine_154 fl_X10_110 h15491 (yd15518) ?_
          refine m_iconst F (v := 3) (by decide) e_X10_readLine_157 ?_
          refine m_icmp_eq F e_X10_readLine_158 (fun q => absurd q (by decide)) (fun _ => ?_)
          refine m_aload_n F rfl e_X10_readLine_161 ?_
          refine m_iconst F (v := 1) (by decide) e_X10_readLine_162 ?_
          refine r_callV F e_X10_readLine_163 (q_X10_wrongE (x_l X) V c T Z u h P15492 L _ _ 1 n j1 2 (nI w3) ln3 fp3 h15491.1 (hob) oP15492 (by omega) ⟨(yd15515), (yd15516), (yd15517), (yd15518), (yd15519), (yd15520), (yd15521)⟩ (by decide)) cb_X10_wrong ml_X10_150 im_X10_wrong se_X10_wrong h15491 rfl rfl (rest := []) rfl (Nat.le_of_ble_eq_true rfl) ⟨Nat.le_of_ble_eq_true rfl, Nat.le_of_ble_eq_true rfl⟩ ⟨Nat.le_of_ble_eq_true rfl, Nat.le_of_ble_eq_true rfl⟩ (fun r σ15642 hp => ?_)
          obtain ⟨h15643, hp⟩ := hp
          have h15644 := HS.trans h15491 h15643 (by decide)
          have ga15645 := ga15494.of (h15643.2 (c + 1) (by rw [kC_at (k := 1) (by decide)]; decide))
          have ga15646 := hN3.of (h15643.2 (c + 2) (by rw [kC_at (k := 2) (by decide)]; decide))
          have ga15647 := hM3.of (h15643.2 (c + 3) (by rw [kC_at (k := 3) (by decide)]; decide))
          have ga15648 := hK3.of (h15643.2 (c + 7) (by rw [kC_at (k := 7) (by decide)]; decide))
          have ga15649 := hF3.of (h15643.2 (c + 8) (by rw [kC_at (k := 8) (by decide)]; decide))
          have ga15650 := hG3.of (h15643.2 (c + 9) (by rw [kC_at (k := 9) (by decide)]; decide))
          have ga15651 := hQ3.of (h15643.2 (c + 11) (by rw [kC_at (k := 11) (by decide)]; decide))
          obtain ⟨hp, rfl⟩ := hp
          have hyd15652 := hp
          obtain ⟨yd15652, yd15653, yd15654, yd15655, yd15656, yd15657, yd15658⟩ := hyd15652
          refine m_aload_n F rfl e_X10_readLine_166 ?_
          refine r_callV F e_X10_readLine_167 (q_X10_goOnG (x_l X) V c T 0 u h P15492 L _ _  1 h15644.1 (hob) oP15492  (yd15657) (by decide)) cb_X10_goOn ml_X10_154 im_X10_goOn se_X10_goOn h15644 rfl rfl (rest := []) rfl (Nat.le_of_ble_eq_true rfl) ⟨Nat.le_of_ble_eq_true rfl, Nat.le_of_ble_eq_true rfl⟩ ⟨Nat.le_of_ble_eq_true rfl, Nat.le_of_ble_eq_true rfl⟩ (fun r σ15659 hp => ?_)
          obtain ⟨h15660, hp⟩ := hp
          have h15661 := HS.trans h15644 h15660 (by decide)
          have ga15662 := ga15645.of (h15660.2 (c + 1) (by rw [kC_at (k := 1) (by decide)]; decide))
          have ga15663 := ga15646.of (h15660.2 (c + 2) (by rw [kC_at (k := 2) (by decide)]; decide))
          have ga15664 := ga15647.of (h15660.2 (c + 3) (by rw [kC_at (k := 3) (by decide)]; decide))
          have ga15665 := ga15648.of (h15660.2 (c + 7) (by rw [kC_at (k := 7) (by decide)]; decide))
          have ga15666 := ga15649.of (h15660.2 (c + 8) (by rw [kC_at (k := 8) (by decide)]; decide))
          have ga15667 := ga15650.of (h15660.2 (c + 9) (by rw [kC_at (k := 9) (by decide)]; decide))
          have ga15668 := ga15651.of (h15660.2 (c + 11) (by rw [kC_at (k := 11) (by decide)]; decide))
          obtain ⟨rfl, rfl⟩ := hp
          refine m_aload_n F rfl e_X10_readLine_170 ?_
          refine m_dup F rfl e_X10_readLine_171 ?_
          refine r_getC F e_X10_readLine_172 fl_X10_202 h15661 (yd15652) ?_
          refine m_iconst F (v := 1) (by decide) e_X10_readLine_175 ?_
          refine m_iadd F e_X10_readLine_176 ?_
          refine Wm.topE (w := nI (ln3 + 1)) (nI_add ln3 1) ?_
          refine r_put F (g' := (⟨T, 0, u, h, P15492, L⟩ : RG)) e_X10_readLine_177 fp_X10_202 h15661 (by decide) ⟨_, rfl⟩ (fun _ _ _ _ q => q) (fun _ _ _ q => q) rfl rfl (by decide) (fun σ15669 h15670 g15671 g15672 f15673 => ?_)
          have ga15674 := ga15645.of (g15671 _ (by omega))
          have ga15675 := ga15646.of (g15671 _ (by omega))
          have ga15676 := ga15647.of (g15671 _ (by omega))
          have ga15677 := ga15648.of (g15671 _ (by omega))
          have ga15678 := ga15649.of (g15671 _ (by omega))
          have ga15679 := ga15650.of (g15671 _ (by omega))
          have ga15680 := ga15651.of (g15671 _ (by omega))
          have h15681 : HS V c _ [0, 2, 17, 18, 19, 20, 21, 22, 23] _ _ := ⟨HR.mono (Z' := Z) (by intro e; first | rfl | assumption | omega) h15670.1, h15670.2⟩
          exact m_vret F hQ e_X10_readLine_180 (⟨P15492, oP15492, (by unfold RP; omega), (by rw [eo15501]; show RM _ c n _ (stopS (tok t n) (j1, 3, j3, j4) nl3 nm3 np3 nc3 lc3 no3 sd3 md3 ln3); rw [stopS_1 (by decide)]; exact RM.l ((g15672 23 (by decide)).trans yd15657) ((g15672 24 (by decide)).trans yd15658) (by omega) (by omega) (by omega)), (fun S2 hS _ => by rw [eo15501] at hS; replace hS : stopS (tok t n) (j1, 3, j3, j4) nl3 nm3 np3 nc3 lc3 no3 sd3 md3 ln3 = .inr S2 := hS; rw [stopS_1 (by decide)] at hS; cases hS), h15681, rfl⟩)
        · refine r_getC F e_X10_readLine_154 fl_X10_110 h15491 (yd15518) ?_
          refine m_iconst F (v := 3) (by decide) e_X10_readLine_157 ?_
          refine m_icmp_eq F e_X10_readLine_158 (fun _ => ?_) (fun q => absurd (by decide) q)
          refine m_aload_n F rfl e_X10_readLine_166 ?_
          refine r_callV F e_X10_readLine_167 (q_X10_goOnE (x_l X) V c T Z u h P15492 L _ _  n j1 3 va3 ln3 fp3 t h15491.1 (hob) oP15492  ⟨(yd15515), (yd15516), (yd15517), (yd15518), (yd15519), (yd15520), (yd15521)⟩ ga15494 hn7 (by omega)) cb_X10_goOn ml_X10_154 im_X10_goOn se_X10_goOn h15491 rfl rfl (rest := []) rfl (Nat.le_of_ble_eq_true rfl) ⟨Nat.le_of_ble_eq_true rfl, Nat.le_of_ble_eq_true rfl⟩ ⟨Nat.le_of_ble_eq_true rfl, Nat.le_of_ble_eq_true rfl⟩ (fun r σ15682 hp => ?_)
          obtain ⟨P15685, oP15685, rP15685, pr15686, pr15687, h15683, hp⟩ := hp
          have h15684 := HS.trans h15491 h15683 (by decide)
          have xP15685 := oP15685
          unfold OKP at xP15685
          unfold RA at rP15685
          have ga15688 := ga15494.of (h15683.2 (c + 1) (by rw [kC_at (k := 1) (by decide)]; decide))
          have ga15689 := hN3.of (h15683.2 (c + 2) (by rw [kC_at (k := 2) (by decide)]; decide))
          have ga15690 := hM3.of (h15683.2 (c + 3) (by rw [kC_at (k := 3) (by decide)]; decide))
          have ga15691 := hK3.of (h15683.2 (c + 7) (by rw [kC_at (k := 7) (by decide)]; decide))
          have ga15692 := hF3.of (h15683.2 (c + 8) (by rw [kC_at (k := 8) (by decide)]; decide))
          have ga15693 := hG3.of (h15683.2 (c + 9) (by rw [kC_at (k := 9) (by decide)]; decide))
          have ga15694 := hQ3.of (h15683.2 (c + 11) (by rw [kC_at (k := 11) (by decide)]; decide))
          obtain rfl := hp
          rw [pa3] at pr15686 pr15687
          have b8 := tok_ok (t := t) (n := n) j4 c1
          obtain ⟨so15695, va15696, mt15697, yd15698⟩ := pr15687
          have hyd15699 := yd15698
          obtain ⟨yd15699, yd15700, yd15701, yd15702, yd15703, yd15704, yd15705⟩ := hyd15699
          refine m_aload_n F rfl e_X10_readLine_170 ?_
          refine m_dup F rfl e_X10_readLine_171 ?_
          refine r_getC F e_X10_readLine_172 fl_X10_202 h15684 (yd15699) ?_
          refine m_iconst F (v := 1) (by decide) e_X10_readLine_175 ?_
          refine m_iadd F e_X10_readLine_176 ?_
          refine Wm.topE (w := nI (ln3 + 1)) (nI_add ln3 1) ?_
          refine r_put F (g' := (⟨T, Z, u, h, P15685, L⟩ : RG)) e_X10_readLine_177 fp_X10_202 h15684 (by decide) ⟨_, rfl⟩ (fun _ _ _ _ q => q) (fun _ _ _ q => q) rfl rfl (by decide) (fun σ15706 h15707 g15708 g15709 f15710 => ?_)
          have ga15711 := ga15688.of (g15708 _ (by omega))
          have ga15712 := ga15689.of (g15708 _ (by omega))
          have ga15713 := ga15690.of (g15708 _ (by omega))
          have ga15714 := ga15691.of (g15708 _ (by omega))
          have ga15715 := ga15692.of (g15708 _ (by omega))
          have ga15716 := ga15693.of (g15708 _ (by omega))
          have ga15717 := ga15694.of (g15708 _ (by omega))
          exact m_vret F hQ e_X10_readLine_180 (⟨P15685, oP15685, (by unfold RP; omega), (by rw [eo15501]; show RM _ c n _ (stopS (tok t n) (j1, 4, j3, j4) nl3 nm3 np3 nc3 lc3 no3 sd3 md3 ln3); rw [stopS_ok]; exact RM.r mt15697 ⟨(f15710), ((g15709 18 (by decide)).trans yd15700), ((g15709 20 (by decide)).trans yd15701), ((g15709 21 (by decide)).trans yd15702), ((g15709 22 (by decide)).trans yd15703), ((g15709 23 (by decide)).trans yd15704), ((g15709 24 (by decide)).trans yd15705)⟩ (by omega) (by omega) (by omega) ga15712 ga15713 ga15714 ga15715 ga15716 ga15717 (by omega) (by omega) (by omega) (by omega) (by omega)), (fun S2 hS hz => by rw [eo15501] at hS; replace hS : stopS (tok t n) (j1, 4, j3, j4) nl3 nm3 np3 nc3 lc3 no3 sd3 md3 ln3 = .inr S2 := hS; rw [stopS_ok] at hS; cases hS; replace hz : (tok t n j4).2.1 ≠ 0 := hz; have h8 := b8.2.2.2 hz; omega), h15707, rfl⟩)
        · refine r_getC F e_X10_readLine_154 fl_X10_110 h15491 (yd15518) ?_
          refine m_iconst F (v := 3) (by decide) e_X10_readLine_157 ?_
          refine m_icmp_eq F e_X10_readLine_158 (fun q => absurd q (by decide)) (fun _ => ?_)
          refine m_aload_n F rfl e_X10_readLine_161 ?_
          refine m_iconst F (v := 1) (by decide) e_X10_readLine_162 ?_
          refine r_callV F e_X10_readLine_163 (q_X10_wrongE (x_l X) V c T Z u h P15492 L _ _ 1 n j1 5 va3 ln3 fp3 h15491.1 (hob) oP15492 (by omega) ⟨(yd15515), (yd15516), (yd15517), (yd15518), (yd15519), (yd15520), (yd15521)⟩ (by decide)) cb_X10_wrong ml_X10_150 im_X10_wrong se_X10_wrong h15491 rfl rfl (rest := []) rfl (Nat.le_of_ble_eq_true rfl) ⟨Nat.le_of_ble_eq_true rfl, Nat.le_of_ble_eq_true rfl⟩ ⟨Nat.le_of_ble_eq_true rfl, Nat.le_of_ble_eq_true rfl⟩ (fun r σ15718 hp => ?_)
          obtain ⟨h15719, hp⟩ := hp
          have h15720 := HS.trans h15491 h15719 (by decide)
          have ga15721 := ga15494.of (h15719.2 (c + 1) (by rw [kC_at (k := 1) (by decide)]; decide))
          have ga15722 := hN3.of (h15719.2 (c + 2) (by rw [kC_at (k := 2) (by decide)]; decide))
          have ga15723 := hM3.of (h15719.2 (c + 3) (by rw [kC_at (k := 3) (by decide)]; decide))
          have ga15724 := hK3.of (h15719.2 (c + 7) (by rw [kC_at (k := 7) (by decide)]; decide))
          have ga15725 := hF3.of (h15719.2 (c + 8) (by rw [kC_at (k := 8) (by decide)]; decide))
          have ga15726 := hG3.of (h15719.2 (c + 9) (by rw [kC_at (k := 9) (by decide)]; decide))
          have ga15727 := hQ3.of (h15719.2 (c + 11) (by rw [kC_at (k := 11) (by decide)]; decide))
          obtain ⟨hp, rfl⟩ := hp
          have hyd15728 := hp
          obtain ⟨yd15728, yd15729, yd15730, yd15731, yd15732, yd15733, yd15734⟩ := hyd15728
          refine m_aload_n F rfl e_X10_readLine_166 ?_
          refine r_callV F e_X10_readLine_167 (q_X10_goOnG (x_l X) V c T 0 u h P15492 L _ _  1 h15720.1 (hob) oP15492  (yd15733) (by decide)) cb_X10_goOn ml_X10_154 im_X10_goOn se_X10_goOn h15720 rfl rfl (rest := []) rfl (Nat.le_of_ble_eq_true rfl) ⟨Nat.le_of_ble_eq_true rfl, Nat.le_of_ble_eq_true rfl⟩ ⟨Nat.le_of_ble_eq_true rfl, Nat.le_of_ble_eq_true rfl⟩ (fun r σ15735 hp => ?_)
          obtain ⟨h15736, hp⟩ := hp
          have h15737 := HS.trans h15720 h15736 (by decide)
          have ga15738 := ga15721.of (h15736.2 (c + 1) (by rw [kC_at (k := 1) (by decide)]; decide))
          have ga15739 := ga15722.of (h15736.2 (c + 2) (by rw [kC_at (k := 2) (by decide)]; decide))
          have ga15740 := ga15723.of (h15736.2 (c + 3) (by rw [kC_at (k := 3) (by decide)]; decide))
          have ga15741 := ga15724.of (h15736.2 (c + 7) (by rw [kC_at (k := 7) (by decide)]; decide))
          have ga15742 := ga15725.of (h15736.2 (c + 8) (by rw [kC_at (k := 8) (by decide)]; decide))
          have ga15743 := ga15726.of (h15736.2 (c + 9) (by rw [kC_at (k := 9) (by decide)]; decide))
          have ga15744 := ga15727.of (h15736.2 (c + 11) (by rw [kC_at (k := 11) (by decide)]; decide))
          obtain ⟨rfl, rfl⟩ := hp
          refine m_aload_n F rfl e_X10_readLine_170 ?_
          refine m_dup F rfl e_X10_readLine_171 ?_
          refine r_getC F e_X10_readLine_172 fl_X10_202 h15737 (yd15728) ?_
          refine m_iconst F (v := 1) (by decide) e_X10_readLine_175 ?_
          refine m_iadd F e_X10_readLine_176 ?_
          refine Wm.topE (w := nI (ln3 + 1)) (nI_add ln3 1) ?_
          refine r_put F (g' := (⟨T, 0, u, h, P15492, L⟩ : RG)) e_X10_readLine_177 fp_X10_202 h15737 (by decide) ⟨_, rfl⟩ (fun _ _ _ _ q => q) (fun _ _ _ q => q) rfl rfl (by decide) (fun σ15745 h15746 g15747 g15748 f15749 => ?_)
          have ga15750 := ga15721.of (g15747 _ (by omega))
          have ga15751 := ga15722.of (g15747 _ (by omega))
          have ga15752 := ga15723.of (g15747 _ (by omega))
          have ga15753 := ga15724.of (g15747 _ (by omega))
          have ga15754 := ga15725.of (g15747 _ (by omega))
          have ga15755 := ga15726.of (g15747 _ (by omega))
          have ga15756 := ga15727.of (g15747 _ (by omega))
          have h15757 : HS V c _ [0, 2, 17, 18, 19, 20, 21, 22, 23] _ _ := ⟨HR.mono (Z' := Z) (by intro e; first | rfl | assumption | omega) h15746.1, h15746.2⟩
          exact m_vret F hQ e_X10_readLine_180 (⟨P15492, oP15492, (by unfold RP; omega), (by rw [eo15501]; show RM _ c n _ (stopS (tok t n) (j1, 5, j3, j4) nl3 nm3 np3 nc3 lc3 no3 sd3 md3 ln3); rw [stopS_1 (by decide)]; exact RM.l ((g15748 23 (by decide)).trans yd15733) ((g15748 24 (by decide)).trans yd15734) (by omega) (by omega) (by omega)), (fun S2 hS _ => by rw [eo15501] at hS; replace hS : stopS (tok t n) (j1, 5, j3, j4) nl3 nm3 np3 nc3 lc3 no3 sd3 md3 ln3 = .inr S2 := hS; rw [stopS_1 (by decide)] at hS; cases hS), h15757, rfl⟩)
    · refine r_getC F e_X10_readLine_1 fl_X10_110 h1 (yd14104) ?_
      refine m_if_eq F e_X10_readLine_4 (fun _ => ?_) (fun q => absurd (by decide) q)
      refine m_aload_n F rfl e_X10_readLine_15 ?_
      refine r_getC F e_X10_readLine_16 fl_X10_120 h1 (yd14105) ?_
      refine m_if_ne F e_X10_readLine_19 (fun _ => ?_) (fun q => absurd q (by decide))
      refine m_aload_n F rfl e_X10_readLine_29 ?_
      refine r_getC F e_X10_readLine_30 fl_X10_120 h1 (yd14105) ?_
      refine m_iconst F (v := 1) (by decide) e_X10_readLine_33 ?_
      refine m_icmp_ne F e_X10_readLine_34 (fun _ => ?_) (fun q => absurd q (by decide))
      refine m_aload_n F rfl e_X10_readLine_44 ?_
      refine r_getC F e_X10_readLine_45 fl_X10_120 h1 (yd14105) ?_
      refine m_iconst F (v := 2) (by decide) e_X10_readLine_48 ?_
      refine m_icmp_eq F e_X10_readLine_49 (fun q => absurd q (by decide)) (fun _ => ?_)
      refine m_aload_n F rfl e_X10_readLine_52 ?_
      refine r_getC F e_X10_readLine_53 fl_X10_120 h1 (yd14105) ?_
      refine m_iconst F (v := 5) (by decide) e_X10_readLine_56 ?_
      refine m_icmp_ne F e_X10_readLine_57 (fun _ => ?_) (fun q => absurd q (by decide))
      refine m_aload_n F rfl e_X10_readLine_80 ?_
      refine r_getC F e_X10_readLine_81 fl_X10_120 h1 (yd14105) ?_
      refine m_iconst F (v := 3) (by decide) e_X10_readLine_84 ?_
      refine m_icmp_ne F e_X10_readLine_85 (fun _ => ?_) (fun q => absurd q (by decide))
      refine m_aload_n F rfl e_X10_readLine_95 ?_
      refine r_getC F e_X10_readLine_96 fl_X10_120 h1 (yd14105) ?_
      refine m_iconst F (v := 4) (by decide) e_X10_readLine_99 ?_
      refine m_icmp_ne F e_X10_readLine_100 (fun _ => ?_) (fun q => absurd q (by decide))
      refine m_aload_n F rfl e_X10_readLine_110 ?_
      refine r_getC F e_X10_readLine_111 fl_X10_120 h1 (yd14105) ?_
      refine m_bipush F (v := 6) (by decide) e_X10_readLine_114 ?_
      refine m_icmp_ne F e_X10_readLine_116 (fun q => absurd (by decide) q) (fun _ => ?_)
      refine m_aload_n F rfl e_X10_readLine_119 ?_
      refine r_callV F e_X10_readLine_120 (q_X10_readChangeE (x_l X) V c T Z u h P L _ _  n st 0 6 ln fp t 1 6 nm np lc no sd md h1.1 (hob) hP  ⟨(yd14101), (yd14102), (yd14103), (yd14104), (yd14105), (yd14106), (yd14107)⟩ hp1 hn7 (by omega) hp4 hp5 hp6 hp7 hp8 hp9 hp10 hp11 hp12 hp13 hp14) cb_X10_readChange ml_X10_193 im_X10_readChange se_X10_readChange h1 rfl rfl (rest := []) rfl (Nat.le_of_ble_eq_true rfl) ⟨Nat.le_of_ble_eq_true rfl, Nat.le_of_ble_eq_true rfl⟩ ⟨Nat.le_of_ble_eq_true rfl, Nat.le_of_ble_eq_true rfl⟩ (fun r σ15758 hp => ?_)
      obtain ⟨P15761, oP15761, rP15761, pr15762, h15759, hp⟩ := hp
      have h15760 := HS.trans h1 h15759 (by decide)
      have xP15761 := oP15761
      unfold OKP at xP15761
      unfold RP at rP15761
      have ga15763 := hp1.of (h15759.2 (c + 1) (by rw [kC_at (k := 1) (by decide)]; decide))
      have ga15764 := hp7.of (h15759.2 (c + 3) (by rw [kC_at (k := 3) (by decide)]; decide))
      have ga15765 := hp8.of (h15759.2 (c + 7) (by rw [kC_at (k := 7) (by decide)]; decide))
      have ga15766 := hp9.of (h15759.2 (c + 8) (by rw [kC_at (k := 8) (by decide)]; decide))
      have ga15767 := hp10.of (h15759.2 (c + 9) (by rw [kC_at (k := 9) (by decide)]; decide))
      obtain rfl := hp
      have rm15768 : RM σ15758 c n P15761 (lineS (tok t n) (st, 1, 6, P.a) P.n5 nm np P.n7 lc no sd md ln) := by rw [lineS_6]; exact pr15762
      cases eo15769 : lineS (tok t n) (st, 1, 6, P.a) P.n5 nm np P.n7 lc no sd md ln with
      | inl e8 =>
        rw [eo15769] at rm15768
        obtain ⟨⟨fa15770, fb15771⟩, c1, c2, c3⟩ := rm15768
        have nz8 : nI e8.1 ≠ 0 := fun e => absurd (nI_inj9 (b := 0) (by omega) (by omega) e) (by omega)
        refine m_goto F e_X10_readLine_123 ?_
        refine m_aload_n F rfl e_X10_readLine_146 ?_
        refine r_getC F e_X10_readLine_147 fl_X10_141 h15760 (fa15770) ?_
        refine m_if_ne F e_X10_readLine_150 (fun q150 => ?_) (fun q150 => ?_)
        · have c150 : e8.1 ≠ 0 := by have hh := mt (nI_eq (a := e8.1) (b := 0) (by omega) (by omega)).mpr q150; omega
          refine m_aload_n F rfl e_X10_readLine_166 ?_
          refine r_callV F e_X10_readLine_167 (q_X10_goOnG (x_l X) V c T Z u h P15761 L _ _  (nI e8.1) h15760.1 (hob) oP15761  (fa15770) (by assumption)) cb_X10_goOn ml_X10_154 im_X10_goOn se_X10_goOn h15760 rfl rfl (rest := []) rfl (Nat.le_of_ble_eq_true rfl) ⟨Nat.le_of_ble_eq_true rfl, Nat.le_of_ble_eq_true rfl⟩ ⟨Nat.le_of_ble_eq_true rfl, Nat.le_of_ble_eq_true rfl⟩ (fun r σ15772 hp => ?_)
          obtain ⟨h15773, hp⟩ := hp
          have h15774 := HS.trans h15760 h15773 (by decide)
          obtain ⟨rfl, rfl⟩ := hp
          refine m_aload_n F rfl e_X10_readLine_170 ?_
          refine m_dup F rfl e_X10_readLine_171 ?_
          refine r_get F e_X10_readLine_172 fl_X10_202 h15774 rfl (fun v hv f15775 => ?_)
          obtain ⟨x15776, rfl⟩ := hv
          refine m_iconst F (v := 1) (by decide) e_X10_readLine_175 ?_
          refine m_iadd F e_X10_readLine_176 ?_
          refine Wm.top (fun x15777 _ => ?_)
          refine r_put F (g' := (⟨T, Z, u, h, P15761, L⟩ : RG)) e_X10_readLine_177 fp_X10_202 h15774 (by decide) ⟨_, rfl⟩ (fun _ _ _ _ q => q) (fun _ _ _ q => q) rfl rfl (by decide) (fun σ15778 h15779 g15780 g15781 f15782 => ?_)
          exact m_vret F hQ e_X10_readLine_180 (⟨P15761, oP15761, (by unfold RP; omega), (by rw [eo15769]; show RM _ c n _ (.inl e8); exact RM.l ((g15781 23 (by decide)).trans fa15770) ((g15781 24 (by decide)).trans fb15771) (by omega) (by omega) (by omega)), (fun S2 hS _ => by rw [eo15769] at hS; cases hS), h15779, rfl⟩)
        · have c150 : e8.1 = 0 := (nI_eq (a := e8.1) (b := 0) (by omega) (by omega)).mp q150
          exact absurd q150 nz8
      | inr S1 =>
        rw [eo15769] at rm15768
        obtain ⟨⟨j1, j2, j3, j4⟩, nl3, nm3, np3, nc3, lc3, no3, sd3, md3, ln3⟩ := S1
        obtain ⟨so3, va3, fp3, mt3, yd3, ⟨pa3, p53, p73⟩, hN3, hM3, hK3, hF3, hG3, hQ3, c1, c2, c3, c4, c5⟩ := rm15768
        replace pa3 : _ = j4 := pa3
        replace c1 : j4 ≤ n := c1
        replace c2 : j1 ≤ n := c2
        have hyd15783 := yd3
        obtain ⟨yd15783, yd15784, yd15785, yd15786, yd15787, yd15788, yd15789⟩ := hyd15783
        refine m_goto F e_X10_readLine_123 ?_
        refine m_aload_n F rfl e_X10_readLine_146 ?_
        refine r_getC F e_X10_readLine_147 fl_X10_141 h15760 (yd15788) ?_
        refine m_if_ne F e_X10_readLine_150 (fun q => absurd (by decide) q) (fun _ => ?_)
        refine m_aload_n F rfl e_X10_readLine_153 ?_
        have hmt := mt3
        rcases hmt with ⟨rfl, rfl⟩ | ⟨rfl, rfl, rfl, hv3⟩ | ⟨rfl, rfl, rfl, hv3⟩ | ⟨rfl, rfl, w3, hw3, rfl, hm3⟩ | ⟨rfl, rfl⟩ | ⟨rfl, rfl⟩
        · refine r_getC F e_X10_readLine_154 fl_X10_110 h15760 (yd15786) ?_
          refine m_iconst F (v := 3) (by decide) e_X10_readLine_157 ?_
          refine m_icmp_eq F e_X10_readLine_158 (fun q => absurd q (by decide)) (fun _ => ?_)
          refine m_aload_n F rfl e_X10_readLine_161 ?_
          refine m_iconst F (v := 1) (by decide) e_X10_readLine_162 ?_
          refine r_callV F e_X10_readLine_163 (q_X10_wrongE (x_l X) V c T Z u h P15761 L _ _ 1 n j1 4 va3 ln3 fp3 h15760.1 (hob) oP15761 (by omega) ⟨(yd15783), (yd15784), (yd15785), (yd15786), (yd15787), (yd15788), (yd15789)⟩ (by decide)) cb_X10_wrong ml_X10_150 im_X10_wrong se_X10_wrong h15760 rfl rfl (rest := []) rfl (Nat.le_of_ble_eq_true rfl) ⟨Nat.le_of_ble_eq_true rfl, Nat.le_of_ble_eq_true rfl⟩ ⟨Nat.le_of_ble_eq_true rfl, Nat.le_of_ble_eq_true rfl⟩ (fun r σ15790 hp => ?_)
          obtain ⟨h15791, hp⟩ := hp
          have h15792 := HS.trans h15760 h15791 (by decide)
          have ga15793 := ga15763.of (h15791.2 (c + 1) (by rw [kC_at (k := 1) (by decide)]; decide))
          have ga15794 := hN3.of (h15791.2 (c + 2) (by rw [kC_at (k := 2) (by decide)]; decide))
          have ga15795 := hM3.of (h15791.2 (c + 3) (by rw [kC_at (k := 3) (by decide)]; decide))
          have ga15796 := hK3.of (h15791.2 (c + 7) (by rw [kC_at (k := 7) (by decide)]; decide))
          have ga15797 := hF3.of (h15791.2 (c + 8) (by rw [kC_at (k := 8) (by decide)]; decide))
          have ga15798 := hG3.of (h15791.2 (c + 9) (by rw [kC_at (k := 9) (by decide)]; decide))
          have ga15799 := hQ3.of (h15791.2 (c + 11) (by rw [kC_at (k := 11) (by decide)]; decide))
          obtain ⟨hp, rfl⟩ := hp
          have hyd15800 := hp
          obtain ⟨yd15800, yd15801, yd15802, yd15803, yd15804, yd15805, yd15806⟩ := hyd15800
          refine m_aload_n F rfl e_X10_readLine_166 ?_
          refine r_callV F e_X10_readLine_167 (q_X10_goOnG (x_l X) V c T 0 u h P15761 L _ _  1 h15792.1 (hob) oP15761  (yd15805) (by decide)) cb_X10_goOn ml_X10_154 im_X10_goOn se_X10_goOn h15792 rfl rfl (rest := []) rfl (Nat.le_of_ble_eq_true rfl) ⟨Nat.le_of_ble_eq_true rfl, Nat.le_of_ble_eq_true rfl⟩ ⟨Nat.le_of_ble_eq_true rfl, Nat.le_of_ble_eq_true rfl⟩ (fun r σ15807 hp => ?_)
          obtain ⟨h15808, hp⟩ := hp
          have h15809 := HS.trans h15792 h15808 (by decide)
          have ga15810 := ga15793.of (h15808.2 (c + 1) (by rw [kC_at (k := 1) (by decide)]; decide))
          have ga15811 := ga15794.of (h15808.2 (c + 2) (by rw [kC_at (k := 2) (by decide)]; decide))
          have ga15812 := ga15795.of (h15808.2 (c + 3) (by rw [kC_at (k := 3) (by decide)]; decide))
          have ga15813 := ga15796.of (h15808.2 (c + 7) (by rw [kC_at (k := 7) (by decide)]; decide))
          have ga15814 := ga15797.of (h15808.2 (c + 8) (by rw [kC_at (k := 8) (by decide)]; decide))
          have ga15815 := ga15798.of (h15808.2 (c + 9) (by rw [kC_at (k := 9) (by decide)]; decide))
          have ga15816 := ga15799.of (h15808.2 (c + 11) (by rw [kC_at (k := 11) (by decide)]; decide))
          obtain ⟨rfl, rfl⟩ := hp
          refine m_aload_n F rfl e_X10_readLine_170 ?_
          refine m_dup F rfl e_X10_readLine_171 ?_
          refine r_getC F e_X10_readLine_172 fl_X10_202 h15809 (yd15800) ?_
          refine m_iconst F (v := 1) (by decide) e_X10_readLine_175 ?_
          refine m_iadd F e_X10_readLine_176 ?_
          refine Wm.topE (w := nI (ln3 + 1)) (nI_add ln3 1) ?_
          refine r_put F (g' := (⟨T, 0, u, h, P15761, L⟩ : RG)) e_X10_readLine_177 fp_X10_202 h15809 (by decide) ⟨_, rfl⟩ (fun _ _ _ _ q => q) (fun _ _ _ q => q) rfl rfl (by decide) (fun σ15817 h15818 g15819 g15820 f15821 => ?_)
          have ga15822 := ga15793.of (g15819 _ (by omega))
          have ga15823 := ga15794.of (g15819 _ (by omega))
          have ga15824 := ga15795.of (g15819 _ (by omega))
          have ga15825 := ga15796.of (g15819 _ (by omega))
          have ga15826 := ga15797.of (g15819 _ (by omega))
          have ga15827 := ga15798.of (g15819 _ (by omega))
          have ga15828 := ga15799.of (g15819 _ (by omega))
          have h15829 : HS V c _ [0, 2, 17, 18, 19, 20, 21, 22, 23] _ _ := ⟨HR.mono (Z' := Z) (by intro e; first | rfl | assumption | omega) h15818.1, h15818.2⟩
          exact m_vret F hQ e_X10_readLine_180 (⟨P15761, oP15761, (by unfold RP; omega), (by rw [eo15769]; show RM _ c n _ (stopS (tok t n) (j1, 0, j3, j4) nl3 nm3 np3 nc3 lc3 no3 sd3 md3 ln3); rw [stopS_1 (by decide)]; exact RM.l ((g15820 23 (by decide)).trans yd15805) ((g15820 24 (by decide)).trans yd15806) (by omega) (by omega) (by omega)), (fun S2 hS _ => by rw [eo15769] at hS; replace hS : stopS (tok t n) (j1, 0, j3, j4) nl3 nm3 np3 nc3 lc3 no3 sd3 md3 ln3 = .inr S2 := hS; rw [stopS_1 (by decide)] at hS; cases hS), h15829, rfl⟩)
        · refine r_getC F e_X10_readLine_154 fl_X10_110 h15760 (yd15786) ?_
          refine m_iconst F (v := 3) (by decide) e_X10_readLine_157 ?_
          refine m_icmp_eq F e_X10_readLine_158 (fun q => absurd q (by decide)) (fun _ => ?_)
          refine m_aload_n F rfl e_X10_readLine_161 ?_
          refine m_iconst F (v := 1) (by decide) e_X10_readLine_162 ?_
          refine r_callV F e_X10_readLine_163 (q_X10_wrongE (x_l X) V c T Z u h P15761 L _ _ 1 n j1 0 (nI j3) ln3 fp3 h15760.1 (hob) oP15761 (by omega) ⟨(yd15783), (yd15784), (yd15785), (yd15786), (yd15787), (yd15788), (yd15789)⟩ (by decide)) cb_X10_wrong ml_X10_150 im_X10_wrong se_X10_wrong h15760 rfl rfl (rest := []) rfl (Nat.le_of_ble_eq_true rfl) ⟨Nat.le_of_ble_eq_true rfl, Nat.le_of_ble_eq_true rfl⟩ ⟨Nat.le_of_ble_eq_true rfl, Nat.le_of_ble_eq_true rfl⟩ (fun r σ15830 hp => ?_)
          obtain ⟨h15831, hp⟩ := hp
          have h15832 := HS.trans h15760 h15831 (by decide)
          have ga15833 := ga15763.of (h15831.2 (c + 1) (by rw [kC_at (k := 1) (by decide)]; decide))
          have ga15834 := hN3.of (h15831.2 (c + 2) (by rw [kC_at (k := 2) (by decide)]; decide))
          have ga15835 := hM3.of (h15831.2 (c + 3) (by rw [kC_at (k := 3) (by decide)]; decide))
          have ga15836 := hK3.of (h15831.2 (c + 7) (by rw [kC_at (k := 7) (by decide)]; decide))
          have ga15837 := hF3.of (h15831.2 (c + 8) (by rw [kC_at (k := 8) (by decide)]; decide))
          have ga15838 := hG3.of (h15831.2 (c + 9) (by rw [kC_at (k := 9) (by decide)]; decide))
          have ga15839 := hQ3.of (h15831.2 (c + 11) (by rw [kC_at (k := 11) (by decide)]; decide))
          obtain ⟨hp, rfl⟩ := hp
          have hyd15840 := hp
          obtain ⟨yd15840, yd15841, yd15842, yd15843, yd15844, yd15845, yd15846⟩ := hyd15840
          refine m_aload_n F rfl e_X10_readLine_166 ?_
          refine r_callV F e_X10_readLine_167 (q_X10_goOnG (x_l X) V c T 0 u h P15761 L _ _  1 h15832.1 (hob) oP15761  (yd15845) (by decide)) cb_X10_goOn ml_X10_154 im_X10_goOn se_X10_goOn h15832 rfl rfl (rest := []) rfl (Nat.le_of_ble_eq_true rfl) ⟨Nat.le_of_ble_eq_true rfl, Nat.le_of_ble_eq_true rfl⟩ ⟨Nat.le_of_ble_eq_true rfl, Nat.le_of_ble_eq_true rfl⟩ (fun r σ15847 hp => ?_)
          obtain ⟨h15848, hp⟩ := hp
          have h15849 := HS.trans h15832 h15848 (by decide)
          have ga15850 := ga15833.of (h15848.2 (c + 1) (by rw [kC_at (k := 1) (by decide)]; decide))
          have ga15851 := ga15834.of (h15848.2 (c + 2) (by rw [kC_at (k := 2) (by decide)]; decide))
          have ga15852 := ga15835.of (h15848.2 (c + 3) (by rw [kC_at (k := 3) (by decide)]; decide))
          have ga15853 := ga15836.of (h15848.2 (c + 7) (by rw [kC_at (k := 7) (by decide)]; decide))
          have ga15854 := ga15837.of (h15848.2 (c + 8) (by rw [kC_at (k := 8) (by decide)]; decide))
          have ga15855 := ga15838.of (h15848.2 (c + 9) (by rw [kC_at (k := 9) (by decide)]; decide))
          have ga15856 := ga15839.of (h15848.2 (c + 11) (by rw [kC_at (k := 11) (by decide)]; decide))
          obtain ⟨rfl, rfl⟩ := hp
          refine m_aload_n F rfl e_X10_readLine_170 ?_
          refine m_dup F rfl e_X10_readLine_171 ?_
          refine r_getC F e_X10_readLine_172 fl_X10_202 h15849 (yd15840) ?_
          refine m_iconst F (v := 1) (by decide) e_X10_readLine_175 ?_
          refine m_iadd F e_X10_readLine_176 ?_
          refine Wm.topE (w := nI (ln3 + 1)) (nI_add ln3 1) ?_
          refine r_put F (g' := (⟨T, 0, u, h, P15761, L⟩ : RG)) e_X10_readLine_177 fp_X10_202 h15849 (by decide) ⟨_, rfl⟩ (fun _ _ _ _ q => q) (fun _ _ _ q => q) rfl rfl (by decide) (fun σ15857 h15858 g15859 g15860 f15861 => ?_)
          have ga15862 := ga15833.of (g15859 _ (by omega))
          have ga15863 := ga15834.of (g15859 _ (by omega))
          have ga15864 := ga15835.of (g15859 _ (by omega))
          have ga15865 := ga15836.of (g15859 _ (by omega))
          have ga15866 := ga15837.of (g15859 _ (by omega))
          have ga15867 := ga15838.of (g15859 _ (by omega))
          have ga15868 := ga15839.of (g15859 _ (by omega))
          have h15869 : HS V c _ [0, 2, 17, 18, 19, 20, 21, 22, 23] _ _ := ⟨HR.mono (Z' := Z) (by intro e; first | rfl | assumption | omega) h15858.1, h15858.2⟩
          exact m_vret F hQ e_X10_readLine_180 (⟨P15761, oP15761, (by unfold RP; omega), (by rw [eo15769]; show RM _ c n _ (stopS (tok t n) (j1, 1, j3, j4) nl3 nm3 np3 nc3 lc3 no3 sd3 md3 ln3); rw [stopS_1 (by decide)]; exact RM.l ((g15860 23 (by decide)).trans yd15845) ((g15860 24 (by decide)).trans yd15846) (by omega) (by omega) (by omega)), (fun S2 hS _ => by rw [eo15769] at hS; replace hS : stopS (tok t n) (j1, 1, j3, j4) nl3 nm3 np3 nc3 lc3 no3 sd3 md3 ln3 = .inr S2 := hS; rw [stopS_1 (by decide)] at hS; cases hS), h15869, rfl⟩)
        · refine r_getC F e_X10_readLine_154 fl_X10_110 h15760 (yd15786) ?_
          refine m_iconst F (v := 3) (by decide) e_X10_readLine_157 ?_
          refine m_icmp_eq F e_X10_readLine_158 (fun q => absurd q (by decide)) (fun _ => ?_)
          refine m_aload_n F rfl e_X10_readLine_161 ?_
          refine m_iconst F (v := 1) (by decide) e_X10_readLine_162 ?_
          refine r_callV F e_X10_readLine_163 (q_X10_wrongE (x_l X) V c T Z u h P15761 L _ _ 1 n j1 1 (nI j3) ln3 fp3 h15760.1 (hob) oP15761 (by omega) ⟨(yd15783), (yd15784), (yd15785), (yd15786), (yd15787), (yd15788), (yd15789)⟩ (by decide)) cb_X10_wrong ml_X10_150 im_X10_wrong se_X10_wrong h15760 rfl rfl (rest := []) rfl (Nat.le_of_ble_eq_true rfl) ⟨Nat.le_of_ble_eq_true rfl, Nat.le_of_ble_eq_true rfl⟩ ⟨Nat.le_of_ble_eq_true rfl, Nat.le_of_ble_eq_true rfl⟩ (fun r σ15870 hp => ?_)
          obtain ⟨h15871, hp⟩ := hp
          have h15872 := HS.trans h15760 h15871 (by decide)
          have ga15873 := ga15763.of (h15871.2 (c + 1) (by rw [kC_at (k := 1) (by decide)]; decide))
          have ga15874 := hN3.of (h15871.2 (c + 2) (by rw [kC_at (k := 2) (by decide)]; decide))
          have ga15875 := hM3.of (h15871.2 (c + 3) (by rw [kC_at (k := 3) (by decide)]; decide))
          have ga15876 := hK3.of (h15871.2 (c + 7) (by rw [kC_at (k := 7) (by decide)]; decide))
          have ga15877 := hF3.of (h15871.2 (c + 8) (by rw [kC_at (k := 8) (by decide)]; decide))
          have ga15878 := hG3.of (h15871.2 (c + 9) (by rw [kC_at (k := 9) (by decide)]; decide))
          have ga15879 := hQ3.of (h15871.2 (c + 11) (by rw [kC_at (k := 11) (by decide)]; decide))
          obtain ⟨hp, rfl⟩ := hp
          have hyd15880 := hp
          obtain ⟨yd15880, yd15881, yd15882, yd15883, yd15884, yd15885, yd15886⟩ := hyd15880
          refine m_aload_n F rfl e_X10_readLine_166 ?_
          refine r_callV F e_X10_readLine_167 (q_X10_goOnG (x_l X) V c T 0 u h P15761 L _ _  1 h15872.1 (hob) oP15761  (yd15885) (by decide)) cb_X10_goOn ml_X10_154 im_X10_goOn se_X10_goOn h15872 rfl rfl (rest := []) rfl (Nat.le_of_ble_eq_true rfl) ⟨Nat.le_of_ble_eq_true rfl, Nat.le_of_ble_eq_true rfl⟩ ⟨Nat.le_of_ble_eq_true rfl, Nat.le_of_ble_eq_true rfl⟩ (fun r σ15887 hp => ?_)
          obtain ⟨h15888, hp⟩ := hp
          have h15889 := HS.trans h15872 h15888 (by decide)
          have ga15890 := ga15873.of (h15888.2 (c + 1) (by rw [kC_at (k := 1) (by decide)]; decide))
          have ga15891 := ga15874.of (h15888.2 (c + 2) (by rw [kC_at (k := 2) (by decide)]; decide))
          have ga15892 := ga15875.of (h15888.2 (c + 3) (by rw [kC_at (k := 3) (by decide)]; decide))
          have ga15893 := ga15876.of (h15888.2 (c + 7) (by rw [kC_at (k := 7) (by decide)]; decide))
          have ga15894 := ga15877.of (h15888.2 (c + 8) (by rw [kC_at (k := 8) (by decide)]; decide))
          have ga15895 := ga15878.of (h15888.2 (c + 9) (by rw [kC_at (k := 9) (by decide)]; decide))
          have ga15896 := ga15879.of (h15888.2 (c + 11) (by rw [kC_at (k := 11) (by decide)]; decide))
          obtain ⟨rfl, rfl⟩ := hp
          refine m_aload_n F rfl e_X10_readLine_170 ?_
          refine m_dup F rfl e_X10_readLine_171 ?_
          refine r_getC F e_X10_readLine_172 fl_X10_202 h15889 (yd15880) ?_
          refine m_iconst F (v := 1) (by decide) e_X10_readLine_175 ?_
          refine m_iadd F e_X10_readLine_176 ?_
          refine Wm.topE (w := nI (ln3 + 1)) (nI_add ln3 1) ?_
          refine r_put F (g' := (⟨T, 0, u, h, P15761, L⟩ : RG)) e_X10_readLine_177 fp_X10_202 h15889 (by decide) ⟨_, rfl⟩ (fun _ _ _ _ q => q) (fun _ _ _ q => q) rfl rfl (by decide) (fun σ15897 h15898 g15899 g15900 f15901 => ?_)
          have ga15902 := ga15873.of (g15899 _ (by omega))
          have ga15903 := ga15874.of (g15899 _ (by omega))
          have ga15904 := ga15875.of (g15899 _ (by omega))
          have ga15905 := ga15876.of (g15899 _ (by omega))
          have ga15906 := ga15877.of (g15899 _ (by omega))
          have ga15907 := ga15878.of (g15899 _ (by omega))
          have ga15908 := ga15879.of (g15899 _ (by omega))
          have h15909 : HS V c _ [0, 2, 17, 18, 19, 20, 21, 22, 23] _ _ := ⟨HR.mono (Z' := Z) (by intro e; first | rfl | assumption | omega) h15898.1, h15898.2⟩
          exact m_vret F hQ e_X10_readLine_180 (⟨P15761, oP15761, (by unfold RP; omega), (by rw [eo15769]; show RM _ c n _ (stopS (tok t n) (j1, 2, j3, j4) nl3 nm3 np3 nc3 lc3 no3 sd3 md3 ln3); rw [stopS_1 (by decide)]; exact RM.l ((g15900 23 (by decide)).trans yd15885) ((g15900 24 (by decide)).trans yd15886) (by omega) (by omega) (by omega)), (fun S2 hS _ => by rw [eo15769] at hS; replace hS : stopS (tok t n) (j1, 2, j3, j4) nl3 nm3 np3 nc3 lc3 no3 sd3 md3 ln3 = .inr S2 := hS; rw [stopS_1 (by decide)] at hS; cases hS), h15909, rfl⟩)
        · refine r_getC F e_X10_readLine_154 fl_X10_110 h15760 (yd15786) ?_
          refine m_iconst F (v := 3) (by decide) e_X10_readLine_157 ?_
          refine m_icmp_eq F e_X10_readLine_158 (fun q => absurd q (by decide)) (fun _ => ?_)
          refine m_aload_n F rfl e_X10_readLine_161 ?_
          refine m_iconst F (v := 1) (by decide) e_X10_readLine_162 ?_
          refine r_callV F e_X10_readLine_163 (q_X10_wrongE (x_l X) V c T Z u h P15761 L _ _ 1 n j1 2 (nI w3) ln3 fp3 h15760.1 (hob) oP15761 (by omega) ⟨(yd15783), (yd15784), (yd15785), (yd15786), (yd15787), (yd15788), (yd15789)⟩ (by decide)) cb_X10_wrong ml_X10_150 im_X10_wrong se_X10_wrong h15760 rfl rfl (rest := []) rfl (Nat.le_of_ble_eq_true rfl) ⟨Nat.le_of_ble_eq_true rfl, Nat.le_of_ble_eq_true rfl⟩ ⟨Nat.le_of_ble_eq_true rfl, Nat.le_of_ble_eq_true rfl⟩ (fun r σ15910 hp => ?_)
          obtain ⟨h15911, hp⟩ := hp
          have h15912 := HS.trans h15760 h15911 (by decide)
          have ga15913 := ga15763.of (h15911.2 (c + 1) (by rw [kC_at (k := 1) (by decide)]; decide))
          have ga15914 := hN3.of (h15911.2 (c + 2) (by rw [kC_at (k := 2) (by decide)]; decide))
          have ga15915 := hM3.of (h15911.2 (c + 3) (by rw [kC_at (k := 3) (by decide)]; decide))
          have ga15916 := hK3.of (h15911.2 (c + 7) (by rw [kC_at (k := 7) (by decide)]; decide))
          have ga15917 := hF3.of (h15911.2 (c + 8) (by rw [kC_at (k := 8) (by decide)]; decide))
          have ga15918 := hG3.of (h15911.2 (c + 9) (by rw [kC_at (k := 9) (by decide)]; decide))
          have ga15919 := hQ3.of (h15911.2 (c + 11) (by rw [kC_at (k := 11) (by decide)]; decide))
          obtain ⟨hp, rfl⟩ := hp
          have hyd15920 := hp
          obtain ⟨yd15920, yd15921, yd15922, yd15923, yd15924, yd15925, yd15926⟩ := hyd15920
          refine m_aload_n F rfl e_X10_readLine_166 ?_
          refine r_callV F e_X10_readLine_167 (q_X10_goOnG (x_l X) V c T 0 u h P15761 L _ _  1 h15912.1 (hob) oP15761  (yd15925) (by decide)) cb_X10_goOn ml_X10_154 im_X10_goOn se_X10_goOn h15912 rfl rfl (rest := []) rfl (Nat.le_of_ble_eq_true rfl) ⟨Nat.le_of_ble_eq_true rfl, Nat.le_of_ble_eq_true rfl⟩ ⟨Nat.le_of_ble_eq_true rfl, Nat.le_of_ble_eq_true rfl⟩ (fun r σ15927 hp => ?_)
          obtain ⟨h15928, hp⟩ := hp
          have h15929 := HS.trans h15912 h15928 (by decide)
          have ga15930 := ga15913.of (h15928.2 (c + 1) (by rw [kC_at (k := 1) (by decide)]; decide))
          have ga15931 := ga15914.of (h15928.2 (c + 2) (by rw [kC_at (k := 2) (by decide)]; decide))
          have ga15932 := ga15915.of (h15928.2 (c + 3) (by rw [kC_at (k := 3) (by decide)]; decide))
          have ga15933 := ga15916.of (h15928.2 (c + 7) (by rw [kC_at (k := 7) (by decide)]; decide))
          have ga15934 := ga15917.of (h15928.2 (c + 8) (by rw [kC_at (k := 8) (by decide)]; decide))
          have ga15935 := ga15918.of (h15928.2 (c + 9) (by rw [kC_at (k := 9) (by decide)]; decide))
          have ga15936 := ga15919.of (h15928.2 (c + 11) (by rw [kC_at (k := 11) (by decide)]; decide))
          obtain ⟨rfl, rfl⟩ := hp
          refine m_aload_n F rfl e_X10_readLine_170 ?_
          refine m_dup F rfl e_X10_readLine_171 ?_
          refine r_getC F e_X10_readLine_172 fl_X10_202 h15929 (yd15920) ?_
          refine m_iconst F (v := 1) (by decide) e_X10_readLine_175 ?_
          refine m_iadd F e_X10_readLine_176 ?_
          refine Wm.topE (w := nI (ln3 + 1)) (nI_add ln3 1) ?_
          refine r_put F (g' := (⟨T, 0, u, h, P15761, L⟩ : RG)) e_X10_readLine_177 fp_X10_202 h15929 (by decide) ⟨_, rfl⟩ (fun _ _ _ _ q => q) (fun _ _ _ q => q) rfl rfl (by decide) (fun σ15937 h15938 g15939 g15940 f15941 => ?_)
          have ga15942 := ga15913.of (g15939 _ (by omega))
          have ga15943 := ga15914.of (g15939 _ (by omega))
          have ga15944 := ga15915.of (g15939 _ (by omega))
          have ga15945 := ga15916.of (g15939 _ (by omega))
          have ga15946 := ga15917.of (g15939 _ (by omega))
          have ga15947 := ga15918.of (g15939 _ (by omega))
          have ga15948 := ga15919.of (g15939 _ (by omega))
          have h15949 : HS V c _ [0, 2, 17, 18, 19, 20, 21, 22, 23] _ _ := ⟨HR.mono (Z' := Z) (by intro e; first | rfl | assumption | omega) h15938.1, h15938.2⟩
          exact m_vret F hQ e_X10_readLine_180 (⟨P15761, oP15761, (by unfold RP; omega), (by rw [eo15769]; show RM _ c n _ (stopS (tok t n) (j1, 3, j3, j4) nl3 nm3 np3 nc3 lc3 no3 sd3 md3 ln3); rw [stopS_1 (by decide)]; exact RM.l ((g15940 23 (by decide)).trans yd15925) ((g15940 24 (by decide)).trans yd15926) (by omega) (by omega) (by omega)), (fun S2 hS _ => by rw [eo15769] at hS; replace hS : stopS (tok t n) (j1, 3, j3, j4) nl3 nm3 np3 nc3 lc3 no3 sd3 md3 ln3 = .inr S2 := hS; rw [stopS_1 (by decide)] at hS; cases hS), h15949, rfl⟩)
        · refine r_getC F e_X10_readLine_154 fl_X10_110 h15760 (yd15786) ?_
          refine m_iconst F (v := 3) (by decide) e_X10_readLine_157 ?_
          refine m_icmp_eq F e_X10_readLine_158 (fun _ => ?_) (fun q => absurd (by decide) q)
          refine m_aload_n F rfl e_X10_readLine_166 ?_
          refine r_callV F e_X10_readLine_167 (q_X10_goOnE (x_l X) V c T Z u h P15761 L _ _  n j1 3 va3 ln3 fp3 t h15760.1 (hob) oP15761  ⟨(yd15783), (yd15784), (yd15785), (yd15786), (yd15787), (yd15788), (yd15789)⟩ ga15763 hn7 (by omega)) cb_X10_goOn ml_X10_154 im_X10_goOn se_X10_goOn h15760 rfl rfl (rest := []) rfl (Nat.le_of_ble_eq_true rfl) ⟨Nat.le_of_ble_eq_true rfl, Nat.le_of_ble_eq_true rfl⟩ ⟨Nat.le_of_ble_eq_true rfl, Nat.le_of_ble_eq_true rfl⟩ (fun r σ15950 hp => ?_)
          obtain ⟨P15953, oP15953, rP15953, pr15954, pr15955, h15951, hp⟩ := hp
          have h15952 := HS.trans h15760 h15951 (by decide)
          have xP15953 := oP15953
          unfold OKP at xP15953
          unfold RA at rP15953
          have ga15956 := ga15763.of (h15951.2 (c + 1) (by rw [kC_at (k := 1) (by decide)]; decide))
          have ga15957 := hN3.of (h15951.2 (c + 2) (by rw [kC_at (k := 2) (by decide)]; decide))
          have ga15958 := hM3.of (h15951.2 (c + 3) (by rw [kC_at (k := 3) (by decide)]; decide))
          have ga15959 := hK3.of (h15951.2 (c + 7) (by rw [kC_at (k := 7) (by decide)]; decide))
          have ga15960 := hF3.of (h15951.2 (c + 8) (by rw [kC_at (k := 8) (by decide)]; decide))
          have ga15961 := hG3.of (h15951.2 (c + 9) (by rw [kC_at (k := 9) (by decide)]; decide))
          have ga15962 := hQ3.of (h15951.2 (c + 11) (by rw [kC_at (k := 11) (by decide)]; decide))
          obtain rfl := hp
          rw [pa3] at pr15954 pr15955
          have b8 := tok_ok (t := t) (n := n) j4 c1
          obtain ⟨so15963, va15964, mt15965, yd15966⟩ := pr15955
          have hyd15967 := yd15966
          obtain ⟨yd15967, yd15968, yd15969, yd15970, yd15971, yd15972, yd15973⟩ := hyd15967
          refine m_aload_n F rfl e_X10_readLine_170 ?_
          refine m_dup F rfl e_X10_readLine_171 ?_
          refine r_getC F e_X10_readLine_172 fl_X10_202 h15952 (yd15967) ?_
          refine m_iconst F (v := 1) (by decide) e_X10_readLine_175 ?_
          refine m_iadd F e_X10_readLine_176 ?_
          refine Wm.topE (w := nI (ln3 + 1)) (nI_add ln3 1) ?_
          refine r_put F (g' := (⟨T, Z, u, h, P15953, L⟩ : RG)) e_X10_readLine_177 fp_X10_202 h15952 (by decide) ⟨_, rfl⟩ (fun _ _ _ _ q => q) (fun _ _ _ q => q) rfl rfl (by decide) (fun σ15974 h15975 g15976 g15977 f15978 => ?_)
          have ga15979 := ga15956.of (g15976 _ (by omega))
          have ga15980 := ga15957.of (g15976 _ (by omega))
          have ga15981 := ga15958.of (g15976 _ (by omega))
          have ga15982 := ga15959.of (g15976 _ (by omega))
          have ga15983 := ga15960.of (g15976 _ (by omega))
          have ga15984 := ga15961.of (g15976 _ (by omega))
          have ga15985 := ga15962.of (g15976 _ (by omega))
          exact m_vret F hQ e_X10_readLine_180 (⟨P15953, oP15953, (by unfold RP; omega), (by rw [eo15769]; show RM _ c n _ (stopS (tok t n) (j1, 4, j3, j4) nl3 nm3 np3 nc3 lc3 no3 sd3 md3 ln3); rw [stopS_ok]; exact RM.r mt15965 ⟨(f15978), ((g15977 18 (by decide)).trans yd15968), ((g15977 20 (by decide)).trans yd15969), ((g15977 21 (by decide)).trans yd15970), ((g15977 22 (by decide)).trans yd15971), ((g15977 23 (by decide)).trans yd15972), ((g15977 24 (by decide)).trans yd15973)⟩ (by omega) (by omega) (by omega) ga15980 ga15981 ga15982 ga15983 ga15984 ga15985 (by omega) (by omega) (by omega) (by omega) (by omega)), (fun S2 hS hz => by rw [eo15769] at hS; replace hS : stopS (tok t n) (j1, 4, j3, j4) nl3 nm3 np3 nc3 lc3 no3 sd3 md3 ln3 = .inr S2 := hS; rw [stopS_ok] at hS; cases hS; replace hz : (tok t n j4).2.1 ≠ 0 := hz; have h8 := b8.2.2.2 hz; omega), h15975, rfl⟩)
        · refine r_getC F e_X10_readLine_154 fl_X10_110 h15760 (yd15786) ?_
          refine m_iconst F (v := 3) (by decide) e_X10_readLine_157 ?_
          refine m_icmp_eq F e_X10_readLine_158 (fun q => absurd q (by decide)) (fun _ => ?_)
          refine m_aload_n F rfl e_X10_readLine_161 ?_
          refine m_iconst F (v := 1) (by decide) e_X10_readLine_162 ?_
          refine r_callV F e_X10_readLine_163 (q_X10_wrongE (x_l X) V c T Z u h P15761 L _ _ 1 n j1 5 va3 ln3 fp3 h15760.1 (hob) oP15761 (by omega) ⟨(yd15783), (yd15784), (yd15785), (yd15786), (yd15787), (yd15788), (yd15789)⟩ (by decide)) cb_X10_wrong ml_X10_150 im_X10_wrong se_X10_wrong h15760 rfl rfl (rest := []) rfl (Nat.le_of_ble_eq_true rfl) ⟨Nat.le_of_ble_eq_true rfl, Nat.le_of_ble_eq_true rfl⟩ ⟨Nat.le_of_ble_eq_true rfl, Nat.le_of_ble_eq_true rfl⟩ (fun r σ15986 hp => ?_)
          obtain ⟨h15987, hp⟩ := hp
          have h15988 := HS.trans h15760 h15987 (by decide)
          have ga15989 := ga15763.of (h15987.2 (c + 1) (by rw [kC_at (k := 1) (by decide)]; decide))
          have ga15990 := hN3.of (h15987.2 (c + 2) (by rw [kC_at (k := 2) (by decide)]; decide))
          have ga15991 := hM3.of (h15987.2 (c + 3) (by rw [kC_at (k := 3) (by decide)]; decide))
          have ga15992 := hK3.of (h15987.2 (c + 7) (by rw [kC_at (k := 7) (by decide)]; decide))
          have ga15993 := hF3.of (h15987.2 (c + 8) (by rw [kC_at (k := 8) (by decide)]; decide))
          have ga15994 := hG3.of (h15987.2 (c + 9) (by rw [kC_at (k := 9) (by decide)]; decide))
          have ga15995 := hQ3.of (h15987.2 (c + 11) (by rw [kC_at (k := 11) (by decide)]; decide))
          obtain ⟨hp, rfl⟩ := hp
          have hyd15996 := hp
          obtain ⟨yd15996, yd15997, yd15998, yd15999, yd16000, yd16001, yd16002⟩ := hyd15996
          refine m_aload_n F rfl e_X10_readLine_166 ?_
          refine r_callV F e_X10_readLine_167 (q_X10_goOnG (x_l X) V c T 0 u h P15761 L _ _  1 h15988.1 (hob) oP15761  (yd16001) (by decide)) cb_X10_goOn ml_X10_154 im_X10_goOn se_X10_goOn h15988 rfl rfl (rest := []) rfl (Nat.le_of_ble_eq_true rfl) ⟨Nat.le_of_ble_eq_true rfl, Nat.le_of_ble_eq_true rfl⟩ ⟨Nat.le_of_ble_eq_true rfl, Nat.le_of_ble_eq_true rfl⟩ (fun r σ16003 hp => ?_)
          obtain ⟨h16004, hp⟩ := hp
          have h16005 := HS.trans h15988 h16004 (by decide)
          have ga16006 := ga15989.of (h16004.2 (c + 1) (by rw [kC_at (k := 1) (by decide)]; decide))
          have ga16007 := ga15990.of (h16004.2 (c + 2) (by rw [kC_at (k := 2) (by decide)]; decide))
          have ga16008 := ga15991.of (h16004.2 (c + 3) (by rw [kC_at (k := 3) (by decide)]; decide))
          have ga16009 := ga15992.of (h16004.2 (c + 7) (by rw [kC_at (k := 7) (by decide)]; decide))
          have ga16010 := ga15993.of (h16004.2 (c + 8) (by rw [kC_at (k := 8) (by decide)]; decide))
          have ga16011 := ga15994.of (h16004.2 (c + 9) (by rw [kC_at (k := 9) (by decide)]; decide))
          have ga16012 := ga15995.of (h16004.2 (c + 11) (by rw [kC_at (k := 11) (by decide)]; decide))
          obtain ⟨rfl, rfl⟩ := hp
          refine m_aload_n F rfl e_X10_readLine_170 ?_
          refine m_dup F rfl e_X10_readLine_171 ?_
          refine r_getC F e_X10_readLine_172 fl_X10_202 h16005 (yd15996) ?_
          refine m_iconst F (v := 1) (by decide) e_X10_readLine_175 ?_
          refine m_iadd F e_X10_readLine_176 ?_
          refine Wm.topE (w := nI (ln3 + 1)) (nI_add ln3 1) ?_
          refine r_put F (g' := (⟨T, 0, u, h, P15761, L⟩ : RG)) e_X10_readLine_177 fp_X10_202 h16005 (by decide) ⟨_, rfl⟩ (fun _ _ _ _ q => q) (fun _ _ _ q => q) rfl rfl (by decide) (fun σ16013 h16014 g16015 g16016 f16017 => ?_)
          have ga16018 := ga15989.of (g16015 _ (by omega))
          have ga16019 := ga15990.of (g16015 _ (by omega))
          have ga16020 := ga15991.of (g16015 _ (by omega))
          have ga16021 := ga15992.of (g16015 _ (by omega))
          have ga16022 := ga15993.of (g16015 _ (by omega))
          have ga16023 := ga15994.of (g16015 _ (by omega))
          have ga16024 := ga15995.of (g16015 _ (by omega))
          have h16025 : HS V c _ [0, 2, 17, 18, 19, 20, 21, 22, 23] _ _ := ⟨HR.mono (Z' := Z) (by intro e; first | rfl | assumption | omega) h16014.1, h16014.2⟩
          exact m_vret F hQ e_X10_readLine_180 (⟨P15761, oP15761, (by unfold RP; omega), (by rw [eo15769]; show RM _ c n _ (stopS (tok t n) (j1, 5, j3, j4) nl3 nm3 np3 nc3 lc3 no3 sd3 md3 ln3); rw [stopS_1 (by decide)]; exact RM.l ((g16016 23 (by decide)).trans yd16001) ((g16016 24 (by decide)).trans yd16002) (by omega) (by omega) (by omega)), (fun S2 hS _ => by rw [eo15769] at hS; replace hS : stopS (tok t n) (j1, 5, j3, j4) nl3 nm3 np3 nc3 lc3 no3 sd3 md3 ln3 = .inr S2 := hS; rw [stopS_1 (by decide)] at hS; cases hS), h16025, rfl⟩)
    · refine r_getC F e_X10_readLine_1 fl_X10_110 h1 (yd14104) ?_
      refine m_if_eq F e_X10_readLine_4 (fun _ => ?_) (fun q => absurd (by decide) q)
      refine m_aload_n F rfl e_X10_readLine_15 ?_
      refine r_getC F e_X10_readLine_16 fl_X10_120 h1 (yd14105) ?_
      refine m_if_ne F e_X10_readLine_19 (fun _ => ?_) (fun q => absurd q (by decide))
      refine m_aload_n F rfl e_X10_readLine_29 ?_
      refine r_getC F e_X10_readLine_30 fl_X10_120 h1 (yd14105) ?_
      refine m_iconst F (v := 1) (by decide) e_X10_readLine_33 ?_
      refine m_icmp_ne F e_X10_readLine_34 (fun _ => ?_) (fun q => absurd q (by decide))
      refine m_aload_n F rfl e_X10_readLine_44 ?_
      refine r_getC F e_X10_readLine_45 fl_X10_120 h1 (yd14105) ?_
      refine m_iconst F (v := 2) (by decide) e_X10_readLine_48 ?_
      refine m_icmp_eq F e_X10_readLine_49 (fun q => absurd q (by decide)) (fun _ => ?_)
      refine m_aload_n F rfl e_X10_readLine_52 ?_
      refine r_getC F e_X10_readLine_53 fl_X10_120 h1 (yd14105) ?_
      refine m_iconst F (v := 5) (by decide) e_X10_readLine_56 ?_
      refine m_icmp_ne F e_X10_readLine_57 (fun _ => ?_) (fun q => absurd q (by decide))
      refine m_aload_n F rfl e_X10_readLine_80 ?_
      refine r_getC F e_X10_readLine_81 fl_X10_120 h1 (yd14105) ?_
      refine m_iconst F (v := 3) (by decide) e_X10_readLine_84 ?_
      refine m_icmp_ne F e_X10_readLine_85 (fun _ => ?_) (fun q => absurd q (by decide))
      refine m_aload_n F rfl e_X10_readLine_95 ?_
      refine r_getC F e_X10_readLine_96 fl_X10_120 h1 (yd14105) ?_
      refine m_iconst F (v := 4) (by decide) e_X10_readLine_99 ?_
      refine m_icmp_ne F e_X10_readLine_100 (fun _ => ?_) (fun q => absurd q (by decide))
      refine m_aload_n F rfl e_X10_readLine_110 ?_
      refine r_getC F e_X10_readLine_111 fl_X10_120 h1 (yd14105) ?_
      refine m_bipush F (v := 6) (by decide) e_X10_readLine_114 ?_
      refine m_icmp_ne F e_X10_readLine_116 (fun _ => ?_) (fun q => absurd q (by decide))
      refine m_aload_n F rfl e_X10_readLine_126 ?_
      refine r_getC F e_X10_readLine_127 fl_X10_120 h1 (yd14105) ?_
      refine m_bipush F (v := 7) (by decide) e_X10_readLine_130 ?_
      refine m_icmp_ne F e_X10_readLine_132 (fun q => absurd (by decide) q) (fun _ => ?_)
      refine m_aload_n F rfl e_X10_readLine_135 ?_
      refine r_callV F e_X10_readLine_136 (q_X10_readOptionE (x_l X) V c T Z u h P L _ _  n st 0 7 ln fp t 1 7 nm np lc no sd md h1.1 (hob) hP  ⟨(yd14101), (yd14102), (yd14103), (yd14104), (yd14105), (yd14106), (yd14107)⟩ hp1 hn7 (by omega) hp4 hp5 hp6 hp7 hp8 hp9 hp10 hp11 hp12 hp13 hp14) cb_X10_readOption ml_X10_196 im_X10_readOption se_X10_readOption h1 rfl rfl (rest := []) rfl (Nat.le_of_ble_eq_true rfl) ⟨Nat.le_of_ble_eq_true rfl, Nat.le_of_ble_eq_true rfl⟩ ⟨Nat.le_of_ble_eq_true rfl, Nat.le_of_ble_eq_true rfl⟩ (fun r σ16026 hp => ?_)
      obtain ⟨P16029, oP16029, rP16029, pr16030, h16027, hp⟩ := hp
      have h16028 := HS.trans h1 h16027 (by decide)
      have xP16029 := oP16029
      unfold OKP at xP16029
      unfold RP at rP16029
      have ga16031 := hp1.of (h16027.2 (c + 1) (by rw [kC_at (k := 1) (by decide)]; decide))
      have ga16032 := hp7.of (h16027.2 (c + 3) (by rw [kC_at (k := 3) (by decide)]; decide))
      have ga16033 := hp8.of (h16027.2 (c + 7) (by rw [kC_at (k := 7) (by decide)]; decide))
      have ga16034 := hp9.of (h16027.2 (c + 8) (by rw [kC_at (k := 8) (by decide)]; decide))
      have ga16035 := hp10.of (h16027.2 (c + 9) (by rw [kC_at (k := 9) (by decide)]; decide))
      have ga16036 := hp11.of (h16027.2 (c + 11) (by rw [kC_at (k := 11) (by decide)]; decide))
      obtain rfl := hp
      have rm16037 : RM σ16026 c n P16029 (lineS (tok t n) (st, 1, 7, P.a) P.n5 nm np P.n7 lc no sd md ln) := by rw [lineS_7]; exact pr16030
      cases eo16038 : lineS (tok t n) (st, 1, 7, P.a) P.n5 nm np P.n7 lc no sd md ln with
      | inl e8 =>
        rw [eo16038] at rm16037
        obtain ⟨⟨fa16039, fb16040⟩, c1, c2, c3⟩ := rm16037
        have nz8 : nI e8.1 ≠ 0 := fun e => absurd (nI_inj9 (b := 0) (by omega) (by omega) e) (by omega)
        refine m_goto F e_X10_readLine_139 ?_
        refine m_aload_n F rfl e_X10_readLine_146 ?_
        refine r_getC F e_X10_readLine_147 fl_X10_141 h16028 (fa16039) ?_
        refine m_if_ne F e_X10_readLine_150 (fun q150 => ?_) (fun q150 => ?_)
        · have c150 : e8.1 ≠ 0 := by have hh := mt (nI_eq (a := e8.1) (b := 0) (by omega) (by omega)).mpr q150; omega
          refine m_aload_n F rfl e_X10_readLine_166 ?_
          refine r_callV F e_X10_readLine_167 (q_X10_goOnG (x_l X) V c T Z u h P16029 L _ _  (nI e8.1) h16028.1 (hob) oP16029  (fa16039) (by assumption)) cb_X10_goOn ml_X10_154 im_X10_goOn se_X10_goOn h16028 rfl rfl (rest := []) rfl (Nat.le_of_ble_eq_true rfl) ⟨Nat.le_of_ble_eq_true rfl, Nat.le_of_ble_eq_true rfl⟩ ⟨Nat.le_of_ble_eq_true rfl, Nat.le_of_ble_eq_true rfl⟩ (fun r σ16041 hp => ?_)
          obtain ⟨h16042, hp⟩ := hp
          have h16043 := HS.trans h16028 h16042 (by decide)
          obtain ⟨rfl, rfl⟩ := hp
          refine m_aload_n F rfl e_X10_readLine_170 ?_
          refine m_dup F rfl e_X10_readLine_171 ?_
          refine r_get F e_X10_readLine_172 fl_X10_202 h16043 rfl (fun v hv f16044 => ?_)
          obtain ⟨x16045, rfl⟩ := hv
          refine m_iconst F (v := 1) (by decide) e_X10_readLine_175 ?_
          refine m_iadd F e_X10_readLine_176 ?_
          refine Wm.top (fun x16046 _ => ?_)
          refine r_put F (g' := (⟨T, Z, u, h, P16029, L⟩ : RG)) e_X10_readLine_177 fp_X10_202 h16043 (by decide) ⟨_, rfl⟩ (fun _ _ _ _ q => q) (fun _ _ _ q => q) rfl rfl (by decide) (fun σ16047 h16048 g16049 g16050 f16051 => ?_)
          exact m_vret F hQ e_X10_readLine_180 (⟨P16029, oP16029, (by unfold RP; omega), (by rw [eo16038]; show RM _ c n _ (.inl e8); exact RM.l ((g16050 23 (by decide)).trans fa16039) ((g16050 24 (by decide)).trans fb16040) (by omega) (by omega) (by omega)), (fun S2 hS _ => by rw [eo16038] at hS; cases hS), h16048, rfl⟩)
        · have c150 : e8.1 = 0 := (nI_eq (a := e8.1) (b := 0) (by omega) (by omega)).mp q150
          exact absurd q150 nz8
      | inr S1 =>
        rw [eo16038] at rm16037
        obtain ⟨⟨j1, j2, j3, j4⟩, nl3, nm3, np3, nc3, lc3, no3, sd3, md3, ln3⟩ := S1
        obtain ⟨so3, va3, fp3, mt3, yd3, ⟨pa3, p53, p73⟩, hN3, hM3, hK3, hF3, hG3, hQ3, c1, c2, c3, c4, c5⟩ := rm16037
        replace pa3 : _ = j4 := pa3
        replace c1 : j4 ≤ n := c1
        replace c2 : j1 ≤ n := c2
        have hyd16052 := yd3
        obtain ⟨yd16052, yd16053, yd16054, yd16055, yd16056, yd16057, yd16058⟩ := hyd16052
        refine m_goto F e_X10_readLine_139 ?_
        refine m_aload_n F rfl e_X10_readLine_146 ?_
        refine r_getC F e_X10_readLine_147 fl_X10_141 h16028 (yd16057) ?_
        refine m_if_ne F e_X10_readLine_150 (fun q => absurd (by decide) q) (fun _ => ?_)
        refine m_aload_n F rfl e_X10_readLine_153 ?_
        have hmt := mt3
        rcases hmt with ⟨rfl, rfl⟩ | ⟨rfl, rfl, rfl, hv3⟩ | ⟨rfl, rfl, rfl, hv3⟩ | ⟨rfl, rfl, w3, hw3, rfl, hm3⟩ | ⟨rfl, rfl⟩ | ⟨rfl, rfl⟩
        · refine r_getC F e_X10_readLine_154 fl_X10_110 h16028 (yd16055) ?_
          refine m_iconst F (v := 3) (by decide) e_X10_readLine_157 ?_
          refine m_icmp_eq F e_X10_readLine_158 (fun q => absurd q (by decide)) (fun _ => ?_)
          refine m_aload_n F rfl e_X10_readLine_161 ?_
          refine m_iconst F (v := 1) (by decide) e_X10_readLine_162 ?_
          refine r_callV F e_X10_readLine_163 (q_X10_wrongE (x_l X) V c T Z u h P16029 L _ _ 1 n j1 4 va3 ln3 fp3 h16028.1 (hob) oP16029 (by omega) ⟨(yd16052), (yd16053), (yd16054), (yd16055), (yd16056), (yd16057), (yd16058)⟩ (by decide)) cb_X10_wrong ml_X10_150 im_X10_wrong se_X10_wrong h16028 rfl rfl (rest := []) rfl (Nat.le_of_ble_eq_true rfl) ⟨Nat.le_of_ble_eq_true rfl, Nat.le_of_ble_eq_true rfl⟩ ⟨Nat.le_of_ble_eq_true rfl, Nat.le_of_ble_eq_true rfl⟩ (fun r σ16059 hp => ?_)
          obtain ⟨h16060, hp⟩ := hp
          have h16061 := HS.trans h16028 h16060 (by decide)
          have ga16062 := ga16031.of (h16060.2 (c + 1) (by rw [kC_at (k := 1) (by decide)]; decide))
          have ga16063 := hN3.of (h16060.2 (c + 2) (by rw [kC_at (k := 2) (by decide)]; decide))
          have ga16064 := hM3.of (h16060.2 (c + 3) (by rw [kC_at (k := 3) (by decide)]; decide))
          have ga16065 := hK3.of (h16060.2 (c + 7) (by rw [kC_at (k := 7) (by decide)]; decide))
          have ga16066 := hF3.of (h16060.2 (c + 8) (by rw [kC_at (k := 8) (by decide)]; decide))
          have ga16067 := hG3.of (h16060.2 (c + 9) (by rw [kC_at (k := 9) (by decide)]; decide))
          have ga16068 := hQ3.of (h16060.2 (c + 11) (by rw [kC_at (k := 11) (by decide)]; decide))
          obtain ⟨hp, rfl⟩ := hp
          have hyd16069 := hp
          obtain ⟨yd16069, yd16070, yd16071, yd16072, yd16073, yd16074, yd16075⟩ := hyd16069
          refine m_aload_n F rfl e_X10_readLine_166 ?_
          refine r_callV F e_X10_readLine_167 (q_X10_goOnG (x_l X) V c T 0 u h P16029 L _ _  1 h16061.1 (hob) oP16029  (yd16074) (by decide)) cb_X10_goOn ml_X10_154 im_X10_goOn se_X10_goOn h16061 rfl rfl (rest := []) rfl (Nat.le_of_ble_eq_true rfl) ⟨Nat.le_of_ble_eq_true rfl, Nat.le_of_ble_eq_true rfl⟩ ⟨Nat.le_of_ble_eq_true rfl, Nat.le_of_ble_eq_true rfl⟩ (fun r σ16076 hp => ?_)
          obtain ⟨h16077, hp⟩ := hp
          have h16078 := HS.trans h16061 h16077 (by decide)
          have ga16079 := ga16062.of (h16077.2 (c + 1) (by rw [kC_at (k := 1) (by decide)]; decide))
          have ga16080 := ga16063.of (h16077.2 (c + 2) (by rw [kC_at (k := 2) (by decide)]; decide))
          have ga16081 := ga16064.of (h16077.2 (c + 3) (by rw [kC_at (k := 3) (by decide)]; decide))
          have ga16082 := ga16065.of (h16077.2 (c + 7) (by rw [kC_at (k := 7) (by decide)]; decide))
          have ga16083 := ga16066.of (h16077.2 (c + 8) (by rw [kC_at (k := 8) (by decide)]; decide))
          have ga16084 := ga16067.of (h16077.2 (c + 9) (by rw [kC_at (k := 9) (by decide)]; decide))
          have ga16085 := ga16068.of (h16077.2 (c + 11) (by rw [kC_at (k := 11) (by decide)]; decide))
          obtain ⟨rfl, rfl⟩ := hp
          refine m_aload_n F rfl e_X10_readLine_170 ?_
          refine m_dup F rfl e_X10_readLine_171 ?_
          refine r_getC F e_X10_readLine_172 fl_X10_202 h16078 (yd16069) ?_
          refine m_iconst F (v := 1) (by decide) e_X10_readLine_175 ?_
          refine m_iadd F e_X10_readLine_176 ?_
          refine Wm.topE (w := nI (ln3 + 1)) (nI_add ln3 1) ?_
          refine r_put F (g' := (⟨T, 0, u, h, P16029, L⟩ : RG)) e_X10_readLine_177 fp_X10_202 h16078 (by decide) ⟨_, rfl⟩ (fun _ _ _ _ q => q) (fun _ _ _ q => q) rfl rfl (by decide) (fun σ16086 h16087 g16088 g16089 f16090 => ?_)
          have ga16091 := ga16062.of (g16088 _ (by omega))
          have ga16092 := ga16063.of (g16088 _ (by omega))
          have ga16093 := ga16064.of (g16088 _ (by omega))
          have ga16094 := ga16065.of (g16088 _ (by omega))
          have ga16095 := ga16066.of (g16088 _ (by omega))
          have ga16096 := ga16067.of (g16088 _ (by omega))
          have ga16097 := ga16068.of (g16088 _ (by omega))
          have h16098 : HS V c _ [0, 2, 17, 18, 19, 20, 21, 22, 23] _ _ := ⟨HR.mono (Z' := Z) (by intro e; first | rfl | assumption | omega) h16087.1, h16087.2⟩
          exact m_vret F hQ e_X10_readLine_180 (⟨P16029, oP16029, (by unfold RP; omega), (by rw [eo16038]; show RM _ c n _ (stopS (tok t n) (j1, 0, j3, j4) nl3 nm3 np3 nc3 lc3 no3 sd3 md3 ln3); rw [stopS_1 (by decide)]; exact RM.l ((g16089 23 (by decide)).trans yd16074) ((g16089 24 (by decide)).trans yd16075) (by omega) (by omega) (by omega)), (fun S2 hS _ => by rw [eo16038] at hS; replace hS : stopS (tok t n) (j1, 0, j3, j4) nl3 nm3 np3 nc3 lc3 no3 sd3 md3 ln3 = .inr S2 := hS; rw [stopS_1 (by decide)] at hS; cases hS), h16098, rfl⟩)
        · refine r_getC F e_X10_readLine_154 fl_X10_110 h16028 (yd16055) ?_
          refine m_iconst F (v := 3) (by decide) e_X10_readLine_157 ?_
          refine m_icmp_eq F e_X10_readLine_158 (fun q => absurd q (by decide)) (fun _ => ?_)
          refine m_aload_n F rfl e_X10_readLine_161 ?_
          refine m_iconst F (v := 1) (by decide) e_X10_readLine_162 ?_
          refine r_callV F e_X10_readLine_163 (q_X10_wrongE (x_l X) V c T Z u h P16029 L _ _ 1 n j1 0 (nI j3) ln3 fp3 h16028.1 (hob) oP16029 (by omega) ⟨(yd16052), (yd16053), (yd16054), (yd16055), (yd16056), (yd16057), (yd16058)⟩ (by decide)) cb_X10_wrong ml_X10_150 im_X10_wrong se_X10_wrong h16028 rfl rfl (rest := []) rfl (Nat.le_of_ble_eq_true rfl) ⟨Nat.le_of_ble_eq_true rfl, Nat.le_of_ble_eq_true rfl⟩ ⟨Nat.le_of_ble_eq_true rfl, Nat.le_of_ble_eq_true rfl⟩ (fun r σ16099 hp => ?_)
          obtain ⟨h16100, hp⟩ := hp
          have h16101 := HS.trans h16028 h16100 (by decide)
          have ga16102 := ga16031.of (h16100.2 (c + 1) (by rw [kC_at (k := 1) (by decide)]; decide))
          have ga16103 := hN3.of (h16100.2 (c + 2) (by rw [kC_at (k := 2) (by decide)]; decide))
          have ga16104 := hM3.of (h16100.2 (c + 3) (by rw [kC_at (k := 3) (by decide)]; decide))
          have ga16105 := hK3.of (h16100.2 (c + 7) (by rw [kC_at (k := 7) (by decide)]; decide))
          have ga16106 := hF3.of (h16100.2 (c + 8) (by rw [kC_at (k := 8) (by decide)]; decide))
          have ga16107 := hG3.of (h16100.2 (c + 9) (by rw [kC_at (k := 9) (by decide)]; decide))
          have ga16108 := hQ3.of (h16100.2 (c + 11) (by rw [kC_at (k := 11) (by decide)]; decide))
          obtain ⟨hp, rfl⟩ := hp
          have hyd16109 := hp
          obtain ⟨yd16109, yd16110, yd16111, yd16112, yd16113, yd16114, yd16115⟩ := hyd16109
          refine m_aload_n F rfl e_X10_readLine_166 ?_
          refine r_callV F e_X10_readLine_167 (q_X10_goOnG (x_l X) V c T 0 u h P16029 L _ _  1 h16101.1 (hob) oP16029  (yd16114) (by decide)) cb_X10_goOn ml_X10_154 im_X10_goOn se_X10_goOn h16101 rfl rfl (rest := []) rfl (Nat.le_of_ble_eq_true rfl) ⟨Nat.le_of_ble_eq_true rfl, Nat.le_of_ble_eq_true rfl⟩ ⟨Nat.le_of_ble_eq_true rfl, Nat.le_of_ble_eq_true rfl⟩ (fun r σ16116 hp => ?_)
          obtain ⟨h16117, hp⟩ := hp
          have h16118 := HS.trans h16101 h16117 (by decide)
          have ga16119 := ga16102.of (h16117.2 (c + 1) (by rw [kC_at (k := 1) (by decide)]; decide))
          have ga16120 := ga16103.of (h16117.2 (c + 2) (by rw [kC_at (k := 2) (by decide)]; decide))
          have ga16121 := ga16104.of (h16117.2 (c + 3) (by rw [kC_at (k := 3) (by decide)]; decide))
          have ga16122 := ga16105.of (h16117.2 (c + 7) (by rw [kC_at (k := 7) (by decide)]; decide))
          have ga16123 := ga16106.of (h16117.2 (c + 8) (by rw [kC_at (k := 8) (by decide)]; decide))
          have ga16124 := ga16107.of (h16117.2 (c + 9) (by rw [kC_at (k := 9) (by decide)]; decide))
          have ga16125 := ga16108.of (h16117.2 (c + 11) (by rw [kC_at (k := 11) (by decide)]; decide))
          obtain ⟨rfl, rfl⟩ := hp
          refine m_aload_n F rfl e_X10_readLine_170 ?_
          refine m_dup F rfl e_X10_readLine_171 ?_
          refine r_getC F e_X10_readLine_172 fl_X10_202 h16118 (yd16109) ?_
          refine m_iconst F (v := 1) (by decide) e_X10_readLine_175 ?_
          refine m_iadd F e_X10_readLine_176 ?_
          refine Wm.topE (w := nI (ln3 + 1)) (nI_add ln3 1) ?_
          refine r_put F (g' := (⟨T, 0, u, h, P16029, L⟩ : RG)) e_X10_readLine_177 fp_X10_202 h16118 (by decide) ⟨_, rfl⟩ (fun _ _ _ _ q => q) (fun _ _ _ q => q) rfl rfl (by decide) (fun σ16126 h16127 g16128 g16129 f16130 => ?_)
          have ga16131 := ga16102.of (g16128 _ (by omega))
          have ga16132 := ga16103.of (g16128 _ (by omega))
          have ga16133 := ga16104.of (g16128 _ (by omega))
          have ga16134 := ga16105.of (g16128 _ (by omega))
          have ga16135 := ga16106.of (g16128 _ (by omega))
          have ga16136 := ga16107.of (g16128 _ (by omega))
          have ga16137 := ga16108.of (g16128 _ (by omega))
          have h16138 : HS V c _ [0, 2, 17, 18, 19, 20, 21, 22, 23] _ _ := ⟨HR.mono (Z' := Z) (by intro e; first | rfl | assumption | omega) h16127.1, h16127.2⟩
          exact m_vret F hQ e_X10_readLine_180 (⟨P16029, oP16029, (by unfold RP; omega), (by rw [eo16038]; show RM _ c n _ (stopS (tok t n) (j1, 1, j3, j4) nl3 nm3 np3 nc3 lc3 no3 sd3 md3 ln3); rw [stopS_1 (by decide)]; exact RM.l ((g16129 23 (by decide)).trans yd16114) ((g16129 24 (by decide)).trans yd16115) (by omega) (by omega) (by omega)), (fun S2 hS _ => by rw [eo16038] at hS; replace hS : stopS (tok t n) (j1, 1, j3, j4) nl3 nm3 np3 nc3 lc3 no3 sd3 md3 ln3 = .inr S2 := hS; rw [stopS_1 (by decide)] at hS; cases hS), h16138, rfl⟩)
        · refine r_getC F e_X10_readLine_154 fl_X10_110 h16028 (yd16055) ?_
          refine m_iconst F (v := 3) (by decide) e_X10_readLine_157 ?_
          refine m_icmp_eq F e_X10_readLine_158 (fun q => absurd q (by decide)) (fun _ => ?_)
          refine m_aload_n F rfl e_X10_readLine_161 ?_
          refine m_iconst F (v := 1) (by decide) e_X10_readLine_162 ?_
          refine r_callV F e_X10_readLine_163 (q_X10_wrongE (x_l X) V c T Z u h P16029 L _ _ 1 n j1 1 (nI j3) ln3 fp3 h16028.1 (hob) oP16029 (by omega) ⟨(yd16052), (yd16053), (yd16054), (yd16055), (yd16056), (yd16057), (yd16058)⟩ (by decide)) cb_X10_wrong ml_X10_150 im_X10_wrong se_X10_wrong h16028 rfl rfl (rest := []) rfl (Nat.le_of_ble_eq_true rfl) ⟨Nat.le_of_ble_eq_true rfl, Nat.le_of_ble_eq_true rfl⟩ ⟨Nat.le_of_ble_eq_true rfl, Nat.le_of_ble_eq_true rfl⟩ (fun r σ16139 hp => ?_)
          obtain ⟨h16140, hp⟩ := hp
          have h16141 := HS.trans h16028 h16140 (by decide)
          have ga16142 := ga16031.of (h16140.2 (c + 1) (by rw [kC_at (k := 1) (by decide)]; decide))
          have ga16143 := hN3.of (h16140.2 (c + 2) (by rw [kC_at (k := 2) (by decide)]; decide))
          have ga16144 := hM3.of (h16140.2 (c + 3) (by rw [kC_at (k := 3) (by decide)]; decide))
          have ga16145 := hK3.of (h16140.2 (c + 7) (by rw [kC_at (k := 7) (by decide)]; decide))
          have ga16146 := hF3.of (h16140.2 (c + 8) (by rw [kC_at (k := 8) (by decide)]; decide))
          have ga16147 := hG3.of (h16140.2 (c + 9) (by rw [kC_at (k := 9) (by decide)]; decide))
          have ga16148 := hQ3.of (h16140.2 (c + 11) (by rw [kC_at (k := 11) (by decide)]; decide))
          obtain ⟨hp, rfl⟩ := hp
          have hyd16149 := hp
          obtain ⟨yd16149, yd16150, yd16151, yd16152, yd16153, yd16154, yd16155⟩ := hyd16149
          refine m_aload_n F rfl e_X10_readLine_166 ?_
          refine r_callV F e_X10_readLine_167 (q_X10_goOnG (x_l X) V c T 0 u h P16029 L _ _  1 h16141.1 (hob) oP16029  (yd16154) (by decide)) cb_X10_goOn ml_X10_154 im_X10_goOn se_X10_goOn h16141 rfl rfl (rest := []) rfl (Nat.le_of_ble_eq_true rfl) ⟨Nat.le_of_ble_eq_true rfl, Nat.le_of_ble_eq_true rfl⟩ ⟨Nat.le_of_ble_eq_true rfl, Nat.le_of_ble_eq_true rfl⟩ (fun r σ16156 hp => ?_)
          obtain ⟨h16157, hp⟩ := hp
          have h16158 := HS.trans h16141 h16157 (by decide)
          have ga16159 := ga16142.of (h16157.2 (c + 1) (by rw [kC_at (k := 1) (by decide)]; decide))
          have ga16160 := ga16143.of (h16157.2 (c + 2) (by rw [kC_at (k := 2) (by decide)]; decide))
          have ga16161 := ga16144.of (h16157.2 (c + 3) (by rw [kC_at (k := 3) (by decide)]; decide))
          have ga16162 := ga16145.of (h16157.2 (c + 7) (by rw [kC_at (k := 7) (by decide)]; decide))
          have ga16163 := ga16146.of (h16157.2 (c + 8) (by rw [kC_at (k := 8) (by decide)]; decide))
          have ga16164 := ga16147.of (h16157.2 (c + 9) (by rw [kC_at (k := 9) (by decide)]; decide))
          have ga16165 := ga16148.of (h16157.2 (c + 11) (by rw [kC_at (k := 11) (by decide)]; decide))
          obtain ⟨rfl, rfl⟩ := hp
          refine m_aload_n F rfl e_X10_readLine_170 ?_
          refine m_dup F rfl e_X10_readLine_171 ?_
          refine r_getC F e_X10_readLine_172 fl_X10_202 h16158 (yd16149) ?_
          refine m_iconst F (v := 1) (by decide) e_X10_readLine_175 ?_
          refine m_iadd F e_X10_readLine_176 ?_
          refine Wm.topE (w := nI (ln3 + 1)) (nI_add ln3 1) ?_
          refine r_put F (g' := (⟨T, 0, u, h, P16029, L⟩ : RG)) e_X10_readLine_177 fp_X10_202 h16158 (by decide) ⟨_, rfl⟩ (fun _ _ _ _ q => q) (fun _ _ _ q => q) rfl rfl (by decide) (fun σ16166 h16167 g16168 g16169 f16170 => ?_)
          have ga16171 := ga16142.of (g16168 _ (by omega))
          have ga16172 := ga16143.of (g16168 _ (by omega))
          have ga16173 := ga16144.of (g16168 _ (by omega))
          have ga16174 := ga16145.of (g16168 _ (by omega))
          have ga16175 := ga16146.of (g16168 _ (by omega))
          have ga16176 := ga16147.of (g16168 _ (by omega))
          have ga16177 := ga16148.of (g16168 _ (by omega))
          have h16178 : HS V c _ [0, 2, 17, 18, 19, 20, 21, 22, 23] _ _ := ⟨HR.mono (Z' := Z) (by intro e; first | rfl | assumption | omega) h16167.1, h16167.2⟩
          exact m_vret F hQ e_X10_readLine_180 (⟨P16029, oP16029, (by unfold RP; omega), (by rw [eo16038]; show RM _ c n _ (stopS (tok t n) (j1, 2, j3, j4) nl3 nm3 np3 nc3 lc3 no3 sd3 md3 ln3); rw [stopS_1 (by decide)]; exact RM.l ((g16169 23 (by decide)).trans yd16154) ((g16169 24 (by decide)).trans yd16155) (by omega) (by omega) (by omega)), (fun S2 hS _ => by rw [eo16038] at hS; replace hS : stopS (tok t n) (j1, 2, j3, j4) nl3 nm3 np3 nc3 lc3 no3 sd3 md3 ln3 = .inr S2 := hS; rw [stopS_1 (by decide)] at hS; cases hS), h16178, rfl⟩)
        · refine r_getC F e_X10_readLine_154 fl_X10_110 h16028 (yd16055) ?_
          refine m_iconst F (v := 3) (by decide) e_X10_readLine_157 ?_
          refine m_icmp_eq F e_X10_readLine_158 (fun q => absurd q (by decide)) (fun _ => ?_)
          refine m_aload_n F rfl e_X10_readLine_161 ?_
          refine m_iconst F (v := 1) (by decide) e_X10_readLine_162 ?_
          refine r_callV F e_X10_readLine_163 (q_X10_wrongE (x_l X) V c T Z u h P16029 L _ _ 1 n j1 2 (nI w3) ln3 fp3 h16028.1 (hob) oP16029 (by omega) ⟨(yd16052), (yd16053), (yd16054), (yd16055), (yd16056), (yd16057), (yd16058)⟩ (by decide)) cb_X10_wrong ml_X10_150 im_X10_wrong se_X10_wrong h16028 rfl rfl (rest := []) rfl (Nat.le_of_ble_eq_true rfl) ⟨Nat.le_of_ble_eq_true rfl, Nat.le_of_ble_eq_true rfl⟩ ⟨Nat.le_of_ble_eq_true rfl, Nat.le_of_ble_eq_true rfl⟩ (fun r σ16179 hp => ?_)
          obtain ⟨h16180, hp⟩ := hp
          have h16181 := HS.trans h16028 h16180 (by decide)
          have ga16182 := ga16031.of (h16180.2 (c + 1) (by rw [kC_at (k := 1) (by decide)]; decide))
          have ga16183 := hN3.of (h16180.2 (c + 2) (by rw [kC_at (k := 2) (by decide)]; decide))
          have ga16184 := hM3.of (h16180.2 (c + 3) (by rw [kC_at (k := 3) (by decide)]; decide))
          have ga16185 := hK3.of (h16180.2 (c + 7) (by rw [kC_at (k := 7) (by decide)]; decide))
          have ga16186 := hF3.of (h16180.2 (c + 8) (by rw [kC_at (k := 8) (by decide)]; decide))
          have ga16187 := hG3.of (h16180.2 (c + 9) (by rw [kC_at (k := 9) (by decide)]; decide))
          have ga16188 := hQ3.of (h16180.2 (c + 11) (by rw [kC_at (k := 11) (by decide)]; decide))
          obtain ⟨hp, rfl⟩ := hp
          have hyd16189 := hp
          obtain ⟨yd16189, yd16190, yd16191, yd16192, yd16193, yd16194, yd16195⟩ := hyd16189
          refine m_aload_n F rfl e_X10_readLine_166 ?_
          refine r_callV F e_X10_readLine_167 (q_X10_goOnG (x_l X) V c T 0 u h P16029 L _ _  1 h16181.1 (hob) oP16029  (yd16194) (by decide)) cb_X10_goOn ml_X10_154 im_X10_goOn se_X10_goOn h16181 rfl rfl (rest := []) rfl (Nat.le_of_ble_eq_true rfl) ⟨Nat.le_of_ble_eq_true rfl, Nat.le_of_ble_eq_true rfl⟩ ⟨Nat.le_of_ble_eq_true rfl, Nat.le_of_ble_eq_true rfl⟩ (fun r σ16196 hp => ?_)
          obtain ⟨h16197, hp⟩ := hp
          have h16198 := HS.trans h16181 h16197 (by decide)
          have ga16199 := ga16182.of (h16197.2 (c + 1) (by rw [kC_at (k := 1) (by decide)]; decide))
          have ga16200 := ga16183.of (h16197.2 (c + 2) (by rw [kC_at (k := 2) (by decide)]; decide))
          have ga16201 := ga16184.of (h16197.2 (c + 3) (by rw [kC_at (k := 3) (by decide)]; decide))
          have ga16202 := ga16185.of (h16197.2 (c + 7) (by rw [kC_at (k := 7) (by decide)]; decide))
          have ga16203 := ga16186.of (h16197.2 (c + 8) (by rw [kC_at (k := 8) (by decide)]; decide))
          have ga16204 := ga16187.of (h16197.2 (c + 9) (by rw [kC_at (k := 9) (by decide)]; decide))
          have ga16205 := ga16188.of (h16197.2 (c + 11) (by rw [kC_at (k := 11) (by decide)]; decide))
          obtain ⟨rfl, rfl⟩ := hp
          refine m_aload_n F rfl e_X10_readLine_170 ?_
          refine m_dup F rfl e_X10_readLine_171 ?_
          refine r_getC F e_X10_readLine_172 fl_X10_202 h16198 (yd16189) ?_
          refine m_iconst F (v := 1) (by decide) e_X10_readLine_175 ?_
          refine m_iadd F e_X10_readLine_176 ?_
          refine Wm.topE (w := nI (ln3 + 1)) (nI_add ln3 1) ?_
          refine r_put F (g' := (⟨T, 0, u, h, P16029, L⟩ : RG)) e_X10_readLine_177 fp_X10_202 h16198 (by decide) ⟨_, rfl⟩ (fun _ _ _ _ q => q) (fun _ _ _ q => q) rfl rfl (by decide) (fun σ16206 h16207 g16208 g16209 f16210 => ?_)
          have ga16211 := ga16182.of (g16208 _ (by omega))
          have ga16212 := ga16183.of (g16208 _ (by omega))
          have ga16213 := ga16184.of (g16208 _ (by omega))
          have ga16214 := ga16185.of (g16208 _ (by omega))
          have ga16215 := ga16186.of (g16208 _ (by omega))
          have ga16216 := ga16187.of (g16208 _ (by omega))
          have ga16217 := ga16188.of (g16208 _ (by omega))
          have h16218 : HS V c _ [0, 2, 17, 18, 19, 20, 21, 22, 23] _ _ := ⟨HR.mono (Z' := Z) (by intro e; first | rfl | assumption | omega) h16207.1, h16207.2⟩
          exact m_vret F hQ e_X10_readLine_180 (⟨P16029, oP16029, (by unfold RP; omega), (by rw [eo16038]; show RM _ c n _ (stopS (tok t n) (j1, 3, j3, j4) nl3 nm3 np3 nc3 lc3 no3 sd3 md3 ln3); rw [stopS_1 (by decide)]; exact RM.l ((g16209 23 (by decide)).trans yd16194) ((g16209 24 (by decide)).trans yd16195) (by omega) (by omega) (by omega)), (fun S2 hS _ => by rw [eo16038] at hS; replace hS : stopS (tok t n) (j1, 3, j3, j4) nl3 nm3 np3 nc3 lc3 no3 sd3 md3 ln3 = .inr S2 := hS; rw [stopS_1 (by decide)] at hS; cases hS), h16218, rfl⟩)
        · refine r_getC F e_X10_readLine_154 fl_X10_110 h16028 (yd16055) ?_
          refine m_iconst F (v := 3) (by decide) e_X10_readLine_157 ?_
          refine m_icmp_eq F e_X10_readLine_158 (fun _ => ?_) (fun q => absurd (by decide) q)
          refine m_aload_n F rfl e_X10_readLine_166 ?_
          refine r_callV F e_X10_readLine_167 (q_X10_goOnE (x_l X) V c T Z u h P16029 L _ _  n j1 3 va3 ln3 fp3 t h16028.1 (hob) oP16029  ⟨(yd16052), (yd16053), (yd16054), (yd16055), (yd16056), (yd16057), (yd16058)⟩ ga16031 hn7 (by omega)) cb_X10_goOn ml_X10_154 im_X10_goOn se_X10_goOn h16028 rfl rfl (rest := []) rfl (Nat.le_of_ble_eq_true rfl) ⟨Nat.le_of_ble_eq_true rfl, Nat.le_of_ble_eq_true rfl⟩ ⟨Nat.le_of_ble_eq_true rfl, Nat.le_of_ble_eq_true rfl⟩ (fun r σ16219 hp => ?_)
          obtain ⟨P16222, oP16222, rP16222, pr16223, pr16224, h16220, hp⟩ := hp
          have h16221 := HS.trans h16028 h16220 (by decide)
          have xP16222 := oP16222
          unfold OKP at xP16222
          unfold RA at rP16222
          have ga16225 := ga16031.of (h16220.2 (c + 1) (by rw [kC_at (k := 1) (by decide)]; decide))
          have ga16226 := hN3.of (h16220.2 (c + 2) (by rw [kC_at (k := 2) (by decide)]; decide))
          have ga16227 := hM3.of (h16220.2 (c + 3) (by rw [kC_at (k := 3) (by decide)]; decide))
          have ga16228 := hK3.of (h16220.2 (c + 7) (by rw [kC_at (k := 7) (by decide)]; decide))
          have ga16229 := hF3.of (h16220.2 (c + 8) (by rw [kC_at (k := 8) (by decide)]; decide))
          have ga16230 := hG3.of (h16220.2 (c + 9) (by rw [kC_at (k := 9) (by decide)]; decide))
          have ga16231 := hQ3.of (h16220.2 (c + 11) (by rw [kC_at (k := 11) (by decide)]; decide))
          obtain rfl := hp
          rw [pa3] at pr16223 pr16224
          have b8 := tok_ok (t := t) (n := n) j4 c1
          obtain ⟨so16232, va16233, mt16234, yd16235⟩ := pr16224
          have hyd16236 := yd16235
          obtain ⟨yd16236, yd16237, yd16238, yd16239, yd16240, yd16241, yd16242⟩ := hyd16236
          refine m_aload_n F rfl e_X10_readLine_170 ?_
          refine m_dup F rfl e_X10_readLine_171 ?_
          refine r_getC F e_X10_readLine_172 fl_X10_202 h16221 (yd16236) ?_
          refine m_iconst F (v := 1) (by decide) e_X10_readLine_175 ?_
          refine m_iadd F e_X10_readLine_176 ?_
          refine Wm.topE (w := nI (ln3 + 1)) (nI_add ln3 1) ?_
          refine r_put F (g' := (⟨T, Z, u, h, P16222, L⟩ : RG)) e_X10_readLine_177 fp_X10_202 h16221 (by decide) ⟨_, rfl⟩ (fun _ _ _ _ q => q) (fun _ _ _ q => q) rfl rfl (by decide) (fun σ16243 h16244 g16245 g16246 f16247 => ?_)
          have ga16248 := ga16225.of (g16245 _ (by omega))
          have ga16249 := ga16226.of (g16245 _ (by omega))
          have ga16250 := ga16227.of (g16245 _ (by omega))
          have ga16251 := ga16228.of (g16245 _ (by omega))
          have ga16252 := ga16229.of (g16245 _ (by omega))
          have ga16253 := ga16230.of (g16245 _ (by omega))
          have ga16254 := ga16231.of (g16245 _ (by omega))
          exact m_vret F hQ e_X10_readLine_180 (⟨P16222, oP16222, (by unfold RP; omega), (by rw [eo16038]; show RM _ c n _ (stopS (tok t n) (j1, 4, j3, j4) nl3 nm3 np3 nc3 lc3 no3 sd3 md3 ln3); rw [stopS_ok]; exact RM.r mt16234 ⟨(f16247), ((g16246 18 (by decide)).trans yd16237), ((g16246 20 (by decide)).trans yd16238), ((g16246 21 (by decide)).trans yd16239), ((g16246 22 (by decide)).trans yd16240), ((g16246 23 (by decide)).trans yd16241), ((g16246 24 (by decide)).trans yd16242)⟩ (by omega) (by omega) (by omega) ga16249 ga16250 ga16251 ga16252 ga16253 ga16254 (by omega) (by omega) (by omega) (by omega) (by omega)), (fun S2 hS hz => by rw [eo16038] at hS; replace hS : stopS (tok t n) (j1, 4, j3, j4) nl3 nm3 np3 nc3 lc3 no3 sd3 md3 ln3 = .inr S2 := hS; rw [stopS_ok] at hS; cases hS; replace hz : (tok t n j4).2.1 ≠ 0 := hz; have h8 := b8.2.2.2 hz; omega), h16244, rfl⟩)
        · refine r_getC F e_X10_readLine_154 fl_X10_110 h16028 (yd16055) ?_
          refine m_iconst F (v := 3) (by decide) e_X10_readLine_157 ?_
          refine m_icmp_eq F e_X10_readLine_158 (fun q => absurd q (by decide)) (fun _ => ?_)
          refine m_aload_n F rfl e_X10_readLine_161 ?_
          refine m_iconst F (v := 1) (by decide) e_X10_readLine_162 ?_
          refine r_callV F e_X10_readLine_163 (q_X10_wrongE (x_l X) V c T Z u h P16029 L _ _ 1 n j1 5 va3 ln3 fp3 h16028.1 (hob) oP16029 (by omega) ⟨(yd16052), (yd16053), (yd16054), (yd16055), (yd16056), (yd16057), (yd16058)⟩ (by decide)) cb_X10_wrong ml_X10_150 im_X10_wrong se_X10_wrong h16028 rfl rfl (rest := []) rfl (Nat.le_of_ble_eq_true rfl) ⟨Nat.le_of_ble_eq_true rfl, Nat.le_of_ble_eq_true rfl⟩ ⟨Nat.le_of_ble_eq_true rfl, Nat.le_of_ble_eq_true rfl⟩ (fun r σ16255 hp => ?_)
          obtain ⟨h16256, hp⟩ := hp
          have h16257 := HS.trans h16028 h16256 (by decide)
          have ga16258 := ga16031.of (h16256.2 (c + 1) (by rw [kC_at (k := 1) (by decide)]; decide))
          have ga16259 := hN3.of (h16256.2 (c + 2) (by rw [kC_at (k := 2) (by decide)]; decide))
          have ga16260 := hM3.of (h16256.2 (c + 3) (by rw [kC_at (k := 3) (by decide)]; decide))
          have ga16261 := hK3.of (h16256.2 (c + 7) (by rw [kC_at (k := 7) (by decide)]; decide))
          have ga16262 := hF3.of (h16256.2 (c + 8) (by rw [kC_at (k := 8) (by decide)]; decide))
          have ga16263 := hG3.of (h16256.2 (c + 9) (by rw [kC_at (k := 9) (by decide)]; decide))
          have ga16264 := hQ3.of (h16256.2 (c + 11) (by rw [kC_at (k := 11) (by decide)]; decide))
          obtain ⟨hp, rfl⟩ := hp
          have hyd16265 := hp
          obtain ⟨yd16265, yd16266, yd16267, yd16268, yd16269, yd16270, yd16271⟩ := hyd16265
          refine m_aload_n F rfl e_X10_readLine_166 ?_
          refine r_callV F e_X10_readLine_167 (q_X10_goOnG (x_l X) V c T 0 u h P16029 L _ _  1 h16257.1 (hob) oP16029  (yd16270) (by decide)) cb_X10_goOn ml_X10_154 im_X10_goOn se_X10_goOn h16257 rfl rfl (rest := []) rfl (Nat.le_of_ble_eq_true rfl) ⟨Nat.le_of_ble_eq_true rfl, Nat.le_of_ble_eq_true rfl⟩ ⟨Nat.le_of_ble_eq_true rfl, Nat.le_of_ble_eq_true rfl⟩ (fun r σ16272 hp => ?_)
          obtain ⟨h16273, hp⟩ := hp
          have h16274 := HS.trans h16257 h16273 (by decide)
          have ga16275 := ga16258.of (h16273.2 (c + 1) (by rw [kC_at (k := 1) (by decide)]; decide))
          have ga16276 := ga16259.of (h16273.2 (c + 2) (by rw [kC_at (k := 2) (by decide)]; decide))
          have ga16277 := ga16260.of (h16273.2 (c + 3) (by rw [kC_at (k := 3) (by decide)]; decide))
          have ga16278 := ga16261.of (h16273.2 (c + 7) (by rw [kC_at (k := 7) (by decide)]; decide))
          have ga16279 := ga16262.of (h16273.2 (c + 8) (by rw [kC_at (k := 8) (by decide)]; decide))
          have ga16280 := ga16263.of (h16273.2 (c + 9) (by rw [kC_at (k := 9) (by decide)]; decide))
          have ga16281 := ga16264.of (h16273.2 (c + 11) (by rw [kC_at (k := 11) (by decide)]; decide))
          obtain ⟨rfl, rfl⟩ := hp
          refine m_aload_n F rfl e_X10_readLine_170 ?_
          refine m_dup F rfl e_X10_readLine_171 ?_
          refine r_getC F e_X10_readLine_172 fl_X10_202 h16274 (yd16265) ?_
          refine m_iconst F (v := 1) (by decide) e_X10_readLine_175 ?_
          refine m_iadd F e_X10_readLine_176 ?_
          refine Wm.topE (w := nI (ln3 + 1)) (nI_add ln3 1) ?_
          refine r_put F (g' := (⟨T, 0, u, h, P16029, L⟩ : RG)) e_X10_readLine_177 fp_X10_202 h16274 (by decide) ⟨_, rfl⟩ (fun _ _ _ _ q => q) (fun _ _ _ q => q) rfl rfl (by decide) (fun σ16282 h16283 g16284 g16285 f16286 => ?_)
          have ga16287 := ga16258.of (g16284 _ (by omega))
          have ga16288 := ga16259.of (g16284 _ (by omega))
          have ga16289 := ga16260.of (g16284 _ (by omega))
          have ga16290 := ga16261.of (g16284 _ (by omega))
          have ga16291 := ga16262.of (g16284 _ (by omega))
          have ga16292 := ga16263.of (g16284 _ (by omega))
          have ga16293 := ga16264.of (g16284 _ (by omega))
          have h16294 : HS V c _ [0, 2, 17, 18, 19, 20, 21, 22, 23] _ _ := ⟨HR.mono (Z' := Z) (by intro e; first | rfl | assumption | omega) h16283.1, h16283.2⟩
          exact m_vret F hQ e_X10_readLine_180 (⟨P16029, oP16029, (by unfold RP; omega), (by rw [eo16038]; show RM _ c n _ (stopS (tok t n) (j1, 5, j3, j4) nl3 nm3 np3 nc3 lc3 no3 sd3 md3 ln3); rw [stopS_1 (by decide)]; exact RM.l ((g16285 23 (by decide)).trans yd16270) ((g16285 24 (by decide)).trans yd16271) (by omega) (by omega) (by omega)), (fun S2 hS _ => by rw [eo16038] at hS; replace hS : stopS (tok t n) (j1, 5, j3, j4) nl3 nm3 np3 nc3 lc3 no3 sd3 md3 ln3 = .inr S2 := hS; rw [stopS_1 (by decide)] at hS; cases hS), h16294, rfl⟩)
    · refine r_getC F e_X10_readLine_1 fl_X10_110 h1 (yd14104) ?_
      refine m_if_eq F e_X10_readLine_4 (fun _ => ?_) (fun q => absurd (by decide) q)
      refine m_aload_n F rfl e_X10_readLine_15 ?_
      refine r_getC F e_X10_readLine_16 fl_X10_120 h1 (yd14105) ?_
      refine m_if_ne F e_X10_readLine_19 (fun _ => ?_) (fun q => absurd q (by decide))
      refine m_aload_n F rfl e_X10_readLine_29 ?_
      refine r_getC F e_X10_readLine_30 fl_X10_120 h1 (yd14105) ?_
      refine m_iconst F (v := 1) (by decide) e_X10_readLine_33 ?_
      refine m_icmp_ne F e_X10_readLine_34 (fun _ => ?_) (fun q => absurd q (by decide))
      refine m_aload_n F rfl e_X10_readLine_44 ?_
      refine r_getC F e_X10_readLine_45 fl_X10_120 h1 (yd14105) ?_
      refine m_iconst F (v := 2) (by decide) e_X10_readLine_48 ?_
      refine m_icmp_eq F e_X10_readLine_49 (fun q => absurd q (by decide)) (fun _ => ?_)
      refine m_aload_n F rfl e_X10_readLine_52 ?_
      refine r_getC F e_X10_readLine_53 fl_X10_120 h1 (yd14105) ?_
      refine m_iconst F (v := 5) (by decide) e_X10_readLine_56 ?_
      refine m_icmp_ne F e_X10_readLine_57 (fun _ => ?_) (fun q => absurd q (by decide))
      refine m_aload_n F rfl e_X10_readLine_80 ?_
      refine r_getC F e_X10_readLine_81 fl_X10_120 h1 (yd14105) ?_
      refine m_iconst F (v := 3) (by decide) e_X10_readLine_84 ?_
      refine m_icmp_ne F e_X10_readLine_85 (fun _ => ?_) (fun q => absurd q (by decide))
      refine m_aload_n F rfl e_X10_readLine_95 ?_
      refine r_getC F e_X10_readLine_96 fl_X10_120 h1 (yd14105) ?_
      refine m_iconst F (v := 4) (by decide) e_X10_readLine_99 ?_
      refine m_icmp_ne F e_X10_readLine_100 (fun _ => ?_) (fun q => absurd q (by decide))
      refine m_aload_n F rfl e_X10_readLine_110 ?_
      refine r_getC F e_X10_readLine_111 fl_X10_120 h1 (yd14105) ?_
      refine m_bipush F (v := 6) (by decide) e_X10_readLine_114 ?_
      refine m_icmp_ne F e_X10_readLine_116 (fun _ => ?_) (fun q => absurd q (by decide))
      refine m_aload_n F rfl e_X10_readLine_126 ?_
      refine r_getC F e_X10_readLine_127 fl_X10_120 h1 (yd14105) ?_
      refine m_bipush F (v := 7) (by decide) e_X10_readLine_130 ?_
      refine m_icmp_ne F e_X10_readLine_132 (fun _ => ?_) (fun q => absurd q (by decide))
      refine m_aload_n F rfl e_X10_readLine_142 ?_
      refine r_callV F e_X10_readLine_143 (q_X10_readSeedE (x_l X) V c T Z u h P L _ _  n st 0 8 ln fp t 1 8 nm np lc no sd md h1.1 (hob) hP  ⟨(yd14101), (yd14102), (yd14103), (yd14104), (yd14105), (yd14106), (yd14107)⟩ hp1 hn7 (by omega) hp4 hp5 hp6 hp7 hp8 hp9 hp10 hp11 hp12 hp13 hp14) cb_X10_readSeed ml_X10_199 im_X10_readSeed se_X10_readSeed h1 rfl rfl (rest := []) rfl (Nat.le_of_ble_eq_true rfl) ⟨Nat.le_of_ble_eq_true rfl, Nat.le_of_ble_eq_true rfl⟩ ⟨Nat.le_of_ble_eq_true rfl, Nat.le_of_ble_eq_true rfl⟩ (fun r σ16295 hp => ?_)
      obtain ⟨P16298, oP16298, rP16298, pr16299, h16296, hp⟩ := hp
      have h16297 := HS.trans h1 h16296 (by decide)
      have xP16298 := oP16298
      unfold OKP at xP16298
      unfold RP at rP16298
      have ga16300 := hp1.of (h16296.2 (c + 1) (by rw [kC_at (k := 1) (by decide)]; decide))
      have ga16301 := hp7.of (h16296.2 (c + 3) (by rw [kC_at (k := 3) (by decide)]; decide))
      have ga16302 := hp8.of (h16296.2 (c + 7) (by rw [kC_at (k := 7) (by decide)]; decide))
      have ga16303 := hp9.of (h16296.2 (c + 8) (by rw [kC_at (k := 8) (by decide)]; decide))
      have ga16304 := hp10.of (h16296.2 (c + 9) (by rw [kC_at (k := 9) (by decide)]; decide))
      have ga16305 := hp11.of (h16296.2 (c + 11) (by rw [kC_at (k := 11) (by decide)]; decide))
      obtain rfl := hp
      have rm16306 : RM σ16295 c n P16298 (lineS (tok t n) (st, 1, 8, P.a) P.n5 nm np P.n7 lc no sd md ln) := by rw [lineS_8]; exact pr16299
      cases eo16307 : lineS (tok t n) (st, 1, 8, P.a) P.n5 nm np P.n7 lc no sd md ln with
      | inl e8 =>
        rw [eo16307] at rm16306
        obtain ⟨⟨fa16308, fb16309⟩, c1, c2, c3⟩ := rm16306
        have nz8 : nI e8.1 ≠ 0 := fun e => absurd (nI_inj9 (b := 0) (by omega) (by omega) e) (by omega)
        refine m_aload_n F rfl e_X10_readLine_146 ?_
        refine r_getC F e_X10_readLine_147 fl_X10_141 h16297 (fa16308) ?_
        refine m_if_ne F e_X10_readLine_150 (fun q150 => ?_) (fun q150 => ?_)
        · have c150 : e8.1 ≠ 0 := by have hh := mt (nI_eq (a := e8.1) (b := 0) (by omega) (by omega)).mpr q150; omega
          refine m_aload_n F rfl e_X10_readLine_166 ?_
          refine r_callV F e_X10_readLine_167 (q_X10_goOnG (x_l X) V c T Z u h P16298 L _ _  (nI e8.1) h16297.1 (hob) oP16298  (fa16308) (by assumption)) cb_X10_goOn ml_X10_154 im_X10_goOn se_X10_goOn h16297 rfl rfl (rest := []) rfl (Nat.le_of_ble_eq_true rfl) ⟨Nat.le_of_ble_eq_true rfl, Nat.le_of_ble_eq_true rfl⟩ ⟨Nat.le_of_ble_eq_true rfl, Nat.le_of_ble_eq_true rfl⟩ (fun r σ16310 hp => ?_)
          obtain ⟨h16311, hp⟩ := hp
          have h16312 := HS.trans h16297 h16311 (by decide)
          obtain ⟨rfl, rfl⟩ := hp
          refine m_aload_n F rfl e_X10_readLine_170 ?_
          refine m_dup F rfl e_X10_readLine_171 ?_
          refine r_get F e_X10_readLine_172 fl_X10_202 h16312 rfl (fun v hv f16313 => ?_)
          obtain ⟨x16314, rfl⟩ := hv
          refine m_iconst F (v := 1) (by decide) e_X10_readLine_175 ?_
          refine m_iadd F e_X10_readLine_176 ?_
          refine Wm.top (fun x16315 _ => ?_)
          refine r_put F (g' := (⟨T, Z, u, h, P16298, L⟩ : RG)) e_X10_readLine_177 fp_X10_202 h16312 (by decide) ⟨_, rfl⟩ (fun _ _ _ _ q => q) (fun _ _ _ q => q) rfl rfl (by decide) (fun σ16316 h16317 g16318 g16319 f16320 => ?_)
          exact m_vret F hQ e_X10_readLine_180 (⟨P16298, oP16298, (by unfold RP; omega), (by rw [eo16307]; show RM _ c n _ (.inl e8); exact RM.l ((g16319 23 (by decide)).trans fa16308) ((g16319 24 (by decide)).trans fb16309) (by omega) (by omega) (by omega)), (fun S2 hS _ => by rw [eo16307] at hS; cases hS), h16317, rfl⟩)
        · have c150 : e8.1 = 0 := (nI_eq (a := e8.1) (b := 0) (by omega) (by omega)).mp q150
          exact absurd q150 nz8
      | inr S1 =>
        rw [eo16307] at rm16306
        obtain ⟨⟨j1, j2, j3, j4⟩, nl3, nm3, np3, nc3, lc3, no3, sd3, md3, ln3⟩ := S1
        obtain ⟨so3, va3, fp3, mt3, yd3, ⟨pa3, p53, p73⟩, hN3, hM3, hK3, hF3, hG3, hQ3, c1, c2, c3, c4, c5⟩ := rm16306
        replace pa3 : _ = j4 := pa3
        replace c1 : j4 ≤ n := c1
        replace c2 : j1 ≤ n := c2
        have hyd16321 := yd3
        obtain ⟨yd16321, yd16322, yd16323, yd16324, yd16325, yd16326, yd16327⟩ := hyd16321
        refine m_aload_n F rfl e_X10_readLine_146 ?_
        refine r_getC F e_X10_readLine_147 fl_X10_141 h16297 (yd16326) ?_
        refine m_if_ne F e_X10_readLine_150 (fun q => absurd (by decide) q) (fun _ => ?_)
        refine m_aload_n F rfl e_X10_readLine_153 ?_
        have hmt := mt3
        rcases hmt with ⟨rfl, rfl⟩ | ⟨rfl, rfl, rfl, hv3⟩ | ⟨rfl, rfl, rfl, hv3⟩ | ⟨rfl, rfl, w3, hw3, rfl, hm3⟩ | ⟨rfl, rfl⟩ | ⟨rfl, rfl⟩
        · refine r_getC F e_X10_readLine_154 fl_X10_110 h16297 (yd16324) ?_
          refine m_iconst F (v := 3) (by decide) e_X10_readLine_157 ?_
          refine m_icmp_eq F e_X10_readLine_158 (fun q => absurd q (by decide)) (fun _ => ?_)
          refine m_aload_n F rfl e_X10_readLine_161 ?_
          refine m_iconst F (v := 1) (by decide) e_X10_readLine_162 ?_
          refine r_callV F e_X10_readLine_163 (q_X10_wrongE (x_l X) V c T Z u h P16298 L _ _ 1 n j1 4 va3 ln3 fp3 h16297.1 (hob) oP16298 (by omega) ⟨(yd16321), (yd16322), (yd16323), (yd16324), (yd16325), (yd16326), (yd16327)⟩ (by decide)) cb_X10_wrong ml_X10_150 im_X10_wrong se_X10_wrong h16297 rfl rfl (rest := []) rfl (Nat.le_of_ble_eq_true rfl) ⟨Nat.le_of_ble_eq_true rfl, Nat.le_of_ble_eq_true rfl⟩ ⟨Nat.le_of_ble_eq_true rfl, Nat.le_of_ble_eq_true rfl⟩ (fun r σ16328 hp => ?_)
          obtain ⟨h16329, hp⟩ := hp
          have h16330 := HS.trans h16297 h16329 (by decide)
          have ga16331 := ga16300.of (h16329.2 (c + 1) (by rw [kC_at (k := 1) (by decide)]; decide))
          have ga16332 := hN3.of (h16329.2 (c + 2) (by rw [kC_at (k := 2) (by decide)]; decide))
          have ga16333 := hM3.of (h16329.2 (c + 3) (by rw [kC_at (k := 3) (by decide)]; decide))
          have ga16334 := hK3.of (h16329.2 (c + 7) (by rw [kC_at (k := 7) (by decide)]; decide))
          have ga16335 := hF3.of (h16329.2 (c + 8) (by rw [kC_at (k := 8) (by decide)]; decide))
          have ga16336 := hG3.of (h16329.2 (c + 9) (by rw [kC_at (k := 9) (by decide)]; decide))
          have ga16337 := hQ3.of (h16329.2 (c + 11) (by rw [kC_at (k := 11) (by decide)]; decide))
          obtain ⟨hp, rfl⟩ := hp
          have hyd16338 := hp
          obtain ⟨yd16338, yd16339, yd16340, yd16341, yd16342, yd16343, yd16344⟩ := hyd16338
          refine m_aload_n F rfl e_X10_readLine_166 ?_
          refine r_callV F e_X10_readLine_167 (q_X10_goOnG (x_l X) V c T 0 u h P16298 L _ _  1 h16330.1 (hob) oP16298  (yd16343) (by decide)) cb_X10_goOn ml_X10_154 im_X10_goOn se_X10_goOn h16330 rfl rfl (rest := []) rfl (Nat.le_of_ble_eq_true rfl) ⟨Nat.le_of_ble_eq_true rfl, Nat.le_of_ble_eq_true rfl⟩ ⟨Nat.le_of_ble_eq_true rfl, Nat.le_of_ble_eq_true rfl⟩ (fun r σ16345 hp => ?_)
          obtain ⟨h16346, hp⟩ := hp
          have h16347 := HS.trans h16330 h16346 (by decide)
          have ga16348 := ga16331.of (h16346.2 (c + 1) (by rw [kC_at (k := 1) (by decide)]; decide))
          have ga16349 := ga16332.of (h16346.2 (c + 2) (by rw [kC_at (k := 2) (by decide)]; decide))
          have ga16350 := ga16333.of (h16346.2 (c + 3) (by rw [kC_at (k := 3) (by decide)]; decide))
          have ga16351 := ga16334.of (h16346.2 (c + 7) (by rw [kC_at (k := 7) (by decide)]; decide))
          have ga16352 := ga16335.of (h16346.2 (c + 8) (by rw [kC_at (k := 8) (by decide)]; decide))
          have ga16353 := ga16336.of (h16346.2 (c + 9) (by rw [kC_at (k := 9) (by decide)]; decide))
          have ga16354 := ga16337.of (h16346.2 (c + 11) (by rw [kC_at (k := 11) (by decide)]; decide))
          obtain ⟨rfl, rfl⟩ := hp
          refine m_aload_n F rfl e_X10_readLine_170 ?_
          refine m_dup F rfl e_X10_readLine_171 ?_
          refine r_getC F e_X10_readLine_172 fl_X10_202 h16347 (yd16338) ?_
          refine m_iconst F (v := 1) (by decide) e_X10_readLine_175 ?_
          refine m_iadd F e_X10_readLine_176 ?_
          refine Wm.topE (w := nI (ln3 + 1)) (nI_add ln3 1) ?_
          refine r_put F (g' := (⟨T, 0, u, h, P16298, L⟩ : RG)) e_X10_readLine_177 fp_X10_202 h16347 (by decide) ⟨_, rfl⟩ (fun _ _ _ _ q => q) (fun _ _ _ q => q) rfl rfl (by decide) (fun σ16355 h16356 g16357 g16358 f16359 => ?_)
          have ga16360 := ga16331.of (g16357 _ (by omega))
          have ga16361 := ga16332.of (g16357 _ (by omega))
          have ga16362 := ga16333.of (g16357 _ (by omega))
          have ga16363 := ga16334.of (g16357 _ (by omega))
          have ga16364 := ga16335.of (g16357 _ (by omega))
          have ga16365 := ga16336.of (g16357 _ (by omega))
          have ga16366 := ga16337.of (g16357 _ (by omega))
          have h16367 : HS V c _ [0, 2, 17, 18, 19, 20, 21, 22, 23] _ _ := ⟨HR.mono (Z' := Z) (by intro e; first | rfl | assumption | omega) h16356.1, h16356.2⟩
          exact m_vret F hQ e_X10_readLine_180 (⟨P16298, oP16298, (by unfold RP; omega), (by rw [eo16307]; show RM _ c n _ (stopS (tok t n) (j1, 0, j3, j4) nl3 nm3 np3 nc3 lc3 no3 sd3 md3 ln3); rw [stopS_1 (by decide)]; exact RM.l ((g16358 23 (by decide)).trans yd16343) ((g16358 24 (by decide)).trans yd16344) (by omega) (by omega) (by omega)), (fun S2 hS _ => by rw [eo16307] at hS; replace hS : stopS (tok t n) (j1, 0, j3, j4) nl3 nm3 np3 nc3 lc3 no3 sd3 md3 ln3 = .inr S2 := hS; rw [stopS_1 (by decide)] at hS; cases hS), h16367, rfl⟩)
        · refine r_getC F e_X10_readLine_154 fl_X10_110 h16297 (yd16324) ?_
          refine m_iconst F (v := 3) (by decide) e_X10_readLine_157 ?_
          refine m_icmp_eq F e_X10_readLine_158 (fun q => absurd q (by decide)) (fun _ => ?_)
          refine m_aload_n F rfl e_X10_readLine_161 ?_
          refine m_iconst F (v := 1) (by decide) e_X10_readLine_162 ?_
          refine r_callV F e_X10_readLine_163 (q_X10_wrongE (x_l X) V c T Z u h P16298 L _ _ 1 n j1 0 (nI j3) ln3 fp3 h16297.1 (hob) oP16298 (by omega) ⟨(yd16321), (yd16322), (yd16323), (yd16324), (yd16325), (yd16326), (yd16327)⟩ (by decide)) cb_X10_wrong ml_X10_150 im_X10_wrong se_X10_wrong h16297 rfl rfl (rest := []) rfl (Nat.le_of_ble_eq_true rfl) ⟨Nat.le_of_ble_eq_true rfl, Nat.le_of_ble_eq_true rfl⟩ ⟨Nat.le_of_ble_eq_true rfl, Nat.le_of_ble_eq_true rfl⟩ (fun r σ16368 hp => ?_)
          obtain ⟨h16369, hp⟩ := hp
          have h16370 := HS.trans h16297 h16369 (by decide)
          have ga16371 := ga16300.of (h16369.2 (c + 1) (by rw [kC_at (k := 1) (by decide)]; decide))
          have ga16372 := hN3.of (h16369.2 (c + 2) (by rw [kC_at (k := 2) (by decide)]; decide))
          have ga16373 := hM3.of (h16369.2 (c + 3) (by rw [kC_at (k := 3) (by decide)]; decide))
          have ga16374 := hK3.of (h16369.2 (c + 7) (by rw [kC_at (k := 7) (by decide)]; decide))
          have ga16375 := hF3.of (h16369.2 (c + 8) (by rw [kC_at (k := 8) (by decide)]; decide))
          have ga16376 := hG3.of (h16369.2 (c + 9) (by rw [kC_at (k := 9) (by decide)]; decide))
          have ga16377 := hQ3.of (h16369.2 (c + 11) (by rw [kC_at (k := 11) (by decide)]; decide))
          obtain ⟨hp, rfl⟩ := hp
          have hyd16378 := hp
          obtain ⟨yd16378, yd16379, yd16380, yd16381, yd16382, yd16383, yd16384⟩ := hyd16378
          refine m_aload_n F rfl e_X10_readLine_166 ?_
          refine r_callV F e_X10_readLine_167 (q_X10_goOnG (x_l X) V c T 0 u h P16298 L _ _  1 h16370.1 (hob) oP16298  (yd16383) (by decide)) cb_X10_goOn ml_X10_154 im_X10_goOn se_X10_goOn h16370 rfl rfl (rest := []) rfl (Nat.le_of_ble_eq_true rfl) ⟨Nat.le_of_ble_eq_true rfl, Nat.le_of_ble_eq_true rfl⟩ ⟨Nat.le_of_ble_eq_true rfl, Nat.le_of_ble_eq_true rfl⟩ (fun r σ16385 hp => ?_)
          obtain ⟨h16386, hp⟩ := hp
          have h16387 := HS.trans h16370 h16386 (by decide)
          have ga16388 := ga16371.of (h16386.2 (c + 1) (by rw [kC_at (k := 1) (by decide)]; decide))
          have ga16389 := ga16372.of (h16386.2 (c + 2) (by rw [kC_at (k := 2) (by decide)]; decide))
          have ga16390 := ga16373.of (h16386.2 (c + 3) (by rw [kC_at (k := 3) (by decide)]; decide))
          have ga16391 := ga16374.of (h16386.2 (c + 7) (by rw [kC_at (k := 7) (by decide)]; decide))
          have ga16392 := ga16375.of (h16386.2 (c + 8) (by rw [kC_at (k := 8) (by decide)]; decide))
          have ga16393 := ga16376.of (h16386.2 (c + 9) (by rw [kC_at (k := 9) (by decide)]; decide))
          have ga16394 := ga16377.of (h16386.2 (c + 11) (by rw [kC_at (k := 11) (by decide)]; decide))
          obtain ⟨rfl, rfl⟩ := hp
          refine m_aload_n F rfl e_X10_readLine_170 ?_
          refine m_dup F rfl e_X10_readLine_171 ?_
          refine r_getC F e_X10_readLine_172 fl_X10_202 h16387 (yd16378) ?_
          refine m_iconst F (v := 1) (by decide) e_X10_readLine_175 ?_
          refine m_iadd F e_X10_readLine_176 ?_
          refine Wm.topE (w := nI (ln3 + 1)) (nI_add ln3 1) ?_
          refine r_put F (g' := (⟨T, 0, u, h, P16298, L⟩ : RG)) e_X10_readLine_177 fp_X10_202 h16387 (by decide) ⟨_, rfl⟩ (fun _ _ _ _ q => q) (fun _ _ _ q => q) rfl rfl (by decide) (fun σ16395 h16396 g16397 g16398 f16399 => ?_)
          have ga16400 := ga16371.of (g16397 _ (by omega))
          have ga16401 := ga16372.of (g16397 _ (by omega))
          have ga16402 := ga16373.of (g16397 _ (by omega))
          have ga16403 := ga16374.of (g16397 _ (by omega))
          have ga16404 := ga16375.of (g16397 _ (by omega))
          have ga16405 := ga16376.of (g16397 _ (by omega))
          have ga16406 := ga16377.of (g16397 _ (by omega))
          have h16407 : HS V c _ [0, 2, 17, 18, 19, 20, 21, 22, 23] _ _ := ⟨HR.mono (Z' := Z) (by intro e; first | rfl | assumption | omega) h16396.1, h16396.2⟩
          exact m_vret F hQ e_X10_readLine_180 (⟨P16298, oP16298, (by unfold RP; omega), (by rw [eo16307]; show RM _ c n _ (stopS (tok t n) (j1, 1, j3, j4) nl3 nm3 np3 nc3 lc3 no3 sd3 md3 ln3); rw [stopS_1 (by decide)]; exact RM.l ((g16398 23 (by decide)).trans yd16383) ((g16398 24 (by decide)).trans yd16384) (by omega) (by omega) (by omega)), (fun S2 hS _ => by rw [eo16307] at hS; replace hS : stopS (tok t n) (j1, 1, j3, j4) nl3 nm3 np3 nc3 lc3 no3 sd3 md3 ln3 = .inr S2 := hS; rw [stopS_1 (by decide)] at hS; cases hS), h16407, rfl⟩)
        · refine r_getC F e_X10_readLine_154 fl_X10_110 h16297 (yd16324) ?_
          refine m_iconst F (v := 3) (by decide) e_X10_readLine_157 ?_
          refine m_icmp_eq F e_X10_readLine_158 (fun q => absurd q (by decide)) (fun _ => ?_)
          refine m_aload_n F rfl e_X10_readLine_161 ?_
          refine m_iconst F (v := 1) (by decide) e_X10_readLine_162 ?_
          refine r_callV F e_X10_readLine_163 (q_X10_wrongE (x_l X) V c T Z u h P16298 L _ _ 1 n j1 1 (nI j3) ln3 fp3 h16297.1 (hob) oP16298 (by omega) ⟨(yd16321), (yd16322), (yd16323), (yd16324), (yd16325), (yd16326), (yd16327)⟩ (by decide)) cb_X10_wrong ml_X10_150 im_X10_wrong se_X10_wrong h16297 rfl rfl (rest := []) rfl (Nat.le_of_ble_eq_true rfl) ⟨Nat.le_of_ble_eq_true rfl, Nat.le_of_ble_eq_true rfl⟩ ⟨Nat.le_of_ble_eq_true rfl, Nat.le_of_ble_eq_true rfl⟩ (fun r σ16408 hp => ?_)
          obtain ⟨h16409, hp⟩ := hp
          have h16410 := HS.trans h16297 h16409 (by decide)
          have ga16411 := ga16300.of (h16409.2 (c + 1) (by rw [kC_at (k := 1) (by decide)]; decide))
          have ga16412 := hN3.of (h16409.2 (c + 2) (by rw [kC_at (k := 2) (by decide)]; decide))
          have ga16413 := hM3.of (h16409.2 (c + 3) (by rw [kC_at (k := 3) (by decide)]; decide))
          have ga16414 := hK3.of (h16409.2 (c + 7) (by rw [kC_at (k := 7) (by decide)]; decide))
          have ga16415 := hF3.of (h16409.2 (c + 8) (by rw [kC_at (k := 8) (by decide)]; decide))
          have ga16416 := hG3.of (h16409.2 (c + 9) (by rw [kC_at (k := 9) (by decide)]; decide))
          have ga16417 := hQ3.of (h16409.2 (c + 11) (by rw [kC_at (k := 11) (by decide)]; decide))
          obtain ⟨hp, rfl⟩ := hp
          have hyd16418 := hp
          obtain ⟨yd16418, yd16419, yd16420, yd16421, yd16422, yd16423, yd16424⟩ := hyd16418
          refine m_aload_n F rfl e_X10_readLine_166 ?_
          refine r_callV F e_X10_readLine_167 (q_X10_goOnG (x_l X) V c T 0 u h P16298 L _ _  1 h16410.1 (hob) oP16298  (yd16423) (by decide)) cb_X10_goOn ml_X10_154 im_X10_goOn se_X10_goOn h16410 rfl rfl (rest := []) rfl (Nat.le_of_ble_eq_true rfl) ⟨Nat.le_of_ble_eq_true rfl, Nat.le_of_ble_eq_true rfl⟩ ⟨Nat.le_of_ble_eq_true rfl, Nat.le_of_ble_eq_true rfl⟩ (fun r σ16425 hp => ?_)
          obtain ⟨h16426, hp⟩ := hp
          have h16427 := HS.trans h16410 h16426 (by decide)
          have ga16428 := ga16411.of (h16426.2 (c + 1) (by rw [kC_at (k := 1) (by decide)]; decide))
          have ga16429 := ga16412.of (h16426.2 (c + 2) (by rw [kC_at (k := 2) (by decide)]; decide))
          have ga16430 := ga16413.of (h16426.2 (c + 3) (by rw [kC_at (k := 3) (by decide)]; decide))
          have ga16431 := ga16414.of (h16426.2 (c + 7) (by rw [kC_at (k := 7) (by decide)]; decide))
          have ga16432 := ga16415.of (h16426.2 (c + 8) (by rw [kC_at (k := 8) (by decide)]; decide))
          have ga16433 := ga16416.of (h16426.2 (c + 9) (by rw [kC_at (k := 9) (by decide)]; decide))
          have ga16434 := ga16417.of (h16426.2 (c + 11) (by rw [kC_at (k := 11) (by decide)]; decide))
          obtain ⟨rfl, rfl⟩ := hp
          refine m_aload_n F rfl e_X10_readLine_170 ?_
          refine m_dup F rfl e_X10_readLine_171 ?_
          refine r_getC F e_X10_readLine_172 fl_X10_202 h16427 (yd16418) ?_
          refine m_iconst F (v := 1) (by decide) e_X10_readLine_175 ?_
          refine m_iadd F e_X10_readLine_176 ?_
          refine Wm.topE (w := nI (ln3 + 1)) (nI_add ln3 1) ?_
          refine r_put F (g' := (⟨T, 0, u, h, P16298, L⟩ : RG)) e_X10_readLine_177 fp_X10_202 h16427 (by decide) ⟨_, rfl⟩ (fun _ _ _ _ q => q) (fun _ _ _ q => q) rfl rfl (by decide) (fun σ16435 h16436 g16437 g16438 f16439 => ?_)
          have ga16440 := ga16411.of (g16437 _ (by omega))
          have ga16441 := ga16412.of (g16437 _ (by omega))
          have ga16442 := ga16413.of (g16437 _ (by omega))
          have ga16443 := ga16414.of (g16437 _ (by omega))
          have ga16444 := ga16415.of (g16437 _ (by omega))
          have ga16445 := ga16416.of (g16437 _ (by omega))
          have ga16446 := ga16417.of (g16437 _ (by omega))
          have h16447 : HS V c _ [0, 2, 17, 18, 19, 20, 21, 22, 23] _ _ := ⟨HR.mono (Z' := Z) (by intro e; first | rfl | assumption | omega) h16436.1, h16436.2⟩
          exact m_vret F hQ e_X10_readLine_180 (⟨P16298, oP16298, (by unfold RP; omega), (by rw [eo16307]; show RM _ c n _ (stopS (tok t n) (j1, 2, j3, j4) nl3 nm3 np3 nc3 lc3 no3 sd3 md3 ln3); rw [stopS_1 (by decide)]; exact RM.l ((g16438 23 (by decide)).trans yd16423) ((g16438 24 (by decide)).trans yd16424) (by omega) (by omega) (by omega)), (fun S2 hS _ => by rw [eo16307] at hS; replace hS : stopS (tok t n) (j1, 2, j3, j4) nl3 nm3 np3 nc3 lc3 no3 sd3 md3 ln3 = .inr S2 := hS; rw [stopS_1 (by decide)] at hS; cases hS), h16447, rfl⟩)
        · refine r_getC F e_X10_readLine_154 fl_X10_110 h16297 (yd16324) ?_
          refine m_iconst F (v := 3) (by decide) e_X10_readLine_157 ?_
          refine m_icmp_eq F e_X10_readLine_158 (fun q => absurd q (by decide)) (fun _ => ?_)
          refine m_aload_n F rfl e_X10_readLine_161 ?_
          refine m_iconst F (v := 1) (by decide) e_X10_readLine_162 ?_
          refine r_callV F e_X10_readLine_163 (q_X10_wrongE (x_l X) V c T Z u h P16298 L _ _ 1 n j1 2 (nI w3) ln3 fp3 h16297.1 (hob) oP16298 (by omega) ⟨(yd16321), (yd16322), (yd16323), (yd16324), (yd16325), (yd16326), (yd16327)⟩ (by decide)) cb_X10_wrong ml_X10_150 im_X10_wrong se_X10_wrong h16297 rfl rfl (rest := []) rfl (Nat.le_of_ble_eq_true rfl) ⟨Nat.le_of_ble_eq_true rfl, Nat.le_of_ble_eq_true rfl⟩ ⟨Nat.le_of_ble_eq_true rfl, Nat.le_of_ble_eq_true rfl⟩ (fun r σ16448 hp => ?_)
          obtain ⟨h16449, hp⟩ := hp
          have h16450 := HS.trans h16297 h16449 (by decide)
          have ga16451 := ga16300.of (h16449.2 (c + 1) (by rw [kC_at (k := 1) (by decide)]; decide))
          have ga16452 := hN3.of (h16449.2 (c + 2) (by rw [kC_at (k := 2) (by decide)]; decide))
          have ga16453 := hM3.of (h16449.2 (c + 3) (by rw [kC_at (k := 3) (by decide)]; decide))
          have ga16454 := hK3.of (h16449.2 (c + 7) (by rw [kC_at (k := 7) (by decide)]; decide))
          have ga16455 := hF3.of (h16449.2 (c + 8) (by rw [kC_at (k := 8) (by decide)]; decide))
          have ga16456 := hG3.of (h16449.2 (c + 9) (by rw [kC_at (k := 9) (by decide)]; decide))
          have ga16457 := hQ3.of (h16449.2 (c + 11) (by rw [kC_at (k := 11) (by decide)]; decide))
          obtain ⟨hp, rfl⟩ := hp
          have hyd16458 := hp
          obtain ⟨yd16458, yd16459, yd16460, yd16461, yd16462, yd16463, yd16464⟩ := hyd16458
          refine m_aload_n F rfl e_X10_readLine_166 ?_
          refine r_callV F e_X10_readLine_167 (q_X10_goOnG (x_l X) V c T 0 u h P16298 L _ _  1 h16450.1 (hob) oP16298  (yd16463) (by decide)) cb_X10_goOn ml_X10_154 im_X10_goOn se_X10_goOn h16450 rfl rfl (rest := []) rfl (Nat.le_of_ble_eq_true rfl) ⟨Nat.le_of_ble_eq_true rfl, Nat.le_of_ble_eq_true rfl⟩ ⟨Nat.le_of_ble_eq_true rfl, Nat.le_of_ble_eq_true rfl⟩ (fun r σ16465 hp => ?_)
          obtain ⟨h16466, hp⟩ := hp
          have h16467 := HS.trans h16450 h16466 (by decide)
          have ga16468 := ga16451.of (h16466.2 (c + 1) (by rw [kC_at (k := 1) (by decide)]; decide))
          have ga16469 := ga16452.of (h16466.2 (c + 2) (by rw [kC_at (k := 2) (by decide)]; decide))
          have ga16470 := ga16453.of (h16466.2 (c + 3) (by rw [kC_at (k := 3) (by decide)]; decide))
          have ga16471 := ga16454.of (h16466.2 (c + 7) (by rw [kC_at (k := 7) (by decide)]; decide))
          have ga16472 := ga16455.of (h16466.2 (c + 8) (by rw [kC_at (k := 8) (by decide)]; decide))
          have ga16473 := ga16456.of (h16466.2 (c + 9) (by rw [kC_at (k := 9) (by decide)]; decide))
          have ga16474 := ga16457.of (h16466.2 (c + 11) (by rw [kC_at (k := 11) (by decide)]; decide))
          obtain ⟨rfl, rfl⟩ := hp
          refine m_aload_n F rfl e_X10_readLine_170 ?_
          refine m_dup F rfl e_X10_readLine_171 ?_
          refine r_getC F e_X10_readLine_172 fl_X10_202 h16467 (yd16458) ?_
          refine m_iconst F (v := 1) (by decide) e_X10_readLine_175 ?_
          refine m_iadd F e_X10_readLine_176 ?_
          refine Wm.topE (w := nI (ln3 + 1)) (nI_add ln3 1) ?_
          refine r_put F (g' := (⟨T, 0, u, h, P16298, L⟩ : RG)) e_X10_readLine_177 fp_X10_202 h16467 (by decide) ⟨_, rfl⟩ (fun _ _ _ _ q => q) (fun _ _ _ q => q) rfl rfl (by decide) (fun σ16475 h16476 g16477 g16478 f16479 => ?_)
          have ga16480 := ga16451.of (g16477 _ (by omega))
          have ga16481 := ga16452.of (g16477 _ (by omega))
          have ga16482 := ga16453.of (g16477 _ (by omega))
          have ga16483 := ga16454.of (g16477 _ (by omega))
          have ga16484 := ga16455.of (g16477 _ (by omega))
          have ga16485 := ga16456.of (g16477 _ (by omega))
          have ga16486 := ga16457.of (g16477 _ (by omega))
          have h16487 : HS V c _ [0, 2, 17, 18, 19, 20, 21, 22, 23] _ _ := ⟨HR.mono (Z' := Z) (by intro e; first | rfl | assumption | omega) h16476.1, h16476.2⟩
          exact m_vret F hQ e_X10_readLine_180 (⟨P16298, oP16298, (by unfold RP; omega), (by rw [eo16307]; show RM _ c n _ (stopS (tok t n) (j1, 3, j3, j4) nl3 nm3 np3 nc3 lc3 no3 sd3 md3 ln3); rw [stopS_1 (by decide)]; exact RM.l ((g16478 23 (by decide)).trans yd16463) ((g16478 24 (by decide)).trans yd16464) (by omega) (by omega) (by omega)), (fun S2 hS _ => by rw [eo16307] at hS; replace hS : stopS (tok t n) (j1, 3, j3, j4) nl3 nm3 np3 nc3 lc3 no3 sd3 md3 ln3 = .inr S2 := hS; rw [stopS_1 (by decide)] at hS; cases hS), h16487, rfl⟩)
        · refine r_getC F e_X10_readLine_154 fl_X10_110 h16297 (yd16324) ?_
          refine m_iconst F (v := 3) (by decide) e_X10_readLine_157 ?_
          refine m_icmp_eq F e_X10_readLine_158 (fun _ => ?_) (fun q => absurd (by decide) q)
          refine m_aload_n F rfl e_X10_readLine_166 ?_
          refine r_callV F e_X10_readLine_167 (q_X10_goOnE (x_l X) V c T Z u h P16298 L _ _  n j1 3 va3 ln3 fp3 t h16297.1 (hob) oP16298  ⟨(yd16321), (yd16322), (yd16323), (yd16324), (yd16325), (yd16326), (yd16327)⟩ ga16300 hn7 (by omega)) cb_X10_goOn ml_X10_154 im_X10_goOn se_X10_goOn h16297 rfl rfl (rest := []) rfl (Nat.le_of_ble_eq_true rfl) ⟨Nat.le_of_ble_eq_true rfl, Nat.le_of_ble_eq_true rfl⟩ ⟨Nat.le_of_ble_eq_true rfl, Nat.le_of_ble_eq_true rfl⟩ (fun r σ16488 hp => ?_)
          obtain ⟨P16491, oP16491, rP16491, pr16492, pr16493, h16489, hp⟩ := hp
          have h16490 := HS.trans h16297 h16489 (by decide)
          have xP16491 := oP16491
          unfold OKP at xP16491
          unfold RA at rP16491
          have ga16494 := ga16300.of (h16489.2 (c + 1) (by rw [kC_at (k := 1) (by decide)]; decide))
          have ga16495 := hN3.of (h16489.2 (c + 2) (by rw [kC_at (k := 2) (by decide)]; decide))
          have ga16496 := hM3.of (h16489.2 (c + 3) (by rw [kC_at (k := 3) (by decide)]; decide))
          have ga16497 := hK3.of (h16489.2 (c + 7) (by rw [kC_at (k := 7) (by decide)]; decide))
          have ga16498 := hF3.of (h16489.2 (c + 8) (by rw [kC_at (k := 8) (by decide)]; decide))
          have ga16499 := hG3.of (h16489.2 (c + 9) (by rw [kC_at (k := 9) (by decide)]; decide))
          have ga16500 := hQ3.of (h16489.2 (c + 11) (by rw [kC_at (k := 11) (by decide)]; decide))
          obtain rfl := hp
          rw [pa3] at pr16492 pr16493
          have b8 := tok_ok (t := t) (n := n) j4 c1
          obtain ⟨so16501, va16502, mt16503, yd16504⟩ := pr16493
          have hyd16505 := yd16504
          obtain ⟨yd16505, yd16506, yd16507, yd16508, yd16509, yd16510, yd16511⟩ := hyd16505
          refine m_aload_n F rfl e_X10_readLine_170 ?_
          refine m_dup F rfl e_X10_readLine_171 ?_
          refine r_getC F e_X10_readLine_172 fl_X10_202 h16490 (yd16505) ?_
          refine m_iconst F (v := 1) (by decide) e_X10_readLine_175 ?_
          refine m_iadd F e_X10_readLine_176 ?_
          refine Wm.topE (w := nI (ln3 + 1)) (nI_add ln3 1) ?_
          refine r_put F (g' := (⟨T, Z, u, h, P16491, L⟩ : RG)) e_X10_readLine_177 fp_X10_202 h16490 (by decide) ⟨_, rfl⟩ (fun _ _ _ _ q => q) (fun _ _ _ q => q) rfl rfl (by decide) (fun σ16512 h16513 g16514 g16515 f16516 => ?_)
          have ga16517 := ga16494.of (g16514 _ (by omega))
          have ga16518 := ga16495.of (g16514 _ (by omega))
          have ga16519 := ga16496.of (g16514 _ (by omega))
          have ga16520 := ga16497.of (g16514 _ (by omega))
          have ga16521 := ga16498.of (g16514 _ (by omega))
          have ga16522 := ga16499.of (g16514 _ (by omega))
          have ga16523 := ga16500.of (g16514 _ (by omega))
          exact m_vret F hQ e_X10_readLine_180 (⟨P16491, oP16491, (by unfold RP; omega), (by rw [eo16307]; show RM _ c n _ (stopS (tok t n) (j1, 4, j3, j4) nl3 nm3 np3 nc3 lc3 no3 sd3 md3 ln3); rw [stopS_ok]; exact RM.r mt16503 ⟨(f16516), ((g16515 18 (by decide)).trans yd16506), ((g16515 20 (by decide)).trans yd16507), ((g16515 21 (by decide)).trans yd16508), ((g16515 22 (by decide)).trans yd16509), ((g16515 23 (by decide)).trans yd16510), ((g16515 24 (by decide)).trans yd16511)⟩ (by omega) (by omega) (by omega) ga16518 ga16519 ga16520 ga16521 ga16522 ga16523 (by omega) (by omega) (by omega) (by omega) (by omega)), (fun S2 hS hz => by rw [eo16307] at hS; replace hS : stopS (tok t n) (j1, 4, j3, j4) nl3 nm3 np3 nc3 lc3 no3 sd3 md3 ln3 = .inr S2 := hS; rw [stopS_ok] at hS; cases hS; replace hz : (tok t n j4).2.1 ≠ 0 := hz; have h8 := b8.2.2.2 hz; omega), h16513, rfl⟩)
        · refine r_getC F e_X10_readLine_154 fl_X10_110 h16297 (yd16324) ?_
          refine m_iconst F (v := 3) (by decide) e_X10_readLine_157 ?_
          refine m_icmp_eq F e_X10_readLine_158 (fun q => absurd q (by decide)) (fun _ => ?_)
          refine m_aload_n F rfl e_X10_readLine_161 ?_
          refine m_iconst F (v := 1) (by decide) e_X10_readLine_162 ?_
          refine r_callV F e_X10_readLine_163 (q_X10_wrongE (x_l X) V c T Z u h P16298 L _ _ 1 n j1 5 va3 ln3 fp3 h16297.1 (hob) oP16298 (by omega) ⟨(yd16321), (yd16322), (yd16323), (yd16324), (yd16325), (yd16326), (yd16327)⟩ (by decide)) cb_X10_wrong ml_X10_150 im_X10_wrong se_X10_wrong h16297 rfl rfl (rest := []) rfl (Nat.le_of_ble_eq_true rfl) ⟨Nat.le_of_ble_eq_true rfl, Nat.le_of_ble_eq_true rfl⟩ ⟨Nat.le_of_ble_eq_true rfl, Nat.le_of_ble_eq_true rfl⟩ (fun r σ16524 hp => ?_)
          obtain ⟨h16525, hp⟩ := hp
          have h16526 := HS.trans h16297 h16525 (by decide)
          have ga16527 := ga16300.of (h16525.2 (c + 1) (by rw [kC_at (k := 1) (by decide)]; decide))
          have ga16528 := hN3.of (h16525.2 (c + 2) (by rw [kC_at (k := 2) (by decide)]; decide))
          have ga16529 := hM3.of (h16525.2 (c + 3) (by rw [kC_at (k := 3) (by decide)]; decide))
          have ga16530 := hK3.of (h16525.2 (c + 7) (by rw [kC_at (k := 7) (by decide)]; decide))
          have ga16531 := hF3.of (h16525.2 (c + 8) (by rw [kC_at (k := 8) (by decide)]; decide))
          have ga16532 := hG3.of (h16525.2 (c + 9) (by rw [kC_at (k := 9) (by decide)]; decide))
          have ga16533 := hQ3.of (h16525.2 (c + 11) (by rw [kC_at (k := 11) (by decide)]; decide))
          obtain ⟨hp, rfl⟩ := hp
          have hyd16534 := hp
          obtain ⟨yd16534, yd16535, yd16536, yd16537, yd16538, yd16539, yd16540⟩ := hyd16534
          refine m_aload_n F rfl e_X10_readLine_166 ?_
          refine r_callV F e_X10_readLine_167 (q_X10_goOnG (x_l X) V c T 0 u h P16298 L _ _  1 h16526.1 (hob) oP16298  (yd16539) (by decide)) cb_X10_goOn ml_X10_154 im_X10_goOn se_X10_goOn h16526 rfl rfl (rest := []) rfl (Nat.le_of_ble_eq_true rfl) ⟨Nat.le_of_ble_eq_true rfl, Nat.le_of_ble_eq_true rfl⟩ ⟨Nat.le_of_ble_eq_true rfl, Nat.le_of_ble_eq_true rfl⟩ (fun r σ16541 hp => ?_)
          obtain ⟨h16542, hp⟩ := hp
          have h16543 := HS.trans h16526 h16542 (by decide)
          have ga16544 := ga16527.of (h16542.2 (c + 1) (by rw [kC_at (k := 1) (by decide)]; decide))
          have ga16545 := ga16528.of (h16542.2 (c + 2) (by rw [kC_at (k := 2) (by decide)]; decide))
          have ga16546 := ga16529.of (h16542.2 (c + 3) (by rw [kC_at (k := 3) (by decide)]; decide))
          have ga16547 := ga16530.of (h16542.2 (c + 7) (by rw [kC_at (k := 7) (by decide)]; decide))
          have ga16548 := ga16531.of (h16542.2 (c + 8) (by rw [kC_at (k := 8) (by decide)]; decide))
          have ga16549 := ga16532.of (h16542.2 (c + 9) (by rw [kC_at (k := 9) (by decide)]; decide))
          have ga16550 := ga16533.of (h16542.2 (c + 11) (by rw [kC_at (k := 11) (by decide)]; decide))
          obtain ⟨rfl, rfl⟩ := hp
          refine m_aload_n F rfl e_X10_readLine_170 ?_
          refine m_dup F rfl e_X10_readLine_171 ?_
          refine r_getC F e_X10_readLine_172 fl_X10_202 h16543 (yd16534) ?_
          refine m_iconst F (v := 1) (by decide) e_X10_readLine_175 ?_
          refine m_iadd F e_X10_readLine_176 ?_
          refine Wm.topE (w := nI (ln3 + 1)) (nI_add ln3 1) ?_
          refine r_put F (g' := (⟨T, 0, u, h, P16298, L⟩ : RG)) e_X10_readLine_177 fp_X10_202 h16543 (by decide) ⟨_, rfl⟩ (fun _ _ _ _ q => q) (fun _ _ _ q => q) rfl rfl (by decide) (fun σ16551 h16552 g16553 g16554 f16555 => ?_)
          have ga16556 := ga16527.of (g16553 _ (by omega))
          have ga16557 := ga16528.of (g16553 _ (by omega))
          have ga16558 := ga16529.of (g16553 _ (by omega))
          have ga16559 := ga16530.of (g16553 _ (by omega))
          have ga16560 := ga16531.of (g16553 _ (by omega))
          have ga16561 := ga16532.of (g16553 _ (by omega))
          have ga16562 := ga16533.of (g16553 _ (by omega))
          have h16563 : HS V c _ [0, 2, 17, 18, 19, 20, 21, 22, 23] _ _ := ⟨HR.mono (Z' := Z) (by intro e; first | rfl | assumption | omega) h16552.1, h16552.2⟩
          exact m_vret F hQ e_X10_readLine_180 (⟨P16298, oP16298, (by unfold RP; omega), (by rw [eo16307]; show RM _ c n _ (stopS (tok t n) (j1, 5, j3, j4) nl3 nm3 np3 nc3 lc3 no3 sd3 md3 ln3); rw [stopS_1 (by decide)]; exact RM.l ((g16554 23 (by decide)).trans yd16539) ((g16554 24 (by decide)).trans yd16540) (by omega) (by omega) (by omega)), (fun S2 hS _ => by rw [eo16307] at hS; replace hS : stopS (tok t n) (j1, 5, j3, j4) nl3 nm3 np3 nc3 lc3 no3 sd3 md3 ln3 = .inr S2 := hS; rw [stopS_1 (by decide)] at hS; cases hS), h16563, rfl⟩)
  · refine r_getC F e_X10_readLine_1 fl_X10_110 h1 (yd14104) ?_
    refine m_if_eq F e_X10_readLine_4 (fun q => absurd q (by decide)) (fun _ => ?_)
    refine m_aload_n F rfl e_X10_readLine_7 ?_
    refine m_iconst F (v := 1) (by decide) e_X10_readLine_8 ?_
    refine r_callV F e_X10_readLine_9 (q_X10_wrongE (x_l X) V c T Z u h P L _ _ 1 n st 1 (nI v9) ln fp h1.1 (hob) hP (by omega) ⟨(yd14101), (yd14102), (yd14103), (yd14104), (yd14105), (yd14106), (yd14107)⟩ (by decide)) cb_X10_wrong ml_X10_150 im_X10_wrong se_X10_wrong h1 rfl rfl (rest := []) rfl (Nat.le_of_ble_eq_true rfl) ⟨Nat.le_of_ble_eq_true rfl, Nat.le_of_ble_eq_true rfl⟩ ⟨Nat.le_of_ble_eq_true rfl, Nat.le_of_ble_eq_true rfl⟩ (fun r σ16564 hp => ?_)
    obtain ⟨h16565, hp⟩ := hp
    have h16566 := HS.trans h1 h16565 (by decide)
    have ga16567 := hp1.of (h16565.2 (c + 1) (by rw [kC_at (k := 1) (by decide)]; decide))
    have ga16568 := hp6.of (h16565.2 (c + 2) (by rw [kC_at (k := 2) (by decide)]; decide))
    have ga16569 := hp7.of (h16565.2 (c + 3) (by rw [kC_at (k := 3) (by decide)]; decide))
    have ga16570 := hp8.of (h16565.2 (c + 7) (by rw [kC_at (k := 7) (by decide)]; decide))
    have ga16571 := hp9.of (h16565.2 (c + 8) (by rw [kC_at (k := 8) (by decide)]; decide))
    have ga16572 := hp10.of (h16565.2 (c + 9) (by rw [kC_at (k := 9) (by decide)]; decide))
    have ga16573 := hp11.of (h16565.2 (c + 11) (by rw [kC_at (k := 11) (by decide)]; decide))
    obtain ⟨hp, rfl⟩ := hp
    have hyd16574 := hp
    obtain ⟨yd16574, yd16575, yd16576, yd16577, yd16578, yd16579, yd16580⟩ := hyd16574
    refine m_goto F e_X10_readLine_12 ?_
    refine m_aload_n F rfl e_X10_readLine_146 ?_
    refine r_getC F e_X10_readLine_147 fl_X10_141 h16566 (yd16579) ?_
    refine m_if_ne F e_X10_readLine_150 (fun _ => ?_) (fun q => absurd q (by decide))
    refine m_aload_n F rfl e_X10_readLine_166 ?_
    refine r_callV F e_X10_readLine_167 (q_X10_goOnG (x_l X) V c T 0 u h P L _ _  1 h16566.1 (hob) hP  (yd16579) (by decide)) cb_X10_goOn ml_X10_154 im_X10_goOn se_X10_goOn h16566 rfl rfl (rest := []) rfl (Nat.le_of_ble_eq_true rfl) ⟨Nat.le_of_ble_eq_true rfl, Nat.le_of_ble_eq_true rfl⟩ ⟨Nat.le_of_ble_eq_true rfl, Nat.le_of_ble_eq_true rfl⟩ (fun r σ16581 hp => ?_)
    obtain ⟨h16582, hp⟩ := hp
    have h16583 := HS.trans h16566 h16582 (by decide)
    have ga16584 := ga16567.of (h16582.2 (c + 1) (by rw [kC_at (k := 1) (by decide)]; decide))
    have ga16585 := ga16568.of (h16582.2 (c + 2) (by rw [kC_at (k := 2) (by decide)]; decide))
    have ga16586 := ga16569.of (h16582.2 (c + 3) (by rw [kC_at (k := 3) (by decide)]; decide))
    have ga16587 := ga16570.of (h16582.2 (c + 7) (by rw [kC_at (k := 7) (by decide)]; decide))
    have ga16588 := ga16571.of (h16582.2 (c + 8) (by rw [kC_at (k := 8) (by decide)]; decide))
    have ga16589 := ga16572.of (h16582.2 (c + 9) (by rw [kC_at (k := 9) (by decide)]; decide))
    have ga16590 := ga16573.of (h16582.2 (c + 11) (by rw [kC_at (k := 11) (by decide)]; decide))
    obtain ⟨rfl, rfl⟩ := hp
    refine m_aload_n F rfl e_X10_readLine_170 ?_
    refine m_dup F rfl e_X10_readLine_171 ?_
    refine r_getC F e_X10_readLine_172 fl_X10_202 h16583 (yd16574) ?_
    refine m_iconst F (v := 1) (by decide) e_X10_readLine_175 ?_
    refine m_iadd F e_X10_readLine_176 ?_
    refine Wm.topE (w := nI (ln + 1)) (nI_add ln 1) ?_
    refine r_put F (g' := (⟨T, 0, u, h, P, L⟩ : RG)) e_X10_readLine_177 fp_X10_202 h16583 (by decide) ⟨_, rfl⟩ (fun _ _ _ _ q => q) (fun _ _ _ q => q) rfl rfl (by decide) (fun σ16591 h16592 g16593 g16594 f16595 => ?_)
    have ga16596 := ga16567.of (g16593 _ (by omega))
    have ga16597 := ga16568.of (g16593 _ (by omega))
    have ga16598 := ga16569.of (g16593 _ (by omega))
    have ga16599 := ga16570.of (g16593 _ (by omega))
    have ga16600 := ga16571.of (g16593 _ (by omega))
    have ga16601 := ga16572.of (g16593 _ (by omega))
    have ga16602 := ga16573.of (g16593 _ (by omega))
    have h16603 : HS V c _ [0, 2, 17, 18, 19, 20, 21, 22, 23] _ _ := ⟨HR.mono (Z' := Z) (by intro e; first | rfl | assumption | omega) h16592.1, h16592.2⟩
    exact m_vret F hQ e_X10_readLine_180 (⟨P, hP, (by unfold RP; omega), (by rw [lineS_no (by decide)]; show RM _ c n _ (.inl (1, st)); exact RM.l ((g16594 23 (by decide)).trans yd16579) ((g16594 24 (by decide)).trans yd16580) (by omega) (by omega) (by omega)), (fun S2 hS _ => by rw [lineS_no (by decide)] at hS; cases hS), h16603, rfl⟩)
  · refine r_getC F e_X10_readLine_1 fl_X10_110 h1 (yd14104) ?_
    refine m_if_eq F e_X10_readLine_4 (fun q => absurd q (by decide)) (fun _ => ?_)
    refine m_aload_n F rfl e_X10_readLine_7 ?_
    refine m_iconst F (v := 1) (by decide) e_X10_readLine_8 ?_
    refine r_callV F e_X10_readLine_9 (q_X10_wrongE (x_l X) V c T Z u h P L _ _ 1 n st 2 (nI w9) ln fp h1.1 (hob) hP (by omega) ⟨(yd14101), (yd14102), (yd14103), (yd14104), (yd14105), (yd14106), (yd14107)⟩ (by decide)) cb_X10_wrong ml_X10_150 im_X10_wrong se_X10_wrong h1 rfl rfl (rest := []) rfl (Nat.le_of_ble_eq_true rfl) ⟨Nat.le_of_ble_eq_true rfl, Nat.le_of_ble_eq_true rfl⟩ ⟨Nat.le_of_ble_eq_true rfl, Nat.le_of_ble_eq_true rfl⟩ (fun r σ16604 hp => ?_)
    obtain ⟨h16605, hp⟩ := hp
    have h16606 := HS.trans h1 h16605 (by decide)
    have ga16607 := hp1.of (h16605.2 (c + 1) (by rw [kC_at (k := 1) (by decide)]; decide))
    have ga16608 := hp6.of (h16605.2 (c + 2) (by rw [kC_at (k := 2) (by decide)]; decide))
    have ga16609 := hp7.of (h16605.2 (c + 3) (by rw [kC_at (k := 3) (by decide)]; decide))
    have ga16610 := hp8.of (h16605.2 (c + 7) (by rw [kC_at (k := 7) (by decide)]; decide))
    have ga16611 := hp9.of (h16605.2 (c + 8) (by rw [kC_at (k := 8) (by decide)]; decide))
    have ga16612 := hp10.of (h16605.2 (c + 9) (by rw [kC_at (k := 9) (by decide)]; decide))
    have ga16613 := hp11.of (h16605.2 (c + 11) (by rw [kC_at (k := 11) (by decide)]; decide))
    obtain ⟨hp, rfl⟩ := hp
    have hyd16614 := hp
    obtain ⟨yd16614, yd16615, yd16616, yd16617, yd16618, yd16619, yd16620⟩ := hyd16614
    refine m_goto F e_X10_readLine_12 ?_
    refine m_aload_n F rfl e_X10_readLine_146 ?_
    refine r_getC F e_X10_readLine_147 fl_X10_141 h16606 (yd16619) ?_
    refine m_if_ne F e_X10_readLine_150 (fun _ => ?_) (fun q => absurd q (by decide))
    refine m_aload_n F rfl e_X10_readLine_166 ?_
    refine r_callV F e_X10_readLine_167 (q_X10_goOnG (x_l X) V c T 0 u h P L _ _  1 h16606.1 (hob) hP  (yd16619) (by decide)) cb_X10_goOn ml_X10_154 im_X10_goOn se_X10_goOn h16606 rfl rfl (rest := []) rfl (Nat.le_of_ble_eq_true rfl) ⟨Nat.le_of_ble_eq_true rfl, Nat.le_of_ble_eq_true rfl⟩ ⟨Nat.le_of_ble_eq_true rfl, Nat.le_of_ble_eq_true rfl⟩ (fun r σ16621 hp => ?_)
    obtain ⟨h16622, hp⟩ := hp
    have h16623 := HS.trans h16606 h16622 (by decide)
    have ga16624 := ga16607.of (h16622.2 (c + 1) (by rw [kC_at (k := 1) (by decide)]; decide))
    have ga16625 := ga16608.of (h16622.2 (c + 2) (by rw [kC_at (k := 2) (by decide)]; decide))
    have ga16626 := ga16609.of (h16622.2 (c + 3) (by rw [kC_at (k := 3) (by decide)]; decide))
    have ga16627 := ga16610.of (h16622.2 (c + 7) (by rw [kC_at (k := 7) (by decide)]; decide))
    have ga16628 := ga16611.of (h16622.2 (c + 8) (by rw [kC_at (k := 8) (by decide)]; decide))
    have ga16629 := ga16612.of (h16622.2 (c + 9) (by rw [kC_at (k := 9) (by decide)]; decide))
    have ga16630 := ga16613.of (h16622.2 (c + 11) (by rw [kC_at (k := 11) (by decide)]; decide))
    obtain ⟨rfl, rfl⟩ := hp
    refine m_aload_n F rfl e_X10_readLine_170 ?_
    refine m_dup F rfl e_X10_readLine_171 ?_
    refine r_getC F e_X10_readLine_172 fl_X10_202 h16623 (yd16614) ?_
    refine m_iconst F (v := 1) (by decide) e_X10_readLine_175 ?_
    refine m_iadd F e_X10_readLine_176 ?_
    refine Wm.topE (w := nI (ln + 1)) (nI_add ln 1) ?_
    refine r_put F (g' := (⟨T, 0, u, h, P, L⟩ : RG)) e_X10_readLine_177 fp_X10_202 h16623 (by decide) ⟨_, rfl⟩ (fun _ _ _ _ q => q) (fun _ _ _ q => q) rfl rfl (by decide) (fun σ16631 h16632 g16633 g16634 f16635 => ?_)
    have ga16636 := ga16607.of (g16633 _ (by omega))
    have ga16637 := ga16608.of (g16633 _ (by omega))
    have ga16638 := ga16609.of (g16633 _ (by omega))
    have ga16639 := ga16610.of (g16633 _ (by omega))
    have ga16640 := ga16611.of (g16633 _ (by omega))
    have ga16641 := ga16612.of (g16633 _ (by omega))
    have ga16642 := ga16613.of (g16633 _ (by omega))
    have h16643 : HS V c _ [0, 2, 17, 18, 19, 20, 21, 22, 23] _ _ := ⟨HR.mono (Z' := Z) (by intro e; first | rfl | assumption | omega) h16632.1, h16632.2⟩
    exact m_vret F hQ e_X10_readLine_180 (⟨P, hP, (by unfold RP; omega), (by rw [lineS_no (by decide)]; show RM _ c n _ (.inl (1, st)); exact RM.l ((g16634 23 (by decide)).trans yd16619) ((g16634 24 (by decide)).trans yd16620) (by omega) (by omega) (by omega)), (fun S2 hS _ => by rw [lineS_no (by decide)] at hS; cases hS), h16643, rfl⟩)
  · refine r_getC F e_X10_readLine_1 fl_X10_110 h1 (yd14104) ?_
    refine m_if_eq F e_X10_readLine_4 (fun q => absurd q (by decide)) (fun _ => ?_)
    refine m_aload_n F rfl e_X10_readLine_7 ?_
    refine m_iconst F (v := 1) (by decide) e_X10_readLine_8 ?_
    refine r_callV F e_X10_readLine_9 (q_X10_wrongE (x_l X) V c T Z u h P L _ _ 1 n st 3 va ln fp h1.1 (hob) hP (by omega) ⟨(yd14101), (yd14102), (yd14103), (yd14104), (yd14105), (yd14106), (yd14107)⟩ (by decide)) cb_X10_wrong ml_X10_150 im_X10_wrong se_X10_wrong h1 rfl rfl (rest := []) rfl (Nat.le_of_ble_eq_true rfl) ⟨Nat.le_of_ble_eq_true rfl, Nat.le_of_ble_eq_true rfl⟩ ⟨Nat.le_of_ble_eq_true rfl, Nat.le_of_ble_eq_true rfl⟩ (fun r σ16644 hp => ?_)
    obtain ⟨h16645, hp⟩ := hp
    have h16646 := HS.trans h1 h16645 (by decide)
    have ga16647 := hp1.of (h16645.2 (c + 1) (by rw [kC_at (k := 1) (by decide)]; decide))
    have ga16648 := hp6.of (h16645.2 (c + 2) (by rw [kC_at (k := 2) (by decide)]; decide))
    have ga16649 := hp7.of (h16645.2 (c + 3) (by rw [kC_at (k := 3) (by decide)]; decide))
    have ga16650 := hp8.of (h16645.2 (c + 7) (by rw [kC_at (k := 7) (by decide)]; decide))
    have ga16651 := hp9.of (h16645.2 (c + 8) (by rw [kC_at (k := 8) (by decide)]; decide))
    have ga16652 := hp10.of (h16645.2 (c + 9) (by rw [kC_at (k := 9) (by decide)]; decide))
    have ga16653 := hp11.of (h16645.2 (c + 11) (by rw [kC_at (k := 11) (by decide)]; decide))
    obtain ⟨hp, rfl⟩ := hp
    have hyd16654 := hp
    obtain ⟨yd16654, yd16655, yd16656, yd16657, yd16658, yd16659, yd16660⟩ := hyd16654
    refine m_goto F e_X10_readLine_12 ?_
    refine m_aload_n F rfl e_X10_readLine_146 ?_
    refine r_getC F e_X10_readLine_147 fl_X10_141 h16646 (yd16659) ?_
    refine m_if_ne F e_X10_readLine_150 (fun _ => ?_) (fun q => absurd q (by decide))
    refine m_aload_n F rfl e_X10_readLine_166 ?_
    refine r_callV F e_X10_readLine_167 (q_X10_goOnG (x_l X) V c T 0 u h P L _ _  1 h16646.1 (hob) hP  (yd16659) (by decide)) cb_X10_goOn ml_X10_154 im_X10_goOn se_X10_goOn h16646 rfl rfl (rest := []) rfl (Nat.le_of_ble_eq_true rfl) ⟨Nat.le_of_ble_eq_true rfl, Nat.le_of_ble_eq_true rfl⟩ ⟨Nat.le_of_ble_eq_true rfl, Nat.le_of_ble_eq_true rfl⟩ (fun r σ16661 hp => ?_)
    obtain ⟨h16662, hp⟩ := hp
    have h16663 := HS.trans h16646 h16662 (by decide)
    have ga16664 := ga16647.of (h16662.2 (c + 1) (by rw [kC_at (k := 1) (by decide)]; decide))
    have ga16665 := ga16648.of (h16662.2 (c + 2) (by rw [kC_at (k := 2) (by decide)]; decide))
    have ga16666 := ga16649.of (h16662.2 (c + 3) (by rw [kC_at (k := 3) (by decide)]; decide))
    have ga16667 := ga16650.of (h16662.2 (c + 7) (by rw [kC_at (k := 7) (by decide)]; decide))
    have ga16668 := ga16651.of (h16662.2 (c + 8) (by rw [kC_at (k := 8) (by decide)]; decide))
    have ga16669 := ga16652.of (h16662.2 (c + 9) (by rw [kC_at (k := 9) (by decide)]; decide))
    have ga16670 := ga16653.of (h16662.2 (c + 11) (by rw [kC_at (k := 11) (by decide)]; decide))
    obtain ⟨rfl, rfl⟩ := hp
    refine m_aload_n F rfl e_X10_readLine_170 ?_
    refine m_dup F rfl e_X10_readLine_171 ?_
    refine r_getC F e_X10_readLine_172 fl_X10_202 h16663 (yd16654) ?_
    refine m_iconst F (v := 1) (by decide) e_X10_readLine_175 ?_
    refine m_iadd F e_X10_readLine_176 ?_
    refine Wm.topE (w := nI (ln + 1)) (nI_add ln 1) ?_
    refine r_put F (g' := (⟨T, 0, u, h, P, L⟩ : RG)) e_X10_readLine_177 fp_X10_202 h16663 (by decide) ⟨_, rfl⟩ (fun _ _ _ _ q => q) (fun _ _ _ q => q) rfl rfl (by decide) (fun σ16671 h16672 g16673 g16674 f16675 => ?_)
    have ga16676 := ga16647.of (g16673 _ (by omega))
    have ga16677 := ga16648.of (g16673 _ (by omega))
    have ga16678 := ga16649.of (g16673 _ (by omega))
    have ga16679 := ga16650.of (g16673 _ (by omega))
    have ga16680 := ga16651.of (g16673 _ (by omega))
    have ga16681 := ga16652.of (g16673 _ (by omega))
    have ga16682 := ga16653.of (g16673 _ (by omega))
    have h16683 : HS V c _ [0, 2, 17, 18, 19, 20, 21, 22, 23] _ _ := ⟨HR.mono (Z' := Z) (by intro e; first | rfl | assumption | omega) h16672.1, h16672.2⟩
    exact m_vret F hQ e_X10_readLine_180 (⟨P, hP, (by unfold RP; omega), (by rw [lineS_no (by decide)]; show RM _ c n _ (.inl (1, st)); exact RM.l ((g16674 23 (by decide)).trans yd16659) ((g16674 24 (by decide)).trans yd16660) (by omega) (by omega) (by omega)), (fun S2 hS _ => by rw [lineS_no (by decide)] at hS; cases hS), h16683, rfl⟩)
  · refine r_getC F e_X10_readLine_1 fl_X10_110 h1 (yd14104) ?_
    refine m_if_eq F e_X10_readLine_4 (fun q => absurd q (by decide)) (fun _ => ?_)
    refine m_aload_n F rfl e_X10_readLine_7 ?_
    refine m_iconst F (v := 1) (by decide) e_X10_readLine_8 ?_
    refine r_callV F e_X10_readLine_9 (q_X10_wrongE (x_l X) V c T Z u h P L _ _ 1 n st 5 va ln fp h1.1 (hob) hP (by omega) ⟨(yd14101), (yd14102), (yd14103), (yd14104), (yd14105), (yd14106), (yd14107)⟩ (by decide)) cb_X10_wrong ml_X10_150 im_X10_wrong se_X10_wrong h1 rfl rfl (rest := []) rfl (Nat.le_of_ble_eq_true rfl) ⟨Nat.le_of_ble_eq_true rfl, Nat.le_of_ble_eq_true rfl⟩ ⟨Nat.le_of_ble_eq_true rfl, Nat.le_of_ble_eq_true rfl⟩ (fun r σ16684 hp => ?_)
    obtain ⟨h16685, hp⟩ := hp
    have h16686 := HS.trans h1 h16685 (by decide)
    have ga16687 := hp1.of (h16685.2 (c + 1) (by rw [kC_at (k := 1) (by decide)]; decide))
    have ga16688 := hp6.of (h16685.2 (c + 2) (by rw [kC_at (k := 2) (by decide)]; decide))
    have ga16689 := hp7.of (h16685.2 (c + 3) (by rw [kC_at (k := 3) (by decide)]; decide))
    have ga16690 := hp8.of (h16685.2 (c + 7) (by rw [kC_at (k := 7) (by decide)]; decide))
    have ga16691 := hp9.of (h16685.2 (c + 8) (by rw [kC_at (k := 8) (by decide)]; decide))
    have ga16692 := hp10.of (h16685.2 (c + 9) (by rw [kC_at (k := 9) (by decide)]; decide))
    have ga16693 := hp11.of (h16685.2 (c + 11) (by rw [kC_at (k := 11) (by decide)]; decide))
    obtain ⟨hp, rfl⟩ := hp
    have hyd16694 := hp
    obtain ⟨yd16694, yd16695, yd16696, yd16697, yd16698, yd16699, yd16700⟩ := hyd16694
    refine m_goto F e_X10_readLine_12 ?_
    refine m_aload_n F rfl e_X10_readLine_146 ?_
    refine r_getC F e_X10_readLine_147 fl_X10_141 h16686 (yd16699) ?_
    refine m_if_ne F e_X10_readLine_150 (fun _ => ?_) (fun q => absurd q (by decide))
    refine m_aload_n F rfl e_X10_readLine_166 ?_
    refine r_callV F e_X10_readLine_167 (q_X10_goOnG (x_l X) V c T 0 u h P L _ _  1 h16686.1 (hob) hP  (yd16699) (by decide)) cb_X10_goOn ml_X10_154 im_X10_goOn se_X10_goOn h16686 rfl rfl (rest := []) rfl (Nat.le_of_ble_eq_true rfl) ⟨Nat.le_of_ble_eq_true rfl, Nat.le_of_ble_eq_true rfl⟩ ⟨Nat.le_of_ble_eq_true rfl, Nat.le_of_ble_eq_true rfl⟩ (fun r σ16701 hp => ?_)
    obtain ⟨h16702, hp⟩ := hp
    have h16703 := HS.trans h16686 h16702 (by decide)
    have ga16704 := ga16687.of (h16702.2 (c + 1) (by rw [kC_at (k := 1) (by decide)]; decide))
    have ga16705 := ga16688.of (h16702.2 (c + 2) (by rw [kC_at (k := 2) (by decide)]; decide))
    have ga16706 := ga16689.of (h16702.2 (c + 3) (by rw [kC_at (k := 3) (by decide)]; decide))
    have ga16707 := ga16690.of (h16702.2 (c + 7) (by rw [kC_at (k := 7) (by decide)]; decide))
    have ga16708 := ga16691.of (h16702.2 (c + 8) (by rw [kC_at (k := 8) (by decide)]; decide))
    have ga16709 := ga16692.of (h16702.2 (c + 9) (by rw [kC_at (k := 9) (by decide)]; decide))
    have ga16710 := ga16693.of (h16702.2 (c + 11) (by rw [kC_at (k := 11) (by decide)]; decide))
    obtain ⟨rfl, rfl⟩ := hp
    refine m_aload_n F rfl e_X10_readLine_170 ?_
    refine m_dup F rfl e_X10_readLine_171 ?_
    refine r_getC F e_X10_readLine_172 fl_X10_202 h16703 (yd16694) ?_
    refine m_iconst F (v := 1) (by decide) e_X10_readLine_175 ?_
    refine m_iadd F e_X10_readLine_176 ?_
    refine Wm.topE (w := nI (ln + 1)) (nI_add ln 1) ?_
    refine r_put F (g' := (⟨T, 0, u, h, P, L⟩ : RG)) e_X10_readLine_177 fp_X10_202 h16703 (by decide) ⟨_, rfl⟩ (fun _ _ _ _ q => q) (fun _ _ _ q => q) rfl rfl (by decide) (fun σ16711 h16712 g16713 g16714 f16715 => ?_)
    have ga16716 := ga16687.of (g16713 _ (by omega))
    have ga16717 := ga16688.of (g16713 _ (by omega))
    have ga16718 := ga16689.of (g16713 _ (by omega))
    have ga16719 := ga16690.of (g16713 _ (by omega))
    have ga16720 := ga16691.of (g16713 _ (by omega))
    have ga16721 := ga16692.of (g16713 _ (by omega))
    have ga16722 := ga16693.of (g16713 _ (by omega))
    have h16723 : HS V c _ [0, 2, 17, 18, 19, 20, 21, 22, 23] _ _ := ⟨HR.mono (Z' := Z) (by intro e; first | rfl | assumption | omega) h16712.1, h16712.2⟩
    exact m_vret F hQ e_X10_readLine_180 (⟨P, hP, (by unfold RP; omega), (by rw [lineS_no (by decide)]; show RM _ c n _ (.inl (1, st)); exact RM.l ((g16714 23 (by decide)).trans yd16699) ((g16714 24 (by decide)).trans yd16700) (by omega) (by omega) (by omega)), (fun S2 hS _ => by rw [lineS_no (by decide)] at hS; cases hS), h16723, rfl⟩)
