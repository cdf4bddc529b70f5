theorem HR.fw {V : VX} {c j : Nat} {g : RG} {σ : Mem} (h : HR V c g σ) (hj : rL[j]? = some (0, 0)) : ∃ y : Int32, fld σ c j = some (.int y) := by
  obtain ⟨fs, e, q1, q2⟩ : ∃ fs, σ c = some (ob 8 fs) ∧ TyO c g fs := h.cell (k := 0) (by decide)
  obtain ⟨v, h2, x, rfl⟩ := q2 j (0, 0) hj
  exact ⟨x, fld_of e h2⟩
theorem HR.f20 {V : VX} {c : Nat} {g : RG} {σ : Mem} (h : HR V c g σ) : ∃ y : Nat, y ≤ 700 ∧ fld σ c 20 = some (.int (nI y)) := by
  obtain ⟨fs, e, q1, q2⟩ : ∃ fs, σ c = some (ob 8 fs) ∧ TyO c g fs := h.cell (k := 0) (by decide)
  obtain ⟨v, h2, x, hx, rfl⟩ := q2 20 (1, 700) rfl
  exact ⟨x, hx, fld_of e h2⟩
theorem textS_L {X : Nat → Tk} {f : Nat} {S : SS} {e : Nat × Nat} (h0 : S.1.2.1 ≠ 0) (h : thenS (lineT X S) (stopT X) = .inl e) : textS X (f + 1) S = .inl e := by
  show (if S.1.2.1 = 0 then _ else _) = _
  rw [if_neg h0, h]; rfl
theorem textS_R {X : Nat → Tk} {f : Nat} {S S2 : SS} (h0 : S.1.2.1 ≠ 0) (h : thenS (lineT X S) (stopT X) = .inr S2) : textS X (f + 1) S = textS X f S2 := by
  show (if S.1.2.1 = 0 then _ else _) = _
  rw [if_neg h0, h]; rfl
theorem MT.z {so va : Int32} {s v : Nat} (h : MT so va s v) : so = 4 ↔ s = 0 := by
  rcases h with ⟨rfl, rfl⟩ | ⟨rfl, rfl, _⟩ | ⟨rfl, rfl, _⟩ | ⟨rfl, rfl, _⟩ | ⟨rfl, rfl⟩ | ⟨rfl, rfl⟩ <;> simp
set_option maxRecDepth 20000 in
theorem q_X10_readLineE (l : Launch) (V : VX) (c T Z u h : Nat) (P : NP) (L : Nat → LQ) (N : Nat) (σ : Mem) (n st : Nat) (so va : Int32) (ln : Nat) (fp : Int32) (t : Nat → Nat) (s9 v9 : Nat) (nm : Nat → Nat) (np lc no sd : Nat) (md : Nat → Nat → Bool) (h0 : HR V c ⟨T, Z, u, h, P, L⟩ σ) (hob : OKB L) (hP : OKP P) (hp0 : YD σ c n st so va ln 0 fp) (hp1 : BR σ c n t) (hp2 : n ≤ 700) (hp3 : P.a ≤ n) (hp4 : MT so va s9 v9) (hp5 : st ≤ n) (hp6 : NR σ c np no sd) (hp7 : MR σ c P.n5 nm) (hp8 : KR σ c P.n5 md) (hp9 : FR σ c 8 1 P.n5 md) (hp10 : FR σ c 9 2 P.n5 md) (hp11 : QR σ c P.n7 lc) (hp12 : np ≤ 12) (hp13 : no ≤ 4) (hp14 : sd ≤ 1) : Ct l V yX10_readLine cX10_readLine 1 none 9 0 0 N σ [.ref c] (fun r τ => ∃ P9 : NP, OKP P9 ∧ RP P P9 ∧ RM τ c n P9 (thenS (lineS (tok t n) (st, s9, v9, P.a) P.n5 nm np P.n7 lc no sd md ln) (stopT (tok t n))) ∧ (∀ S2 : SS, (thenS (lineS (tok t n) (st, s9, v9, P.a) P.n5 nm np P.n7 lc no sd md ln) (stopT (tok t n))) = .inr S2 → S2.1.2.1 ≠ 0 → P.a < P9.a) ∧ HS V c (⟨T, Z, u, h, P9, L⟩ : RG) [0, 2, 17, 18, 19, 20, 21, 22, 23] σ τ ∧ r = none) := by
  refine Ct.of (by decide) (Nat.le_of_ble_eq_true rfl) [(0, .ref c)] rfl (fun X hX F hQ => ?_)
  have hPP := hP
  unfold OKP at hPP
  have h1 : HS V c ⟨T, Z, u, h, P, L⟩ [0, 2, 17, 18, 19, 20, 21, 22, 23] σ σ := HS.start h0
  have hyd14004 := hp0
  obtain ⟨yd14004, yd14005, yd14006, yd14007, yd14008, yd14009, yd14010⟩ := hyd14004
  have hn7 := hp2
  refine m_aload_n F rfl e_X10_readLine_0 ?_
  have hmt := hp4
  rcases hmt with ⟨rfl, rfl⟩ | ⟨rfl, rfl, rfl, hv9⟩ | ⟨rfl, rfl, rfl, hv9⟩ | ⟨rfl, rfl, w9, hw9, rfl, hm9⟩ | ⟨rfl, rfl⟩ | ⟨rfl, rfl⟩
  · refine r_getC F e_X10_readLine_1 fl_X10_110 h1 (yd14007) ?_
    refine m_if_eq F e_X10_readLine_4 (fun q => absurd q (by decide)) (fun _ => ?_)
    refine m_aload_n F rfl e_X10_readLine_7 ?_
    refine m_iconst F (v := 1) (by decide) e_X10_readLine_8 ?_
    refine r_callV F e_X10_readLine_9 (q_X10_wrongE (x_l X) V c T Z u h P L _ _ 1 n st 4 va ln fp h1.1 (hob) hP (by omega) ⟨(yd14004), (yd14005), (yd14006), (yd14007), (yd14008), (yd14009), (yd14010)⟩ (by decide)) cb_X10_wrong ml_X10_150 im_X10_wrong se_X10_wrong h1 rfl rfl (rest := []) rfl (Nat.le_of_ble_eq_true rfl) ⟨Nat.le_of_ble_eq_true rfl, Nat.le_of_ble_eq_true rfl⟩ ⟨Nat.le_of_ble_eq_true rfl, Nat.le_of_ble_eq_true rfl⟩ (fun r σ14011 hp => ?_)
    obtain ⟨h14012, hp⟩ := hp
    have h14013 := HS.trans h1 h14012 (by decide)
    have ga14014 := hp1.of (h14012.2 (c + 1) (by rw [kC_at (k := 1) (by decide)]; decide))
    have ga14015 := hp6.of (h14012.2 (c + 2) (by rw [kC_at (k := 2) (by decide)]; decide))
    have ga14016 := hp7.of (h14012.2 (c + 3) (by rw [kC_at (k := 3) (by decide)]; decide))
    have ga14017 := hp8.of (h14012.2 (c + 7) (by rw [kC_at (k := 7) (by decide)]; decide))
    have ga14018 := hp9.of (h14012.2 (c + 8) (by rw [kC_at (k := 8) (by decide)]; decide))
    have ga14019 := hp10.of (h14012.2 (c + 9) (by rw [kC_at (k := 9) (by decide)]; decide))
    have ga14020 := hp11.of (h14012.2 (c + 11) (by rw [kC_at (k := 11) (by decide)]; decide))
    obtain ⟨hp, rfl⟩ := hp
    have hyd14021 := hp
    obtain ⟨yd14021, yd14022, yd14023, yd14024, yd14025, yd14026, yd14027⟩ := hyd14021
    refine m_goto F e_X10_readLine_12 ?_
    refine m_aload_n F rfl e_X10_readLine_146 ?_
    refine r_getC F e_X10_readLine_147 fl_X10_141 h14013 (yd14026) ?_
    refine m_if_ne F e_X10_readLine_150 (fun _ => ?_) (fun q => absurd q (by decide))
    refine m_aload_n F rfl e_X10_readLine_166 ?_
    refine r_callV F e_X10_readLine_167 (q_X10_goOnG (x_l X) V c T 0 u h P L _ _  1 h14013.1 (hob) hP  (yd14026) (by decide)) cb_X10_goOn ml_X10_154 im_X10_goOn se_X10_goOn h14013 rfl rfl (rest := []) rfl (Nat.le_of_ble_eq_true rfl) ⟨Nat.le_of_ble_eq_true rfl, Nat.le_of_ble_eq_true rfl⟩ ⟨Nat.le_of_ble_eq_true rfl, Nat.le_of_ble_eq_true rfl⟩ (fun r σ14028 hp => ?_)
    obtain ⟨h14029, hp⟩ := hp
    have h14030 := HS.trans h14013 h14029 (by decide)
    have ga14031 := ga14014.of (h14029.2 (c + 1) (by rw [kC_at (k := 1) (by decide)]; decide))
    have ga14032 := ga14015.of (h14029.2 (c + 2) (by rw [kC_at (k := 2) (by decide)]; decide))
    have ga14033 := ga14016.of (h14029.2 (c + 3) (by rw [kC_at (k := 3) (by decide)]; decide))
    have ga14034 := ga14017.of (h14029.2 (c + 7) (by rw [kC_at (k := 7) (by decide)]; decide))
    have ga14035 := ga14018.of (h14029.2 (c + 8) (by rw [kC_at (k := 8) (by decide)]; decide))
    have ga14036 := ga14019.of (h14029.2 (c + 9) (by rw [kC_at (k := 9) (by decide)]; decide))
    have ga14037 := ga14020.of (h14029.2 (c + 11) (by rw [kC_at (k := 11) (by decide)]; decide))
    obtain ⟨rfl, rfl⟩ := hp
    refine m_aload_n F rfl e_X10_readLine_170 ?_
    refine m_dup F rfl e_X10_readLine_171 ?_
    refine r_getC F e_X10_readLine_172 fl_X10_202 h14030 (yd14021) ?_
    refine m_iconst F (v := 1) (by decide) e_X10_readLine_175 ?_
    refine m_iadd F e_X10_readLine_176 ?_
    refine Wm.topE (w := nI (ln + 1)) (nI_add ln 1) ?_
    refine r_put F (g' := (⟨T, 0, u, h, P, L⟩ : RG)) e_X10_readLine_177 fp_X10_202 h14030 (by decide) ⟨_, rfl⟩ (fun _ _ _ _ q => q) (fun _ _ _ q => q) rfl rfl (by decide) (fun σ14038 h14039 g14040 g14041 f14042 => ?_)
    have ga14043 := ga14014.of (g14040 _ (by omega))
    have ga14044 := ga14015.of (g14040 _ (by omega))
    have ga14045 := ga14016.of (g14040 _ (by omega))
    have ga14046 := ga14017.of (g14040 _ (by omega))
    have ga14047 := ga14018.of (g14040 _ (by omega))
    have ga14048 := ga14019.of (g14040 _ (by omega))
    have ga14049 := ga14020.of (g14040 _ (by omega))
    have h14050 : HS V c _ [0, 2, 17, 18, 19, 20, 21, 22, 23] _ _ := ⟨HR.mono (Z' := Z) (by intro e; first | rfl | assumption | omega) h14039.1, h14039.2⟩
    exact m_vret F hQ e_X10_readLine_180 (⟨P, hP, (by unfold RP; omega), (by rw [lineS_no (by decide)]; show RM _ c n _ (.inl (1, st)); exact RM.l ((g14041 23 (by decide)).trans yd14026) ((g14041 24 (by decide)).trans yd14027) (by omega) (by omega) (by omega)), (fun S2 hS _ => by rw [lineS_no (by decide)] at hS; cases hS), h14050, rfl⟩)
  · have hv8 : v9 = 0 ∨ v9 = 1 ∨ v9 = 2 ∨ v9 = 3 ∨ v9 = 4 ∨ v9 = 5 ∨ v9 = 6 ∨ v9 = 7 ∨ v9 = 8 := by omega
    rcases hv8 with rfl | rfl | rfl | rfl | rfl | rfl | rfl | rfl | rfl
    · refine r_getC F e_X10_readLine_1 fl_X10_110 h1 (yd14007) ?_
      refine m_if_eq F e_X10_readLine_4 (fun _ => ?_) (fun q => absurd (by decide) q)
      refine m_aload_n F rfl e_X10_readLine_15 ?_
      refine r_getC F e_X10_readLine_16 fl_X10_120 h1 (yd14008) ?_
      refine m_if_ne F e_X10_readLine_19 (fun q => absurd (by decide) q) (fun _ => ?_)
      refine m_aload_n F rfl e_X10_readLine_22 ?_
      refine r_callV F e_X10_readLine_23 (q_X10_readLeaseE (x_l X) V c T Z u h P L _ _  n st 0 0 ln fp t 1 0 nm np lc no sd md h1.1 (hob) hP  ⟨(yd14004), (yd14005), (yd14006), (yd14007), (yd14008), (yd14009), (yd14010)⟩ hp1 hn7 (by omega) hp4 hp5 hp6 hp7 hp8 hp9 hp10 hp11 hp12 hp13 hp14) cb_X10_readLease ml_X10_178 im_X10_readLease se_X10_readLease h1 rfl rfl (rest := []) rfl (Nat.le_of_ble_eq_true rfl) ⟨Nat.le_of_ble_eq_true rfl, Nat.le_of_ble_eq_true rfl⟩ ⟨Nat.le_of_ble_eq_true rfl, Nat.le_of_ble_eq_true rfl⟩ (fun r σ14051 hp => ?_)
      obtain ⟨P14054, oP14054, rP14054, pr14055, h14052, hp⟩ := hp
      have h14053 := HS.trans h1 h14052 (by decide)
      have xP14054 := oP14054
      unfold OKP at xP14054
      unfold RP at rP14054
      have ga14056 := hp1.of (h14052.2 (c + 1) (by rw [kC_at (k := 1) (by decide)]; decide))
      have ga14057 := hp11.of (h14052.2 (c + 11) (by rw [kC_at (k := 11) (by decide)]; decide))
      obtain rfl := hp
      have rm14058 : RM σ14051 c n P14054 (lineS (tok t n) (st, 1, 0, P.a) P.n5 nm np P.n7 lc no sd md ln) := by rw [lineS_0]; exact pr14055
      cases eo14059 : lineS (tok t n) (st, 1, 0, P.a) P.n5 nm np P.n7 lc no sd md ln with
      | inl e8 =>
        rw [eo14059] at rm14058
        obtain ⟨⟨fa14060, fb14061⟩, c1, c2, c3⟩ := rm14058
        have nz8 : nI e8.1 ≠ 0 := fun e => absurd (nI_inj9 (b := 0) (by omega) (by omega) e) (by omega)
        refine m_goto F e_X10_readLine_26 ?_
        refine m_aload_n F rfl e_X10_readLine_146 ?_
        refine r_getC F e_X10_readLine_147 fl_X10_141 h14053 (fa14060) ?_
        refine m_if_ne F e_X10_readLine_150 (fun q150 => ?_) (fun q150 => ?_)
        · have c150 : e8.1 ≠ 0 := by have hh := mt (nI_eq (a := e8.1) (b := 0) (by omega) (by omega)).mpr q150; omega
          refine m_aload_n F rfl e_X10_readLine_166 ?_
          refine r_callV F e_X10_readLine_167 (q_X10_goOnG (x_l X) V c T Z u h P14054 L _ _  (nI e8.1) h14053.1 (hob) oP14054  (fa14060) (by assumption)) cb_X10_goOn ml_X10_154 im_X10_goOn se_X10_goOn h14053 rfl rfl (rest := []) rfl (Nat.le_of_ble_eq_true rfl) ⟨Nat.le_of_ble_eq_true rfl, Nat.le_of_ble_eq_true rfl⟩ ⟨Nat.le_of_ble_eq_true rfl, Nat.le_of_ble_eq_true rfl⟩ (fun r σ14062 hp => ?_)
          obtain ⟨h14063, hp⟩ := hp
          have h14064 := HS.trans h14053 h14063 (by decide)
          obtain ⟨rfl, rfl⟩ := hp
          refine m_aload_n F rfl e_X10_readLine_170 ?_
          refine m_dup F rfl e_X10_readLine_171 ?_
          refine r_get F e_X10_readLine_172 fl_X10_202 h14064 rfl (fun v hv f14065 => ?_)
          obtain ⟨x14066, rfl⟩ := hv
          refine m_iconst F (v := 1) (by decide) e_X10_readLine_175 ?_
          refine m_iadd F e_X10_readLine_176 ?_
          refine Wm.top (fun x14067 _ => ?_)
          refine r_put F (g' := (⟨T, Z, u, h, P14054, L⟩ : RG)) e_X10_readLine_177 fp_X10_202 h14064 (by decide) ⟨_, rfl⟩ (fun _ _ _ _ q => q) (fun _ _ _ q => q) rfl rfl (by decide) (fun σ14068 h14069 g14070 g14071 f14072 => ?_)
          exact m_vret F hQ e_X10_readLine_180 (⟨P14054, oP14054, (by unfold RP; omega), (by rw [eo14059]; show RM _ c n _ (.inl e8); exact RM.l ((g14071 23 (by decide)).trans fa14060) ((g14071 24 (by decide)).trans fb14061) (by omega) (by omega) (by omega)), (fun S2 hS _ => by rw [eo14059] at hS; cases hS), h14069, rfl⟩)
        · have c150 : e8.1 = 0 := (nI_eq (a := e8.1) (b := 0) (by omega) (by omega)).mp q150
          exact absurd q150 nz8
      | inr S1 =>
        rw [eo14059] at rm14058
        obtain ⟨⟨j1, j2, j3, j4⟩, nl3, nm3, np3, nc3, lc3, no3, sd3, md3, ln3⟩ := S1
        obtain ⟨so3, va3, fp3, mt3, yd3, ⟨pa3, p53, p73⟩, hN3, hM3, hK3, hF3, hG3, hQ3, c1, c2, c3, c4, c5⟩ := rm14058
        replace pa3 : _ = j4 := pa3
        replace c1 : j4 ≤ n := c1
        replace c2 : j1 ≤ n := c2
        have hyd14073 := yd3
        obtain ⟨yd14073, yd14074, yd14075, yd14076, yd14077, yd14078, yd14079⟩ := hyd14073
        refine m_goto F e_X10_readLine_26 ?_
        refine m_aload_n F rfl e_X10_readLine_146 ?_
        refine r_getC F e_X10_readLine_147 fl_X10_141 h14053 (yd14078) ?_
        refine m_if_ne F e_X10_readLine_150 (fun q => absurd (by decide) q) (fun _ => ?_)
        refine m_aload_n F rfl e_X10_readLine_153 ?_
        have hmt := mt3
        rcases hmt with ⟨rfl, rfl⟩ | ⟨rfl, rfl, rfl, hv3⟩ | ⟨rfl, rfl, rfl, hv3⟩ | ⟨rfl, rfl, w3, hw3, rfl, hm3⟩ | ⟨rfl, rfl⟩ | ⟨rfl, rfl⟩
        · refine r_getC F e_X10_readLine_154 fl_X10_110 h14053 (yd14076) ?_
          refine m_iconst F (v := 3) (by decide) e_X10_readLine_157 ?_
          refine m_icmp_eq F e_X10_readLine_158 (fun q => absurd q (by decide)) (fun _ => ?_)
          refine m_aload_n F rfl e_X10_readLine_161 ?_
          refine m_iconst F (v := 1) (by decide) e_X10_readLine_162 ?_
          refine r_callV F e_X10_readLine_163 (q_X10_wrongE (x_l X) V c T Z u h P14054 L _ _ 1 n j1 4 va3 ln3 fp3 h14053.1 (hob) oP14054 (by omega) ⟨(yd14073), (yd14074), (yd14075), (yd14076), (yd14077), (yd14078), (yd14079)⟩ (by decide)) cb_X10_wrong ml_X10_150 im_X10_wrong se_X10_wrong h14053 rfl rfl (rest := []) rfl (Nat.le_of_ble_eq_true rfl) ⟨Nat.le_of_ble_eq_true rfl, Nat.le_of_ble_eq_true rfl⟩ ⟨Nat.le_of_ble_eq_true rfl, Nat.le_of_ble_eq_true rfl⟩ (fun r σ14080 hp => ?_)
          obtain ⟨h14081, hp⟩ := hp
          have h14082 := HS.trans h14053 h14081 (by decide)
          have ga14083 := ga14056.of (h14081.2 (c + 1) (by rw [kC_at (k := 1) (by decide)]; decide))
          have ga14084 := hN3.of (h14081.2 (c + 2) (by rw [kC_at (k := 2) (by decide)]; decide))
          have ga14085 := hM3.of (h14081.2 (c + 3) (by rw [kC_at (k := 3) (by decide)]; decide))
          have ga14086 := hK3.of (h14081.2 (c + 7) (by rw [kC_at (k := 7) (by decide)]; decide))
          have ga14087 := hF3.of (h14081.2 (c + 8) (by rw [kC_at (k := 8) (by decide)]; decide))
          have ga14088 := hG3.of (h14081.2 (c + 9) (by rw [kC_at (k := 9) (by decide)]; decide))
          have ga14089 := hQ3.of (h14081.2 (c + 11) (by rw [kC_at (k := 11) (by decide)]; decide))
          obtain ⟨hp, rfl⟩ := hp
          have hyd14090 := hp
          obtain ⟨yd14090, yd14091, yd14092, yd14093, yd14094, yd14095, yd14096⟩ := hyd14090
          refine m_aload_n F rfl e_X10_readLine_166 ?_
          refine r_callV F e_X10_readLine_167 (q_X10_goOnG (x_l X) V c T 0 u h P14054 L _ _  1 h14082.1 (hob) oP14054  (yd14095) (by decide)) cb_X10_goOn ml_X10_154 im_X10_goOn se_X10_goOn h14082 rfl rfl (rest := []) rfl (Nat.le_of_ble_eq_true rfl) ⟨Nat.le_of_ble_eq_true rfl, Nat.le_of_ble_eq_true rfl⟩ ⟨Nat.le_of_ble_eq_true rfl, Nat.le_of_ble_eq_true rfl⟩ (fun r σ14097 hp => ?_)
          obtain ⟨h14098, hp⟩ := hp
          have h14099 := HS.trans h14082 h14098 (by decide)
          have ga14100 := ga14083.of (h14098.2 (c + 1) (by rw [kC_at (k := 1) (by decide)]; decide))
          have ga14101 := ga14084.of (h14098.2 (c + 2) (by rw [kC_at (k := 2) (by decide)]; decide))
          have ga14102 := ga14085.of (h14098.2 (c + 3) (by rw [kC_at (k := 3) (by decide)]; decide))
          have ga14103 := ga14086.of (h14098.2 (c + 7) (by rw [kC_at (k := 7) (by decide)]; decide))
          have ga14104 := ga14087.of (h14098.2 (c + 8) (by rw [kC_at (k := 8) (by decide)]; decide))
          have ga14105 := ga14088.of (h14098.2 (c + 9) (by rw [kC_at (k := 9) (by decide)]; decide))
          have ga14106 := ga14089.of (h14098.2 (c + 11) (by rw [kC_at (k := 11) (by decide)]; decide))
          obtain ⟨rfl, rfl⟩ := hp
          refine m_aload_n F rfl e_X10_readLine_170 ?_
          refine m_dup F rfl e_X10_readLine_171 ?_
          refine r_getC F e_X10_readLine_172 fl_X10_202 h14099 (yd14090) ?_
          refine m_iconst F (v := 1) (by decide) e_X10_readLine_175 ?_
          refine m_iadd F e_X10_readLine_176 ?_
          refine Wm.topE (w := nI (ln3 + 1)) (nI_add ln3 1) ?_
          refine r_put F (g' := (⟨T, 0, u, h, P14054, L⟩ : RG)) e_X10_readLine_177 fp_X10_202 h14099 (by decide) ⟨_, rfl⟩ (fun _ _ _ _ q => q) (fun _ _ _ q => q) rfl rfl (by decide) (fun σ14107 h14108 g14109 g14110 f14111 => ?_)
          have ga14112 := ga14083.of (g14109 _ (by omega))
          have ga14113 := ga14084.of (g14109 _ (by omega))
          have ga14114 := ga14085.of (g14109 _ (by omega))
          have ga14115 := ga14086.of (g14109 _ (by omega))
          have ga14116 := ga14087.of (g14109 _ (by omega))
          have ga14117 := ga14088.of (g14109 _ (by omega))
          have ga14118 := ga14089.of (g14109 _ (by omega))
          have h14119 : HS V c _ [0, 2, 17, 18, 19, 20, 21, 22, 23] _ _ := ⟨HR.mono (Z' := Z) (by intro e; first | rfl | assumption | omega) h14108.1, h14108.2⟩
          exact m_vret F hQ e_X10_readLine_180 (⟨P14054, oP14054, (by unfold RP; omega), (by rw [eo14059]; show RM _ c n _ (stopS (tok t n) (j1, 0, j3, j4) nl3 nm3 np3 nc3 lc3 no3 sd3 md3 ln3); rw [stopS_1 (by decide)]; exact RM.l ((g14110 23 (by decide)).trans yd14095) ((g14110 24 (by decide)).trans yd14096) (by omega) (by omega) (by omega)), (fun S2 hS _ => by rw [eo14059] at hS; replace hS : stopS (tok t n) (j1, 0, j3, j4) nl3 nm3 np3 nc3 lc3 no3 sd3 md3 ln3 = .inr S2 := hS; rw [stopS_1 (by decide)] at hS; cases hS), h14119, rfl⟩)
        · refine r_getC F e_X10_readLine_154 fl_X10_110 h14053 (yd14076) ?_
          refine m_iconst F (v := 3) (by decide) e_X10_readLine_157 ?_
          refine m_icmp_eq F e_X10_readLine_158 (fun q => absurd q (by decide)) (fun _ => ?_)
          refine m_aload_n F rfl e_X10_readLine_161 ?_
          refine m_iconst F (v := 1) (by decide) e_X10_readLine_162 ?_
          refine r_callV F e_X10_readLine_163 (q_X10_wrongE (x_l X) V c T Z u h P14054 L _ _ 1 n j1 0 (nI j3) ln3 fp3 h14053.1 (hob) oP14054 (by omega) ⟨(yd14073), (yd14074), (yd14075), (yd14076), (yd14077), (yd14078), (yd14079)⟩ (by decide)) cb_X10_wrong ml_X10_150 im_X10_wrong se_X10_wrong h14053 rfl rfl (rest := []) rfl (Nat.le_of_ble_eq_true rfl) ⟨Nat.le_of_ble_eq_true rfl, Nat.le_of_ble_eq_true rfl⟩ ⟨Nat.le_of_ble_eq_true rfl, Nat.le_of_ble_eq_true rfl⟩ (fun r σ14120 hp => ?_)
          obtain ⟨h14121, hp⟩ := hp
          have h14122 := HS.trans h14053 h14121 (by decide)
          have ga14123 := ga14056.of (h14121.2 (c + 1) (by rw [kC_at (k := 1) (by decide)]; decide))
          have ga14124 := hN3.of (h14121.2 (c + 2) (by rw [kC_at (k := 2) (by decide)]; decide))
          have ga14125 := hM3.of (h14121.2 (c + 3) (by rw [kC_at (k := 3) (by decide)]; decide))
          have ga14126 := hK3.of (h14121.2 (c + 7) (by rw [kC_at (k := 7) (by decide)]; decide))
          have ga14127 := hF3.of (h14121.2 (c + 8) (by rw [kC_at (k := 8) (by decide)]; decide))
          have ga14128 := hG3.of (h14121.2 (c + 9) (by rw [kC_at (k := 9) (by decide)]; decide))
          have ga14129 := hQ3.of (h14121.2 (c + 11) (by rw [kC_at (k := 11) (by decide)]; decide))
          obtain ⟨hp, rfl⟩ := hp
          have hyd14130 := hp
          obtain ⟨yd14130, yd14131, yd14132, yd14133, yd14134, yd14135, yd14136⟩ := hyd14130
          refine m_aload_n F rfl e_X10_readLine_166 ?_
          refine r_callV F e_X10_readLine_167 (q_X10_goOnG (x_l X) V c T 0 u h P14054 L _ _  1 h14122.1 (hob) oP14054  (yd14135) (by decide)) cb_X10_goOn ml_X10_154 im_X10_goOn se_X10_goOn h14122 rfl rfl (rest := []) rfl (Nat.le_of_ble_eq_true rfl) ⟨Nat.le_of_ble_eq_true rfl, Nat.le_of_ble_eq_true rfl⟩ ⟨Nat.le_of_ble_eq_true rfl, Nat.le_of_ble_eq_true rfl⟩ (fun r σ14137 hp => ?_)
          obtain ⟨h14138, hp⟩ := hp
          have h14139 := HS.trans h14122 h14138 (by decide)
          have ga14140 := ga14123.of (h14138.2 (c + 1) (by rw [kC_at (k := 1) (by decide)]; decide))
          have ga14141 := ga14124.of (h14138.2 (c + 2) (by rw [kC_at (k := 2) (by decide)]; decide))
          have ga14142 := ga14125.of (h14138.2 (c + 3) (by rw [kC_at (k := 3) (by decide)]; decide))
          have ga14143 := ga14126.of (h14138.2 (c + 7) (by rw [kC_at (k := 7) (by decide)]; decide))
          have ga14144 := ga14127.of (h14138.2 (c + 8) (by rw [kC_at (k := 8) (by decide)]; decide))
          have ga14145 := ga14128.of (h14138.2 (c + 9) (by rw [kC_at (k := 9) (by decide)]; decide))
          have ga14146 := ga14129.of (h14138.2 (c + 11) (by rw [kC_at (k := 11) (by decide)]; decide))
          obtain ⟨rfl, rfl⟩ := hp
          refine m_aload_n F rfl e_X10_readLine_170 ?_
          refine m_dup F rfl e_X10_readLine_171 ?_
          refine r_getC F e_X10_readLine_172 fl_X10_202 h14139 (yd14130) ?_
          refine m_iconst F (v := 1) (by decide) e_X10_readLine_175 ?_
          refine m_iadd F e_X10_readLine_176 ?_
          refine Wm.topE (w := nI (ln3 + 1)) (nI_add ln3 1) ?_
          refine r_put F (g' := (⟨T, 0, u, h, P14054, L⟩ : RG)) e_X10_readLine_177 fp_X10_202 h14139 (by decide) ⟨_, rfl⟩ (fun _ _ _ _ q => q) (fun _ _ _ q => q) rfl rfl (by decide) (fun σ14147 h14148 g14149 g14150 f14151 => ?_)
          have ga14152 := ga14123.of (g14149 _ (by omega))
          have ga14153 := ga14124.of (g14149 _ (by omega))
          have ga14154 := ga14125.of (g14149 _ (by omega))
          have ga14155 := ga14126.of (g14149 _ (by omega))
          have ga14156 := ga14127.of (g14149 _ (by omega))
          have ga14157 := ga14128.of (g14149 _ (by omega))
          have ga14158 := ga14129.of (g14149 _ (by omega))
          have h14159 : HS V c _ [0, 2, 17, 18, 19, 20, 21, 22, 23] _ _ := ⟨HR.mono (Z' := Z) (by intro e; first | rfl | assumption | omega) h14148.1, h14148.2⟩
          exact m_vret F hQ e_X10_readLine_180 (⟨P14054, oP14054, (by unfold RP; omega), (by rw [eo14059]; show RM _ c n _ (stopS (tok t n) (j1, 1, j3, j4) nl3 nm3 np3 nc3 lc3 no3 sd3 md3 ln3); rw [stopS_1 (by decide)]; exact RM.l ((g14150 23 (by decide)).trans yd14135) ((g14150 24 (by decide)).trans yd14136) (by omega) (by omega) (by omega)), (fun S2 hS _ => by rw [eo14059] at hS; replace hS : stopS (tok t n) (j1, 1, j3, j4) nl3 nm3 np3 nc3 lc3 no3 sd3 md3 ln3 = .inr S2 := hS; rw [stopS_1 (by decide)] at hS; cases hS), h14159, rfl⟩)
        · refine r_getC F e_X10_readLine_154 fl_X10_110 h14053 (yd14076) ?_
          refine m_iconst F (v := 3) (by decide) e_X10_readLine_157 ?_
          refine m_icmp_eq F e_X10_readLine_158 (fun q => absurd q (by decide)) (fun _ => ?_)
          refine m_aload_n F rfl e_X10_readLine_161 ?_
          refine m_iconst F (v := 1) (by decide) e_X10_readLine_162 ?_
          refine r_callV F e_X10_readLine_163 (q_X10_wrongE (x_l X) V c T Z u h P14054 L _ _ 1 n j1 1 (nI j3) ln3 fp3 h14053.1 (hob) oP14054 (by omega) ⟨(yd14073), (yd14074), (yd14075), (yd14076), (yd14077), (yd14078), (yd14079)⟩ (by decide)) cb_X10_wrong ml_X10_150 im_X10_wrong se_X10_wrong h14053 rfl rfl (rest := []) rfl (Nat.le_of_ble_eq_true rfl) ⟨Nat.le_of_ble_eq_true rfl, Nat.le_of_ble_eq_true rfl⟩ ⟨Nat.le_of_ble_eq_true rfl, Nat.le_of_ble_eq_true rfl⟩ (fun r σ14160 hp => ?_)
          obtain ⟨h14161, hp⟩ := hp
          have h14162 := HS.trans h14053 h14161 (by decide)
          have ga14163 := ga14056.of (h14161.2 (c + 1) (by rw [kC_at (k := 1) (by decide)]; decide))
          have ga14164 := hN3.of (h14161.2 (c + 2) (by rw [kC_at (k := 2) (by decide)]; decide))
          have ga14165 := hM3.of (h14161.2 (c + 3) (by rw [kC_at (k := 3) (by decide)]; decide))
          have ga14166 := hK3.of (h14161.2 (c + 7) (by rw [kC_at (k := 7) (by decide)]; decide))
          have ga14167 := hF3.of (h14161.2 (c + 8) (by rw [kC_at (k := 8) (by decide)]; decide))
          have ga14168 := hG3.of (h14161.2 (c + 9) (by rw [kC_at (k := 9) (by decide)]; decide))
          have ga14169 := hQ3.of (h14161.2 (c + 11) (by rw [kC_at (k := 11) (by decide)]; decide))
          obtain ⟨hp, rfl⟩ := hp
          have hyd14170 := hp
          obtain ⟨yd14170, yd14171, yd14172, yd14173, yd14174, yd14175, yd14176⟩ := hyd14170
          refine m_aload_n F rfl e_X10_readLine_166 ?_
          refine r_callV F e_X10_readLine_167 (q_X10_goOnG (x_l X) V c T 0 u h P14054 L _ _  1 h14162.1 (hob) oP14054  (yd14175) (by decide)) cb_X10_goOn ml_X10_154 im_X10_goOn se_X10_goOn h14162 rfl rfl (rest := []) rfl (Nat.le_of_ble_eq_true rfl) ⟨Nat.le_of_ble_eq_true rfl, Nat.le_of_ble_eq_true rfl⟩ ⟨Nat.le_of_ble_eq_true rfl, Nat.le_of_ble_eq_true rfl⟩ (fun r σ14177 hp => ?_)
          obtain ⟨h14178, hp⟩ := hp
          have h14179 := HS.trans h14162 h14178 (by decide)
          have ga14180 := ga14163.of (h14178.2 (c + 1) (by rw [kC_at (k := 1) (by decide)]; decide))
          have ga14181 := ga14164.of (h14178.2 (c + 2) (by rw [kC_at (k := 2) (by decide)]; decide))
          have ga14182 := ga14165.of (h14178.2 (c + 3) (by rw [kC_at (k := 3) (by decide)]; decide))
          have ga14183 := ga14166.of (h14178.2 (c + 7) (by rw [kC_at (k := 7) (by decide)]; decide))
          have ga14184 := ga14167.of (h14178.2 (c + 8) (by rw [kC_at (k := 8) (by decide)]; decide))
          have ga14185 := ga14168.of (h14178.2 (c + 9) (by rw [kC_at (k := 9) (by decide)]; decide))
          have ga14186 := ga14169.of (h14178.2 (c + 11) (by rw [kC_at (k := 11) (by decide)]; decide))
          obtain ⟨rfl, rfl⟩ := hp
          refine m_aload_n F rfl e_X10_readLine_170 ?_
          refine m_dup F rfl e_X10_readLine_171 ?_
          refine r_getC F e_X10_readLine_172 fl_X10_202 h14179 (yd14170) ?_
          refine m_iconst F (v := 1) (by decide) e_X10_readLine_175 ?_
          refine m_iadd F e_X10_readLine_176 ?_
          refine Wm.topE (w := nI (ln3 + 1)) (nI_add ln3 1) ?_
          refine r_put F (g' := (⟨T, 0, u, h, P14054, L⟩ : RG)) e_X10_readLine_177 fp_X10_202 h14179 (by decide) ⟨_, rfl⟩ (fun _ _ _ _ q => q) (fun _ _ _ q => q) rfl rfl (by decide) (fun σ14187 h14188 g14189 g14190 f14191 => ?_)
          have ga14192 := ga14163.of (g14189 _ (by omega))
          have ga14193 := ga14164.of (g14189 _ (by omega))
          have ga14194 := ga14165.of (g14189 _ (by omega))
          have ga14195 := ga14166.of (g14189 _ (by omega))
          have ga14196 := ga14167.of (g14189 _ (by omega))
          have ga14197 := ga14168.of (g14189 _ (by omega))
          have ga14198 := ga14169.of (g14189 _ (by omega))
          have h14199 : HS V c _ [0, 2, 17, 18, 19, 20, 21, 22, 23] _ _ := ⟨HR.mono (Z' := Z) (by intro e; first | rfl | assumption | omega) h14188.1, h14188.2⟩
          exact m_vret F hQ e_X10_readLine_180 (⟨P14054, oP14054, (by unfold RP; omega), (by rw [eo14059]; show RM _ c n _ (stopS (tok t n) (j1, 2, j3, j4) nl3 nm3 np3 nc3 lc3 no3 sd3 md3 ln3); rw [stopS_1 (by decide)]; exact RM.l ((g14190 23 (by decide)).trans yd14175) ((g14190 24 (by decide)).trans yd14176) (by omega) (by omega) (by omega)), (fun S2 hS _ => by rw [eo14059] at hS; replace hS : stopS (tok t n) (j1, 2, j3, j4) nl3 nm3 np3 nc3 lc3 no3 sd3 md3 ln3 = .inr S2 := hS; rw [stopS_1 (by decide)] at hS; cases hS), h14199, rfl⟩)
        · refine r_getC F e_X10_readLine_154 fl_X10_110 h14053 (yd14076) ?_
          refine m_iconst F (v := 3) (by decide) e_X10_readLine_157 ?_
          refine m_icmp_eq F e_X10_readLine_158 (fun q => absurd q (by decide)) (fun _ => ?_)
          refine m_aload_n F rfl e_X10_readLine_161 ?_
          refine m_iconst F (v := 1) (by decide) e_X10_readLine_162 ?_
          refine r_callV F e_X10_readLine_163 (q_X10_wrongE (x_l X) V c T Z u h P14054 L _ _ 1 n j1 2 (nI w3) ln3 fp3 h14053.1 (hob) oP14054 (by omega) ⟨(yd14073), (yd14074), (yd14075), (yd14076), (yd14077), (yd14078), (yd14079)⟩ (by decide)) cb_X10_wrong ml_X10_150 im_X10_wrong se_X10_wrong h14053 rfl rfl (rest := []) rfl (Nat.le_of_ble_eq_true rfl) ⟨Nat.le_of_ble_eq_true rfl, Nat.le_of_ble_eq_true rfl⟩ ⟨Nat.le_of_ble_eq_true rfl, Nat.le_of_ble_eq_true rfl⟩ (fun r σ14200 hp => ?_)
          obtain ⟨h14201, hp⟩ := hp
          have h14202 := HS.trans h14053 h14201 (by decide)
          have ga14203 := ga14056.of (h14201.2 (c + 1) (by rw [kC_at (k := 1) (by decide)]; decide))
          have ga14204 := hN3.of (h14201.2 (c + 2) (by rw [kC_at (k := 2) (by decide)]; decide))
          have ga14205 := hM3.of (h14201.2 (c + 3) (by rw [kC_at (k := 3) (by decide)]; decide))
          have ga14206 := hK3.of (h14201.2 (c + 7) (by rw [kC_at (k := 7) (by decide)]; decide))
          have ga14207 := hF3.of (h14201.2 (c + 8) (by rw [kC_at (k := 8) (by decide)]; decide))
          have ga14208 := hG3.of (h14201.2 (c + 9) (by rw [kC_at (k := 9) (by decide)]; decide))
          have ga14209 := hQ3.of (h14201.2 (c + 11) (by rw [kC_at (k := 11) (by decide)]; decide))
          obtain ⟨hp, rfl⟩ := hp
          have hyd14210 := hp
          obtain ⟨yd14210, yd14211, yd14212, yd14213, yd14214, yd14215, yd14216⟩ := hyd14210
          refine m_aload_n F rfl e_X10_readLine_166 ?_
          refine r_callV F e_X10_readLine_167 (q_X10_goOnG (x_l X) V c T 0 u h P14054 L _ _  1 h14202.1 (hob) oP14054  (yd14215) (by decide)) cb_X10_goOn ml_X10_154 im_X10_goOn se_X10_goOn h14202 rfl rfl (rest := []) rfl (Nat.le_of_ble_eq_true rfl) ⟨Nat.le_of_ble_eq_true rfl, Nat.le_of_ble_eq_true rfl⟩ ⟨Nat.le_of_ble_eq_true rfl, Nat.le_of_ble_eq_true rfl⟩ (fun r σ14217 hp => ?_)
          obtain ⟨h14218, hp⟩ := hp
          have h14219 := HS.trans h14202 h14218 (by decide)
          have ga14220 := ga14203.of (h14218.2 (c + 1) (by rw [kC_at (k := 1) (by decide)]; decide))
          have ga14221 := ga14204.of (h14218.2 (c + 2) (by rw [kC_at (k := 2) (by decide)]; decide))
          have ga14222 := ga14205.of (h14218.2 (c + 3) (by rw [kC_at (k := 3) (by decide)]; decide))
          have ga14223 := ga14206.of (h14218.2 (c + 7) (by rw [kC_at (k := 7) (by decide)]; decide))
          have ga14224 := ga14207.of (h14218.2 (c + 8) (by rw [kC_at (k := 8) (by decide)]; decide))
          have ga14225 := ga14208.of (h14218.2 (c + 9) (by rw [kC_at (k := 9) (by decide)]; decide))
          have ga14226 := ga14209.of (h14218.2 (c + 11) (by rw [kC_at (k := 11) (by decide)]; decide))
          obtain ⟨rfl, rfl⟩ := hp
          refine m_aload_n F rfl e_X10_readLine_170 ?_
          refine m_dup F rfl e_X10_readLine_171 ?_
          refine r_getC F e_X10_readLine_172 fl_X10_202 h14219 (yd14210) ?_
          refine m_iconst F (v := 1) (by decide) e_X10_readLine_175 ?_
          refine m_iadd F e_X10_readLine_176 ?_
          refine Wm.topE (w := nI (ln3 + 1)) (nI_add ln3 1) ?_
          refine r_put F (g' := (⟨T, 0, u, h, P14054, L⟩ : RG)) e_X10_readLine_177 fp_X10_202 h14219 (by decide) ⟨_, rfl⟩ (fun _ _ _ _ q => q) (fun _ _ _ q => q) rfl rfl (by decide) (fun σ14227 h14228 g14229 g14230 f14231 => ?_)
          have ga14232 := ga14203.of (g14229 _ (by omega))
          have ga14233 := ga14204.of (g14229 _ (by omega))
          have ga14234 := ga14205.of (g14229 _ (by omega))
          have ga14235 := ga14206.of (g14229 _ (by omega))
          have ga14236 := ga14207.of (g14229 _ (by omega))
          have ga14237 := ga14208.of (g14229 _ (by omega))
          have ga14238 := ga14209.of (g14229 _ (by omega))
          have h14239 : HS V c _ [0, 2, 17, 18, 19, 20, 21, 22, 23] _ _ := ⟨HR.mono (Z' := Z) (by intro e; first | rfl | assumption | omega) h14228.1, h14228.2⟩
          exact m_vret F hQ e_X10_readLine_180 (⟨P14054, oP14054, (by unfold RP; omega), (by rw [eo14059]; show RM _ c n _ (stopS (tok t n) (j1, 3, j3, j4) nl3 nm3 np3 nc3 lc3 no3 sd3 md3 ln3); rw [stopS_1 (by decide)]; exact RM.l ((g14230 23 (by decide)).trans yd14215) ((g14230 24 (by decide)).trans yd14216) (by omega) (by omega) (by omega)), (fun S2 hS _ => by rw [eo14059] at hS; replace hS : stopS (tok t n) (j1, 3, j3, j4) nl3 nm3 np3 nc3 lc3 no3 sd3 md3 ln3 = .inr S2 := hS; rw [stopS_1 (by decide)] at hS; cases hS), h14239, rfl⟩)
        · refine r_getC F e_X10_readLine_154 fl_X10_110 h14053 (yd14076) ?_
          refine m_iconst F (v := 3) (by decide) e_X10_readLine_157 ?_
          refine m_icmp_eq F e_X10_readLine_158 (fun _ => ?_) (fun q => absurd (by decide) q)
          refine m_aload_n F rfl e_X10_readLine_166 ?_
          refine r_callV F e_X10_readLine_167 (q_X10_goOnE (x_l X) V c T Z u h P14054 L _ _  n j1 3 va3 ln3 fp3 t h14053.1 (hob) oP14054  ⟨(yd14073), (yd14074), (yd14075), (yd14076), (yd14077), (yd14078), (yd14079)⟩ ga14056 hn7 (by omega)) cb_X10_goOn ml_X10_154 im_X10_goOn se_X10_goOn h14053 rfl rfl (rest := []) rfl (Nat.le_of_ble_eq_true rfl) ⟨Nat.le_of_ble_eq_true rfl, Nat.le_of_ble_eq_true rfl⟩ ⟨Nat.le_of_ble_eq_true rfl, Nat.le_of_ble_eq_true rfl⟩ (fun r σ14240 hp => ?_)
          obtain ⟨P14243, oP14243, rP14243, pr14244, pr14245, h14241, hp⟩ := hp
          have h14242 := HS.trans h14053 h14241 (by decide)
          have xP14243 := oP14243
          unfold OKP at xP14243
          unfold RA at rP14243
          have ga14246 := ga14056.of (h14241.2 (c + 1) (by rw [kC_at (k := 1) (by decide)]; decide))
          have ga14247 := hN3.of (h14241.2 (c + 2) (by rw [kC_at (k := 2) (by decide)]; decide))
          have ga14248 := hM3.of (h14241.2 (c + 3) (by rw [kC_at (k := 3) (by decide)]; decide))
          have ga14249 := hK3.of (h14241.2 (c + 7) (by rw [kC_at (k := 7) (by decide)]; decide))
          have ga14250 := hF3.of (h14241.2 (c + 8) (by rw [kC_at (k := 8) (by decide)]; decide))
          have ga14251 := hG3.of (h14241.2 (c + 9) (by rw [kC_at (k := 9) (by decide)]; decide))
          have ga14252 := hQ3.of (h14241.2 (c + 11) (by rw [kC_at (k := 11) (by decide)]; decide))
          obtain rfl := hp
          rw [pa3] at pr14244 pr14245
          have b8 := tok_ok (t := t) (n := n) j4 c1
          obtain ⟨so14253, va14254, mt14255, yd14256⟩ := pr14245
          have hyd14257 := yd14256
          obtain ⟨yd14257, yd14258, yd14259, yd14260, yd14261, yd14262, yd14263⟩ := hyd14257
          refine m_aload_n F rfl e_X10_readLine_170 ?_
          refine m_dup F rfl e_X10_readLine_171 ?_
          refine r_getC F e_X10_readLine_172 fl_X10_202 h14242 (yd14257) ?_
          refine m_iconst F (v := 1) (by decide) e_X10_readLine_175 ?_
          refine m_iadd F e_X10_readLine_176 ?_
          refine Wm.topE (w := nI (ln3 + 1)) (nI_add ln3 1) ?_
          refine r_put F (g' := (⟨T, Z, u, h, P14243, L⟩ : RG)) e_X10_readLine_177 fp_X10_202 h14242 (by decide) ⟨_, rfl⟩ (fun _ _ _ _ q => q) (fun _ _ _ q => q) rfl rfl (by decide) (fun σ14264 h14265 g14266 g14267 f14268 => ?_)
          have ga14269 := ga14246.of (g14266 _ (by omega))
          have ga14270 := ga14247.of (g14266 _ (by omega))
          have ga14271 := ga14248.of (g14266 _ (by omega))
          have ga14272 := ga14249.of (g14266 _ (by omega))
          have ga14273 := ga14250.of (g14266 _ (by omega))
          have ga14274 := ga14251.of (g14266 _ (by omega))
          have ga14275 := ga14252.of (g14266 _ (by omega))
          exact m_vret F hQ e_X10_readLine_180 (⟨P14243, oP14243, (by unfold RP; omega), (by rw [eo14059]; show RM _ c n _ (stopS (tok t n) (j1, 4, j3, j4) nl3 nm3 np3 nc3 lc3 no3 sd3 md3 ln3); rw [stopS_ok]; exact RM.r mt14255 ⟨(f14268), ((g14267 18 (by decide)).trans yd14258), ((g14267 20 (by decide)).trans yd14259), ((g14267 21 (by decide)).trans yd14260), ((g14267 22 (by decide)).trans yd14261), ((g14267 23 (by decide)).trans yd14262), ((g14267 24 (by decide)).trans yd14263)⟩ (by omega) (by omega) (by omega) ga14270 ga14271 ga14272 ga14273 ga14274 ga14275 (by omega) (by omega) (by omega) (by omega) (by omega)), (fun S2 hS hz => by rw [eo14059] at hS; replace hS : stopS (tok t n) (j1, 4, j3, j4) nl3 nm3 np3 nc3 lc3 no3 sd3 md3 ln3 = .inr S2 := hS; rw [stopS_ok] at hS; cases hS; replace hz : (tok t n j4).2.1 ≠ 0 := hz; have h8 := b8.2.2.2 hz; omega), h14265, rfl⟩)
        · refine r_getC F e_X10_readLine_154 fl_X10_110 h14053 (yd14076) ?_
          refine m_iconst F (v := 3) (by decide) e_X10_readLine_157 ?_
          refine m_icmp_eq F e_X10_readLine_158 (fun q => absurd q (by decide)) (fun _ => ?_)
          refine m_aload_n F rfl e_X10_readLine_161 ?_
          refine m_iconst F (v := 1) (by decide) e_X10_readLine_162 ?_
          refine r_callV F e_X10_readLine_163 (q_X10_wrongE (x_l X) V c T Z u h P14054 L _ _ 1 n j1 5 va3 ln3 fp3 h14053.1 (hob) oP14054 (by omega) ⟨(yd14073), (yd14074), (yd14075), (yd14076), (yd14077), (yd14078), (yd14079)⟩ (by decide)) cb_X10_wrong ml_X10_150 im_X10_wrong se_X10_wrong h14053 rfl rfl (rest := []) rfl (Nat.le_of_ble_eq_true rfl) ⟨Nat.le_of_ble_eq_true rfl, Nat.le_of_ble_eq_true rfl⟩ ⟨Nat.le_of_ble_eq_true rfl, Nat.le_of_ble_eq_true rfl⟩ (fun r σ14276 hp => ?_)
          obtain ⟨h14277, hp⟩ := hp
          have h14278 := HS.trans h14053 h14277 (by decide)
          have ga14279 := ga14056.of (h14277.2 (c + 1) (by rw [kC_at (k := 1) (by decide)]; decide))
          have ga14280 := hN3.of (h14277.2 (c + 2) (by rw [kC_at (k := 2) (by decide)]; decide))
          have ga14281 := hM3.of (h14277.2 (c + 3) (by rw [kC_at (k := 3) (by decide)]; decide))
          have ga14282 := hK3.of (h14277.2 (c + 7) (by rw [kC_at (k := 7) (by decide)]; decide))
          have ga14283 := hF3.of (h14277.2 (c + 8) (by rw [kC_at (k := 8) (by decide)]; decide))
          have ga14284 := hG3.of (h14277.2 (c + 9) (by rw [kC_at (k := 9) (by decide)]; decide))
          have ga14285 := hQ3.of (h14277.2 (c + 11) (by rw [kC_at (k := 11) (by decide)]; decide))
          obtain ⟨hp, rfl⟩ := hp
          have hyd14286 := hp
          obtain ⟨yd14286, yd14287, yd14288, yd14289, yd14290, yd14291, yd14292⟩ := hyd14286
          refine m_aload_n F rfl e_X10_readLine_166 ?_
          refine r_callV F e_X10_readLine_167 (q_X10_goOnG (x_l X) V c T 0 u h P14054 L _ _  1 h14278.1 (hob) oP14054  (yd14291) (by decide)) cb_X10_goOn ml_X10_154 im_X10_goOn se_X10_goOn h14278 rfl rfl (rest := []) rfl (Nat.le_of_ble_eq_true rfl) ⟨Nat.le_of_ble_eq_true rfl, Nat.le_of_ble_eq_true rfl⟩ ⟨Nat.le_of_ble_eq_true rfl, Nat.le_of_ble_eq_true rfl⟩ (fun r σ14293 hp => ?_)
          obtain ⟨h14294, hp⟩ := hp
          have h14295 := HS.trans h14278 h14294 (by decide)
          have ga14296 := ga14279.of (h14294.2 (c + 1) (by rw [kC_at (k := 1) (by decide)]; decide))
          have ga14297 := ga14280.of (h14294.2 (c + 2) (by rw [kC_at (k := 2) (by decide)]; decide))
          have ga14298 := ga14281.of (h14294.2 (c + 3) (by rw [kC_at (k := 3) (by decide)]; decide))
          have ga14299 := ga14282.of (h14294.2 (c + 7) (by rw [kC_at (k := 7) (by decide)]; decide))
          have ga14300 := ga14283.of (h14294.2 (c + 8) (by rw [kC_at (k := 8) (by decide)]; decide))
          have ga14301 := ga14284.of (h14294.2 (c + 9) (by rw [kC_at (k := 9) (by decide)]; decide))
          have ga14302 := ga14285.of (h14294.2 (c + 11) (by rw [kC_at (k := 11) (by decide)]; decide))
          obtain ⟨rfl, rfl⟩ := hp
          refine m_aload_n F rfl e_X10_readLine_170 ?_
          refine m_dup F rfl e_X10_readLine_171 ?_
          refine r_getC F e_X10_readLine_172 fl_X10_202 h14295 (yd14286) ?_
          refine m_iconst F (v := 1) (by decide) e_X10_readLine_175 ?_
          refine m_iadd F e_X10_readLine_176 ?_
          refine Wm.topE (w := nI (ln3 + 1)) (nI_add ln3 1) ?_
          refine r_put F (g' := (⟨T, 0, u, h, P14054, L⟩ : RG)) e_X10_readLine_177 fp_X10_202 h14295 (by decide) ⟨_, rfl⟩ (fun _ _ _ _ q => q) (fun _ _ _ q => q) rfl rfl (by decide) (fun σ14303 h14304 g14305 g14306 f14307 => ?_)
          have ga14308 := ga14279.of (g14305 _ (by omega))
          have ga14309 := ga14280.of (g14305 _ (by omega))
          have ga14310 := ga14281.of (g14305 _ (by omega))
          have ga14311 := ga14282.of (g14305 _ (by omega))
          have ga14312 := ga14283.of (g14305 _ (by omega))
          have ga14313 := ga14284.of (g14305 _ (by omega))
          have ga14314 := ga14285.of (g14305 _ (by omega))
          have h14315 : HS V c _ [0, 2, 17, 18, 19, 20, 21, 22, 23] _ _ := ⟨HR.mono (Z' := Z) (by intro e; first | rfl | assumption | omega) h14304.1, h14304.2⟩
          exact m_vret F hQ e_X10_readLine_180 (⟨P14054, oP14054, (by unfold RP; omega), (by rw [eo14059]; show RM _ c n _ (stopS (tok t n) (j1, 5, j3, j4) nl3 nm3 np3 nc3 lc3 no3 sd3 md3 ln3); rw [stopS_1 (by decide)]; exact RM.l ((g14306 23 (by decide)).trans yd14291) ((g14306 24 (by decide)).trans yd14292) (by omega) (by omega) (by omega)), (fun S2 hS _ => by rw [eo14059] at hS; replace hS : stopS (tok t n) (j1, 5, j3, j4) nl3 nm3 np3 nc3 lc3 no3 sd3 md3 ln3 = .inr S2 := hS; rw [stopS_1 (by decide)] at hS; cases hS), h14315, rfl⟩)
    · refine r_getC F e_X10_readLine_1 fl_X10_110 h1 (yd14007) ?_
      refine m_if_eq F e_X10_readLine_4 (fun _ => ?_) (fun q => absurd (by decide) q)
      refine m_aload_n F rfl e_X10_readLine_15 ?_
      refine r_getC F e_X10_readLine_16 fl_X10_120 h1 (yd14008) ?_
      refine m_if_ne F e_X10_readLine_19 (fun _ => ?_) (fun q => absurd q (by decide))
      refine m_aload_n F rfl e_X10_readLine_29 ?_
      refine r_getC F e_X10_readLine_30 fl_X10_120 h1 (yd14008) ?_
      refine m_iconst F (v := 1) (by decide) e_X10_readLine_33 ?_
      refine m_icmp_ne F e_X10_readLine_34 (fun q => absurd (by decide) q) (fun _ => ?_)
      refine m_aload_n F rfl e_X10_readLine_37 ?_
      refine r_callV F e_X10_readLine_38 (q_X10_readPayE (x_l X) V c T Z u h P L _ _  n st 0 1 ln fp t 1 1 nm np lc no sd md h1.1 (hob) hP  ⟨(yd14004), (yd14005), (yd14006), (yd14007), (yd14008), (yd14009), (yd14010)⟩ hp1 hn7 (by omega) hp4 hp5 hp6 hp7 hp8 hp9 hp10 hp11 hp12 hp13 hp14) cb_X10_readPay ml_X10_181 im_X10_readPay se_X10_readPay h1 rfl rfl (rest := []) rfl (Nat.le_of_ble_eq_true rfl) ⟨Nat.le_of_ble_eq_true rfl, Nat.le_of_ble_eq_true rfl⟩ ⟨Nat.le_of_ble_eq_true rfl, Nat.le_of_ble_eq_true rfl⟩ (fun r σ14316 hp => ?_)
      obtain ⟨P14319, oP14319, rP14319, pr14320, h14317, hp⟩ := hp
      have h14318 := HS.trans h1 h14317 (by decide)
      have xP14319 := oP14319
      unfold OKP at xP14319
      unfold RP at rP14319
      have ga14321 := hp1.of (h14317.2 (c + 1) (by rw [kC_at (k := 1) (by decide)]; decide))
      have ga14322 := hp7.of (h14317.2 (c + 3) (by rw [kC_at (k := 3) (by decide)]; decide))
      have ga14323 := hp8.of (h14317.2 (c + 7) (by rw [kC_at (k := 7) (by decide)]; decide))
      have ga14324 := hp9.of (h14317.2 (c + 8) (by rw [kC_at (k := 8) (by decide)]; decide))
      have ga14325 := hp10.of (h14317.2 (c + 9) (by rw [kC_at (k := 9) (by decide)]; decide))
      have ga14326 := hp11.of (h14317.2 (c + 11) (by rw [kC_at (k := 11) (by decide)]; decide))
      obtain rfl := hp
      have rm14327 : RM σ14316 c n P14319 (lineS (tok t n) (st, 1, 1, P.a) P.n5 nm np P.n7 lc no sd md ln) := by rw [lineS_1]; exact pr14320
      cases eo14328 : lineS (tok t n) (st, 1, 1, P.a) P.n5 nm np P.n7 lc no sd md ln with
      | inl e8 =>
        rw [eo14328] at rm14327
        obtain ⟨⟨fa14329, fb14330⟩, c1, c2, c3⟩ := rm14327
        have nz8 : nI e8.1 ≠ 0 := fun e => absurd (nI_inj9 (b := 0) (by omega) (by omega) e) (by omega)
        refine m_goto F e_X10_readLine_41 ?_
        refine m_aload_n F rfl e_X10_readLine_146 ?_
        refine r_getC F e_X10_readLine_147 fl_X10_141 h14318 (fa14329) ?_
        refine m_if_ne F e_X10_readLine_150 (fun q150 => ?_) (fun q150 => ?_)
        · have c150 : e8.1 ≠ 0 := by have hh := mt (nI_eq (a := e8.1) (b := 0) (by omega) (by omega)).mpr q150; omega
          refine m_aload_n F rfl e_X10_readLine_166 ?_
          refine r_callV F e_X10_readLine_167 (q_X10_goOnG (x_l X) V c T Z u h P14319 L _ _  (nI e8.1) h14318.1 (hob) oP14319  (fa14329) (by assumption)) cb_X10_goOn ml_X10_154 im_X10_goOn se_X10_goOn h14318 rfl rfl (rest := []) rfl (Nat.le_of_ble_eq_true rfl) ⟨Nat.le_of_ble_eq_true rfl, Nat.le_of_ble_eq_true rfl⟩ ⟨Nat.le_of_ble_eq_true rfl, Nat.le_of_ble_eq_true rfl⟩ (fun r σ14331 hp => ?_)
          obtain ⟨h14332, hp⟩ := hp
          have h14333 := HS.trans h14318 h14332 (by decide)
          obtain ⟨rfl, rfl⟩ := hp
          refine m_aload_n F rfl e_X10_readLine_170 ?_
          refine m_dup F rfl e_X10_readLine_171 ?_
          refine r_get F e_X10_readLine_172 fl_X10_202 h14333 rfl (fun v hv f14334 => ?_)
          obtain ⟨x14335, rfl⟩ := hv
          refine m_iconst F (v := 1) (by decide) e_X10_readLine_175 ?_
          refine m_iadd F e_X10_readLine_176 ?_
          refine Wm.top (fun x14336 _ => ?_)
          refine r_put F (g' := (⟨T, Z, u, h, P14319, L⟩ : RG)) e_X10_readLine_177 fp_X10_202 h14333 (by decide) ⟨_, rfl⟩ (fun _ _ _ _ q => q) (fun _ _ _ q => q) rfl rfl (by decide) (fun σ14337 h14338 g14339 g14340 f14341 => ?_)
          exact m_vret F hQ e_X10_readLine_180 (⟨P14319, oP14319, (by unfold RP; omega), (by rw [eo14328]; show RM _ c n _ (.inl e8); exact RM.l ((g14340 23 (by decide)).trans fa14329) ((g14340 24 (by decide)).trans fb14330) (by omega) (by omega) (by omega)), (fun S2 hS _ => by rw [eo14328] at hS; cases hS), h14338, rfl⟩)
        · have c150 : e8.1 = 0 := (nI_eq (a := e8.1) (b := 0) (by omega) (by omega)).mp q150
          exact absurd q150 nz8
      | inr S1 =>
        rw [eo14328] at rm14327
        obtain ⟨⟨j1, j2, j3, j4⟩, nl3, nm3, np3, nc3, lc3, no3, sd3, md3, ln3⟩ := S1
        obtain ⟨so3, va3, fp3, mt3, yd3, ⟨pa3, p53, p73⟩, hN3, hM3, hK3, hF3, hG3, hQ3, c1, c2, c3, c4, c5⟩ := rm14327
        replace pa3 : _ = j4 := pa3
        replace c1 : j4 ≤ n := c1
        replace c2 : j1 ≤ n := c2
        have hyd14342 := yd3
        obtain ⟨yd14342, yd14343, yd14344, yd14345, yd14346, yd14347, yd14348⟩ := hyd14342
        refine m_goto F e_X10_readLine_41 ?_
        refine m_aload_n F rfl e_X10_readLine_146 ?_
        refine r_getC F e_X10_readLine_147 fl_X10_141 h14318 (yd14347) ?_
        refine m_if_ne F e_X10_readLine_150 (fun q => absurd (by decide) q) (fun _ => ?_)
        refine m_aload_n F rfl e_X10_readLine_153 ?_
        have hmt := mt3
        rcases hmt with ⟨rfl, rfl⟩ | ⟨rfl, rfl, rfl, hv3⟩ | ⟨rfl, rfl, rfl, hv3⟩ | ⟨rfl, rfl, w3, hw3, rfl, hm3⟩ | ⟨rfl, rfl⟩ | ⟨rfl, rfl⟩
        · refine r_getC F e_X10_readLine_154 fl_X10_110 h14318 (yd14345) ?_
          refine m_iconst F (v := 3) (by decide) e_X10_readLine_157 ?_
          refine m_icmp_eq F e_X10_readLine_158 (fun q => absurd q (by decide)) (fun _ => ?_)
          refine m_aload_n F rfl e_X10_readLine_161 ?_
          refine m_iconst F (v := 1) (by decide) e_X10_readLine_162 ?_
          refine r_callV F e_X10_readLine_163 (q_X10_wrongE (x_l X) V c T Z u h P14319 L _ _ 1 n j1 4 va3 ln3 fp3 h14318.1 (hob) oP14319 (by omega) ⟨(yd14342), (yd14343), (yd14344), (yd14345), (yd14346), (yd14347), (yd14348)⟩ (by decide)) cb_X10_wrong ml_X10_150 im_X10_wrong se_X10_wrong h14318 rfl rfl (rest := []) rfl (Nat.le_of_ble_eq_true rfl) ⟨Nat.le_of_ble_eq_true rfl, Nat.le_of_ble_eq_true rfl⟩ ⟨Nat.le_of_ble_eq_true rfl, Nat.le_of_ble_eq_true rfl⟩ (fun r σ14349 hp => ?_)
          obtain ⟨h14350, hp⟩ := hp
          have h14351 := HS.trans h14318 h14350 (by decide)
          have ga14352 := ga14321.of (h14350.2 (c + 1) (by rw [kC_at (k := 1) (by decide)]; decide))
          have ga14353 := hN3.of (h14350.2 (c + 2) (by rw [kC_at (k := 2) (by decide)]; decide))
          have ga14354 := hM3.of (h14350.2 (c + 3) (by rw [kC_at (k := 3) (by decide)]; decide))
          have ga14355 := hK3.of (h14350.2 (c + 7) (by rw [kC_at (k := 7) (by decide)]; decide))
          have ga14356 := hF3.of (h14350.2 (c + 8) (by rw [kC_at (k := 8) (by decide)]; decide))
          have ga14357 := hG3.of (h14350.2 (c + 9) (by rw [kC_at (k := 9) (by decide)]; decide))
          have ga14358 := hQ3.of (h14350.2 (c + 11) (by rw [kC_at (k := 11) (by decide)]; decide))
          obtain ⟨hp, rfl⟩ := hp
          have hyd14359 := hp
          obtain ⟨yd14359, yd14360, yd14361, yd14362, yd14363, yd14364, yd14365⟩ := hyd14359
          refine m_aload_n F rfl e_X10_readLine_166 ?_
          refine r_callV F e_X10_readLine_167 (q_X10_goOnG (x_l X) V c T 0 u h P14319 L _ _  1 h14351.1 (hob) oP14319  (yd14364) (by decide)) cb_X10_goOn ml_X10_154 im_X10_goOn se_X10_goOn h14351 rfl rfl (rest := []) rfl (Nat.le_of_ble_eq_true rfl) ⟨Nat.le_of_ble_eq_true rfl, Nat.le_of_ble_eq_true rfl⟩ ⟨Nat.le_of_ble_eq_true rfl, Nat.le_of_ble_eq_true rfl⟩ (fun r σ14366 hp => ?_)
          obtain ⟨h14367, hp⟩ := hp
          have h14368 := HS.trans h14351 h14367 (by decide)
          have ga14369 := ga14352.of (h14367.2 (c + 1) (by rw [kC_at (k := 1) (by decide)]; decide))
          have ga14370 := ga14353.of (h14367.2 (c + 2) (by rw [kC_at (k := 2) (by decide)]; decide))
          have ga14371 := ga14354.of (h14367.2 (c + 3) (by rw [kC_at (k := 3) (by decide)]; decide))
          have ga14372 := ga14355.of (h14367.2 (c + 7) (by rw [kC_at (k := 7) (by decide)]; decide))
          have ga14373 := ga14356.of (h14367.2 (c + 8) (by rw [kC_at (k := 8) (by decide)]; decide))
          have ga14374 := ga14357.of (h14367.2 (c + 9) (by rw [kC_at (k := 9) (by decide)]; decide))
          have ga14375 := ga14358.of (h14367.2 (c + 11) (by rw [kC_at (k := 11) (by decide)]; decide))
          obtain ⟨rfl, rfl⟩ := hp
          refine m_aload_n F rfl e_X10_readLine_170 ?_
          refine m_dup F rfl e_X10_readLine_171 ?_
          refine r_getC F e_X10_readLine_172 fl_X10_202 h14368 (yd14359) ?_
          refine m_iconst F (v := 1) (by decide) e_X10_readLine_175 ?_
          refine m_iadd F e_X10_readLine_176 ?_
          refine Wm.topE (w := nI (ln3 + 1)) (nI_add ln3 1) ?_
          refine r_put F (g' := (⟨T, 0, u, h, P14319, L⟩ : RG)) e_X10_readLine_177 fp_X10_202 h14368 (by decide) ⟨_, rfl⟩ (fun _ _ _ _ q => q) (fun _ _ _ q => q) rfl rfl (by decide) (fun σ14376 h14377 g14378 g14379 f14380 => ?_)
          have ga14381 := ga14352.of (g14378 _ (by omega))
          have ga14382 := ga14353.of (g14378 _ (by omega))
          have ga14383 := ga14354.of (g14378 _ (by omega))
          have ga14384 := ga14355.of (g14378 _ (by omega))
          have ga14385 := ga14356.of (g14378 _ (by omega))
          have ga14386 := ga14357.of (g14378 _ (by omega))
          have ga14387 := ga14358.of (g14378 _ (by omega))
          have h14388 : HS V c _ [0, 2, 17, 18, 19, 20, 21, 22, 23] _ _ := ⟨HR.mono (Z' := Z) (by intro e; first | rfl | assumption | omega) h14377.1, h14377.2⟩
          exact m_vret F hQ e_X10_readLine_180 (⟨P14319, oP14319, (by unfold RP; omega), (by rw [eo14328]; show RM _ c n _ (stopS (tok t n) (j1, 0, j3, j4) nl3 nm3 np3 nc3 lc3 no3 sd3 md3 ln3); rw [stopS_1 (by decide)]; exact RM.l ((g14379 23 (by decide)).trans yd14364) ((g14379 24 (by decide)).trans yd14365) (by omega) (by omega) (by omega)), (fun S2 hS _ => by rw [eo14328] at hS; replace hS : stopS (tok t n) (j1, 0, j3, j4) nl3 nm3 np3 nc3 lc3 no3 sd3 md3 ln3 = .inr S2 := hS; rw [stopS_1 (by decide)] at hS; cases hS), h14388, rfl⟩)
        · refine r_getC F e_X10_readLine_154 fl_X10_110 h14318 (yd14345) ?_
          refine m_iconst F (v := 3) (by decide) e_X10_readLine_157 ?_
          refine m_icmp_eq F e_X10_readLine_158 (fun q => absurd q (by decide)) (fun _ => ?_)
          refine m_aload_n F rfl e_X10_readLine_161 ?_
          refine m_iconst F (v := 1) (by decide) e_X10_readLine_162 ?_
          refine r_callV F e_X10_readLine_163 (q_X10_wrongE (x_l X) V c T Z u h P14319 L _ _ 1 n j1 0 (nI j3) ln3 fp3 h14318.1 (hob) oP14319 (by omega) ⟨(yd14342), (yd14343), (yd14344), (yd14345), (yd14346), (yd14347), (yd14348)⟩ (by decide)) cb_X10_wrong ml_X10_150 im_X10_wrong se_X10_wrong h14318 rfl rfl (rest := []) rfl (Nat.le_of_ble_eq_true rfl) ⟨Nat.le_of_ble_eq_true rfl, Nat.le_of_ble_eq_true rfl⟩ ⟨Nat.le_of_ble_eq_true rfl, Nat.le_of_ble_eq_true rfl⟩ (fun r σ14389 hp => ?_)
          obtain ⟨h14390, hp⟩ := hp
          have h14391 := HS.trans h14318 h14390 (by decide)
          have ga14392 := ga14321.of (h14390.2 (c + 1) (by rw [kC_at (k := 1) (by decide)]; decide))
          have ga14393 := hN3.of (h14390.2 (c + 2) (by rw [kC_at (k := 2) (by decide)]; decide))
          have ga14394 := hM3.of (h14390.2 (c + 3) (by rw [kC_at (k := 3) (by decide)]; decide))
          have ga14395 := hK3.of (h14390.2 (c + 7) (by rw [kC_at (k := 7) (by decide)]; decide))
          have ga14396 := hF3.of (h14390.2 (c + 8) (by rw [kC_at (k := 8) (by decide)]; decide))
          have ga14397 := hG3.of (h14390.2 (c + 9) (by rw [kC_at (k := 9) (by decide)]; decide))
          have ga14398 := hQ3.of (h14390.2 (c + 11) (by rw [kC_at (k := 11) (by decide)]; decide))
          obtain ⟨hp, rfl⟩ := hp
          have hyd14399 := hp
          obtain ⟨yd14399, yd14400, yd14401, yd14402, yd14403, yd14404, yd14405⟩ := hyd14399
          refine m_aload_n F rfl e_X10_readLine_166 ?_
          refine r_callV F e_X10_readLine_167 (q_X10_goOnG (x_l X) V c T 0 u h P14319 L _ _  1 h14391.1 (hob) oP14319  (yd14404) (by decide)) cb_X10_goOn ml_X10_154 im_X10_goOn se_X10_goOn h14391 rfl rfl (rest := []) rfl (Nat.le_of_ble_eq_true rfl) ⟨Nat.le_of_ble_eq_true rfl, Nat.le_of_ble_eq_true rfl⟩ ⟨Nat.le_of_ble_eq_true rfl, Nat.le_of_ble_eq_true rfl⟩ (fun r σ14406 hp => ?_)
          obtain ⟨h14407, hp⟩ := hp
          have h14408 := HS.trans h14391 h14407 (by decide)
          have ga14409 := ga14392.of (h14407.2 (c + 1) (by rw [kC_at (k := 1) (by decide)]; decide))
          have ga14410 := ga14393.of (h14407.2 (c + 2) (by rw [kC_at (k := 2) (by decide)]; decide))
          have ga14411 := ga14394.of (h14407.2 (c + 3) (by rw [kC_at (k := 3) (by decide)]; decide))
          have ga14412 := ga14395.of (h14407.2 (c + 7) (by rw [kC_at (k := 7) (by decide)]; decide))
          have ga14413 := ga14396.of (h14407.2 (c + 8) (by rw [kC_at (k := 8) (by decide)]; decide))
          have ga14414 := ga14397.of (h14407.2 (c + 9) (by rw [kC_at (k := 9) (by decide)]; decide))
          have ga14415 := ga14398.of (h14407.2 (c + 11) (by rw [kC_at (k := 11) (by decide)]; decide))
          obtain ⟨rfl, rfl⟩ := hp
          refine m_aload_n F rfl e_X10_readLine_170 ?_
          refine m_dup F rfl e_X10_readLine_171 ?_
          refine r_getC F e_X10_readLine_172 fl_X10_202 h14408 (yd14399) ?_
          refine m_iconst F (v := 1) (by decide) e_X10_readLine_175 ?_
          refine m_iadd F e_X10_readLine_176 ?_
          refine Wm.topE (w := nI (ln3 + 1)) (nI_add ln3 1) ?_
          refine r_put F (g' := (⟨T, 0, u, h, P14319, L⟩ : RG)) e_X10_readLine_177 fp_X10_202 h14408 (by decide) ⟨_, rfl⟩ (fun _ _ _ _ q => q) (fun _ _ _ q => q) rfl rfl (by decide) (fun σ14416 h14417 g14418 g14419 f14420 => ?_)
          have ga14421 := ga14392.of (g14418 _ (by omega))
          have ga14422 := ga14393.of (g14418 _ (by omega))
          have ga14423 := ga14394.of (g14418 _ (by omega))
          have ga14424 := ga14395.of (g14418 _ (by omega))
          have ga14425 := ga14396.of (g14418 _ (by omega))
          have ga14426 := ga14397.of (g14418 _ (by omega))
          have ga14427 := ga14398.of (g14418 _ (by omega))
          have h14428 : HS V c _ [0, 2, 17, 18, 19, 20, 21, 22, 23] _ _ := ⟨HR.mono (Z' := Z) (by intro e; first | rfl | assumption | omega) h14417.1, h14417.2⟩
          exact m_vret F hQ e_X10_readLine_180 (⟨P14319, oP14319, (by unfold RP; omega), (by rw [eo14328]; show RM _ c n _ (stopS (tok t n) (j1, 1, j3, j4) nl3 nm3 np3 nc3 lc3 no3 sd3 md3 ln3); rw [stopS_1 (by decide)]; exact RM.l ((g14419 23 (by decide)).trans yd14404) ((g14419 24 (by decide)).trans yd14405) (by omega) (by omega) (by omega)), (fun S2 hS _ => by rw [eo14328] at hS; replace hS : stopS (tok t n) (j1, 1, j3, j4) nl3 nm3 np3 nc3 lc3 no3 sd3 md3 ln3 = .inr S2 := hS; rw [stopS_1 (by decide)] at hS; cases hS), h14428, rfl⟩)
        · refine r_getC F e_X10_readLine_154 fl_X10_110 h14318 (yd14345) ?_
          refine m_iconst F (v := 3) (by decide) e_X10_readLine_157 ?_
          refine m_icmp_eq F e_X10_readLine_158 (fun q => absurd q (by decide)) (fun _ => ?_)
          refine m_aload_n F rfl e_X10_readLine_161 ?_
          refine m_iconst F (v := 1) (by decide) e_X10_readLine_162 ?_
          refine r_callV F e_X10_readLine_163 (q_X10_wrongE (x_l X) V c T Z u h P14319 L _ _ 1 n j1 1 (nI j3) ln3 fp3 h14318.1 (hob) oP14319 (by omega) ⟨(yd14342), (yd14343), (yd14344), (yd14345), (yd14346), (yd14347), (yd14348)⟩ (by decide)) cb_X10_wrong ml_X10_150 im_X10_wrong se_X10_wrong h14318 rfl rfl (rest := []) rfl (Nat.le_of_ble_eq_true rfl) ⟨Nat.le_of_ble_eq_true rfl, Nat.le_of_ble_eq_true rfl⟩ ⟨Nat.le_of_ble_eq_true rfl, Nat.le_of_ble_eq_true rfl⟩ (fun r σ14429 hp => ?_)
          obtain ⟨h14430, hp⟩ := hp
          have h14431 := HS.trans h14318 h14430 (by decide)
          have ga14432 := ga14321.of (h14430.2 (c + 1) (by rw [kC_at (k := 1) (by decide)]; decide))
          have ga14433 := hN3.of (h14430.2 (c + 2) (by rw [kC_at (k := 2) (by decide)]; decide))
          have ga14434 := hM3.of (h14430.2 (c + 3) (by rw [kC_at (k := 3) (by decide)]; decide))
          have ga14435 := hK3.of (h14430.2 (c + 7) (by rw [kC_at (k := 7) (by decide)]; decide))
          have ga14436 := hF3.of (h14430.2 (c + 8) (by rw [kC_at (k := 8) (by decide)]; decide))
          have ga14437 := hG3.of (h14430.2 (c + 9) (by rw [kC_at (k := 9) (by decide)]; decide))
          have ga14438 := hQ3.of (h14430.2 (c + 11) (by rw [kC_at (k := 11) (by decide)]; decide))
          obtain ⟨hp, rfl⟩ := hp
          have hyd14439 := hp
          obtain ⟨yd14439, yd14440, yd14441, yd14442, yd14443, yd14444, yd14445⟩ := hyd14439
          refine m_aload_n F rfl e_X10_readLine_166 ?_
          refine r_callV F e_X10_readLine_167 (q_X10_goOnG (x_l X) V c T 0 u h P14319 L _ _  1 h14431.1 (hob) oP14319  (yd14444) (by decide)) cb_X10_goOn ml_X10_154 im_X10_goOn se_X10_goOn h14431 rfl rfl (rest := []) rfl (Nat.le_of_ble_eq_true rfl) ⟨Nat.le_of_ble_eq_true rfl, Nat.le_of_ble_eq_true rfl⟩ ⟨Nat.le_of_ble_eq_true rfl, Nat.le_of_ble_eq_true rfl⟩ (fun r σ14446 hp => ?_)
          obtain ⟨h14447, hp⟩ := hp
          have h14448 := HS.trans h14431 h14447 (by decide)
          have ga14449 := ga14432.of (h14447.2 (c + 1) (by rw [kC_at (k := 1) (by decide)]; decide))
          have ga14450 := ga14433.of (h14447.2 (c + 2) (by rw [kC_at (k := 2) (by decide)]; decide))
          have ga14451 := ga14434.of (h14447.2 (c + 3) (by rw [kC_at (k := 3) (by decide)]; decide))
          have ga14452 := ga14435.of (h14447.2 (c + 7) (by rw [kC_at (k := 7) (by decide)]; decide))
          have ga14453 := ga14436.of (h14447.2 (c + 8) (by rw [kC_at (k := 8) (by decide)]; decide))
          have ga14454 := ga14437.of (h14447.2 (c + 9) (by rw [kC_at (k := 9) (by decide)]; decide))
          have ga14455 := ga14438.of (h14447.2 (c + 11) (by rw [kC_at (k := 11) (by decide)]; decide))
          obtain ⟨rfl, rfl⟩ := hp
          refine m_aload_n F rfl e_X10_readLine_170 ?_
          refine m_dup F rfl e_X10_readLine_171 ?_
          refine r_getC F e_X10_readLine_172 fl_X10_202 h14448 (yd14439) ?_
          refine m_iconst F (v := 1) (by decide) e_X10_readLine_175 ?_
          refine m_iadd F e_X10_readLine_176 ?_
          refine Wm.topE (w := nI (ln3 + 1)) (nI_add ln3 1) ?_
          refine r_put F (g' := (⟨T, 0, u, h, P14319, L⟩ : RG)) e_X10_readLine_177 fp_X10_202 h14448 (by decide) ⟨_, rfl⟩ (fun _ _ _ _ q => q) (fun _ _ _ q => q) rfl rfl (by decide) (fun σ14456 h14457 g14458 g14459 f14460 => ?_)
          have ga14461 := ga14432.of (g14458 _ (by omega))
          have ga14462 := ga14433.of (g14458 _ (by omega))
          have ga14463 := ga14434.of (g14458 _ (by omega))
          have ga14464 := ga14435.of (g14458 _ (by omega))
          have ga14465 := ga14436.of (g14458 _ (by omega))
          have ga14466 := ga14437.of (g14458 _ (by omega))
          have ga14467 := ga14438.of (g14458 _ (by omega))
          have h14468 : HS V c _ [0, 2, 17, 18, 19, 20, 21, 22, 23] _ _ := ⟨HR.mono (Z' := Z) (by intro e; first | rfl | assumption | omega) h14457.1, h14457.2⟩
          exact m_vret F hQ e_X10_readLine_180 (⟨P14319, oP14319, (by unfold RP; omega), (by rw [eo14328]; show RM _ c n _ (stopS (tok t n) (j1, 2, j3, j4) nl3 nm3 np3 nc3 lc3 no3 sd3 md3 ln3); rw [stopS_1 (by decide)]; exact RM.l ((g14459 23 (by decide)).trans yd14444) ((g14459 24 (by decide)).trans yd14445) (by omega) (by omega) (by omega)), (fun S2 hS _ => by rw [eo14328] at hS; replace hS : stopS (tok t n) (j1, 2, j3, j4) nl3 nm3 np3 nc3 lc3 no3 sd3 md3 ln3 = .inr S2 := hS; rw [stopS_1 (by decide)] at hS; cases hS), h14468, rfl⟩)
        · refine r_getC F e_X10_readLine_154 fl_X10_110 h14318 (yd14345) ?_
          refine m_iconst F (v := 3) (by decide) e_X10_readLine_157 ?_
          refine m_icmp_eq F e_X10_readLine_158 (fun q => absurd q (by decide)) (fun _ => ?_)
          refine m_aload_n F rfl e_X10_readLine_161 ?_
          refine m_iconst F (v := 1) (by decide) e_X10_readLine_162 ?_
          refine r_callV F e_X10_readLine_163 (q_X10_wrongE (x_l X) V c T Z u h P14319 L _ _ 1 n j1 2 (nI w3) ln3 fp3 h14318.1 (hob) oP14319 (by omega) ⟨(yd14342), (yd14343), (yd14344), (yd14345), (yd14346), (yd14347), (yd14348)⟩ (by decide)) cb_X10_wrong ml_X10_150 im_X10_wrong se_X10_wrong h14318 rfl rfl (rest := []) rfl (Nat.le_of_ble_eq_true rfl) ⟨Nat.le_of_ble_eq_true rfl, Nat.le_of_ble_eq_true rfl⟩ ⟨Nat.le_of_ble_eq_true rfl, Nat.le_of_ble_eq_true rfl⟩ (fun r σ14469 hp => ?_)
          obtain ⟨h14470, hp⟩ := hp
          have h14471 := HS.trans h14318 h14470 (by decide)
          have ga14472 := ga14321.of (h14470.2 (c + 1) (by rw [kC_at (k := 1) (by decide)]; decide))
          have ga14473 := hN3.of (h14470.2 (c + 2) (by rw [kC_at (k := 2) (by decide)]; decide))
          have ga14474 := hM3.of (h14470.2 (c + 3) (by rw [kC_at (k := 3) (by decide)]; decide))
          have ga14475 := hK3.of (h14470.2 (c + 7) (by rw [kC_at (k := 7) (by decide)]; decide))
          have ga14476 := hF3.of (h14470.2 (c + 8) (by rw [kC_at (k := 8) (by decide)]; decide))
          have ga14477 := hG3.of (h14470.2 (c + 9) (by rw [kC_at (k := 9) (by decide)]; decide))
          have ga14478 := hQ3.of (h14470.2 (c + 11) (by rw [kC_at (k := 11) (by decide)]; decide))
          obtain ⟨hp, rfl⟩ := hp
          have hyd14479 := hp
          obtain ⟨yd14479, yd14480, yd14481, yd14482, yd14483, yd14484, yd14485⟩ := hyd14479
          refine m_aload_n F rfl e_X10_readLine_166 ?_
          refine r_callV F e_X10_readLine_167 (q_X10_goOnG (x_l X) V c T 0 u h P14319 L _ _  1 h14471.1 (hob) oP14319  (yd14484) (by decide)) cb_X10_goOn ml_X10_154 im_X10_goOn se_X10_goOn h14471 rfl rfl (rest := []) rfl (Nat.le_of_ble_eq_true rfl) ⟨Nat.le_of_ble_eq_true rfl, Nat.le_of_ble_eq_true rfl⟩ ⟨Nat.le_of_ble_eq_true rfl, Nat.le_of_ble_eq_true rfl⟩ (fun r σ14486 hp => ?_)
          obtain ⟨h14487, hp⟩ := hp
          have h14488 := HS.trans h14471 h14487 (by decide)
          have ga14489 := ga14472.of (h14487.2 (c + 1) (by rw [kC_at (k := 1) (by decide)]; decide))
          have ga14490 := ga14473.of (h14487.2 (c + 2) (by rw [kC_at (k := 2) (by decide)]; decide))
          have ga14491 := ga14474.of (h14487.2 (c + 3) (by rw [kC_at (k := 3) (by decide)]; decide))
          have ga14492 := ga14475.of (h14487.2 (c + 7) (by rw [kC_at (k := 7) (by decide)]; decide))
          have ga14493 := ga14476.of (h14487.2 (c + 8) (by rw [kC_at (k := 8) (by decide)]; decide))
          have ga14494 := ga14477.of (h14487.2 (c + 9) (by rw [kC_at (k := 9) (by decide)]; decide))
          have ga14495 := ga14478.of (h14487.2 (c + 11) (by rw [kC_at (k := 11) (by decide)]; decide))
          obtain ⟨rfl, rfl⟩ := hp
          refine m_aload_n F rfl e_X10_readLine_170 ?_
          refine m_dup F rfl e_X10_readLine_171 ?_
          refine r_getC F e_X10_readLine_172 fl_X10_202 h14488 (yd14479) ?_
          refine m_iconst F (v := 1) (by decide) e_X10_readLine_175 ?_
          refine m_iadd F e_X10_readLine_176 ?_
          refine Wm.topE (w := nI (ln3 + 1)) (nI_add ln3 1) ?_
          refine r_put F (g' := (⟨T, 0, u, h, P14319, L⟩ : RG)) e_X10_readLine_177 fp_X10_202 h14488 (by decide) ⟨_, rfl⟩ (fun _ _ _ _ q => q) (fun _ _ _ q => q) rfl rfl (by decide) (fun σ14496 h14497 g14498 g14499 f14500 => ?_)
          have ga14501 := ga14472.of (g14498 _ (by omega))
          have ga14502 := ga14473.of (g14498 _ (by omega))
          have ga14503 := ga14474.of (g14498 _ (by omega))
          have ga14504 := ga14475.of (g14498 _ (by omega))
          have ga14505 := ga14476.of (g14498 _ (by omega))
          have ga14506 := ga14477.of (g14498 _ (by omega))
          have ga14507 := ga14478.of (g14498 _ (by omega))
          have h14508 : HS V c _ [0, 2, 17, 18, 19, 20, 21, 22, 23] _ _ := ⟨HR.mono (Z' := Z) (by intro e; first | rfl | assumption | omega) h14497.1, h14497.2⟩
          exact m_vret F hQ e_X10_readLine_180 (⟨P14319, oP14319, (by unfold RP; omega), (by rw [eo14328]; show RM _ c n _ (stopS (tok t n) (j1, 3, j3, j4) nl3 nm3 np3 nc3 lc3 no3 sd3 md3 ln3); rw [stopS_1 (by decide)]; exact RM.l ((g14499 23 (by decide)).trans yd14484) ((g14499 24 (by decide)).trans yd14485) (by omega) (by omega) (by omega)), (fun S2 hS _ => by rw [eo14328] at hS; replace hS : stopS (tok t n) (j1, 3, j3, j4) nl3 nm3 np3 nc3 lc3 no3 sd3 md3 ln3 = .inr S2 := hS; rw [stopS_1 (by decide)] at hS; cases hS), h14508, rfl⟩)
        · refine r_getC F e_X10_readLine_154 fl_X10_110 h14318 (yd14345) ?_
          refine m_iconst F (v := 3) (by decide) e_X10_readLine_157 ?_
          refine m_icmp_eq F e_X10_readLine_158 (fun _ => ?_) (fun q => absurd (by decide) q)
          refine m_aload_n F rfl e_X10_readLine_166 ?_
          refine r_callV F e_X10_readLine_167 (q_X10_goOnE (x_l X) V c T Z u h P14319 L _ _  n j1 3 va3 ln3 fp3 t h14318.1 (hob) oP14319  ⟨(yd14342), (yd14343), (yd14344), (yd14345), (yd14346), (yd14347), (yd14348)⟩ ga14321 hn7 (by omega)) cb_X10_goOn ml_X10_154 im_X10_goOn se_X10_goOn h14318 rfl rfl (rest := []) rfl (Nat.le_of_ble_eq_true rfl) ⟨Nat.le_of_ble_eq_true rfl, Nat.le_of_ble_eq_true rfl⟩ ⟨Nat.le_of_ble_eq_true rfl, Nat.le_of_ble_eq_true rfl⟩ (fun r σ14509 hp => ?_)
          obtain ⟨P14512, oP14512, rP14512, pr14513, pr14514, h14510, hp⟩ := hp
          have h14511 := HS.trans h14318 h14510 (by decide)
          have xP14512 := oP14512
          unfold OKP at xP14512
          unfold RA at rP14512
          have ga14515 := ga14321.of (h14510.2 (c + 1) (by rw [kC_at (k := 1) (by decide)]; decide))
          have ga14516 := hN3.of (h14510.2 (c + 2) (by rw [kC_at (k := 2) (by decide)]; decide))
          have ga14517 := hM3.of (h14510.2 (c + 3) (by rw [kC_at (k := 3) (by decide)]; decide))
          have ga14518 := hK3.of (h14510.2 (c + 7) (by rw [kC_at (k := 7) (by decide)]; decide))
          have ga14519 := hF3.of (h14510.2 (c + 8) (by rw [kC_at (k := 8) (by decide)]; decide))
          have ga14520 := hG3.of (h14510.2 (c + 9) (by rw [kC_at (k := 9) (by decide)]; decide))
          have ga14521 := hQ3.of (h14510.2 (c + 11) (by rw [kC_at (k := 11) (by decide)]; decide))
          obtain rfl := hp
          rw [pa3] at pr14513 pr14514
          have b8 := tok_ok (t := t) (n := n) j4 c1
          obtain ⟨so14522, va14523, mt14524, yd14525⟩ := pr14514
          have hyd14526 := yd14525
          obtain ⟨yd14526, yd14527, yd14528, yd14529, yd14530, yd14531, yd14532⟩ := hyd14526
          refine m_aload_n F rfl e_X10_readLine_170 ?_
          refine m_dup F rfl e_X10_readLine_171 ?_
          refine r_getC F e_X10_readLine_172 fl_X10_202 h14511 (yd14526) ?_
          refine m_iconst F (v := 1) (by decide) e_X10_readLine_175 ?_
          refine m_iadd F e_X10_readLine_176 ?_
          refine Wm.topE (w := nI (ln3 + 1)) (nI_add ln3 1) ?_
          refine r_put F (g' := (⟨T, Z, u, h, P14512, L⟩ : RG)) e_X10_readLine_177 fp_X10_202 h14511 (by decide) ⟨_, rfl⟩ (fun _ _ _ _ q => q) (fun _ _ _ q => q) rfl rfl (by decide) (fun σ14533 h14534 g14535 g14536 f14537 => ?_)
          have ga14538 := ga14515.of (g14535 _ (by omega))
          have ga14539 := ga14516.of (g14535 _ (by omega))
          have ga14540 := ga14517.of (g14535 _ (by omega))
          have ga14541 := ga14518.of (g14535 _ (by omega))
          have ga14542 := ga14519.of (g14535 _ (by omega))
          have ga14543 := ga14520.of (g14535 _ (by omega))
          have ga14544 := ga14521.of (g14535 _ (by omega))
          exact m_vret F hQ e_X10_readLine_180 (⟨P14512, oP14512, (by unfold RP; omega), (by rw [eo14328]; show RM _ c n _ (stopS (tok t n) (j1, 4, j3, j4) nl3 nm3 np3 nc3 lc3 no3 sd3 md3 ln3); rw [stopS_ok]; exact RM.r mt14524 ⟨(f14537), ((g14536 18 (by decide)).trans yd14527), ((g14536 20 (by decide)).trans yd14528), ((g14536 21 (by decide)).trans yd14529), ((g14536 22 (by decide)).trans yd14530), ((g14536 23 (by decide)).trans yd14531), ((g14536 24 (by decide)).trans yd14532)⟩ (by omega) (by omega) (by omega) ga14539 ga14540 ga14541 ga14542 ga14543 ga14544 (by omega) (by omega) (by omega) (by omega) (by omega)), (fun S2 hS hz => by rw [eo14328] at hS; replace hS : stopS (tok t n) (j1, 4, j3, j4) nl3 nm3 np3 nc3 lc3 no3 sd3 md3 ln3 = .inr S2 := hS; rw [stopS_ok] at hS; cases hS; replace hz : (tok t n j4).2.1 ≠ 0 := hz; have h8 := b8.2.2.2 hz; omega), h14534, rfl⟩)
        · refine r_getC F e_X10_readLine_154 fl_X10_110 h14318 (yd14345) ?_
          refine m_iconst F (v := 3) (by decide) e_X10_readLine_157 ?_
          refine m_icmp_eq F e_X10_readLine_158 (fun q => absurd q (by decide)) (fun _ => ?_)
          refine m_aload_n F rfl e_X10_readLine_161 ?_
          refine m_iconst F (v := 1) (by decide) e_X10_readLine_162 ?_
          refine r_callV F e_X10_readLine_163 (q_X10_wrongE (x_l X) V c T Z u h P14319 L _ _ 1 n j1 5 va3 ln3 fp3 h14318.1 (hob) oP14319 (by omega) ⟨(yd14342), (yd14343), (yd14344), (yd14345), (yd14346), (yd14347), (yd14348)⟩ (by decide)) cb_X10_wrong ml_X10_150 im_X10_wrong se_X10_wrong h14318 rfl rfl (rest := []) rfl (Nat.le_of_ble_eq_true rfl) ⟨Nat.le_of_ble_eq_true rfl, Nat.le_of_ble_eq_true rfl⟩ ⟨Nat.le_of_ble_eq_true rfl, Nat.le_of_ble_eq_true rfl⟩ (fun r σ14545 hp => ?_)
          obtain ⟨h14546, hp⟩ := hp
          have h14547 := HS.trans h14318 h14546 (by decide)
          have ga14548 := ga14321.of (h14546.2 (c + 1) (by rw [kC_at (k := 1) (by decide)]; decide))
          have ga14549 := hN3.of (h14546.2 (c + 2) (by rw [kC_at (k := 2) (by decide)]; decide))
          have ga14550 := hM3.of (h14546.2 (c + 3) (by rw [kC_at (k := 3) (by decide)]; decide))
          have ga14551 := hK3.of (h14546.2 (c + 7) (by rw [kC_at (k := 7) (by decide)]; decide))
          have ga14552 := hF3.of (h14546.2 (c + 8) (by rw [kC_at (k := 8) (by decide)]; decide))
          have ga14553 := hG3.of (h14546.2 (c + 9) (by rw [kC_at (k := 9) (by decide)]; decide))
          have ga14554 := hQ3.of (h14546.2 (c + 11) (by rw [kC_at (k := 11) (by decide)]; decide))
          obtain ⟨hp, rfl⟩ := hp
          have hyd14555 := hp
          obtain ⟨yd14555, yd14556, yd14557, yd14558, yd14559, yd14560, yd14561⟩ := hyd14555
          refine m_aload_n F rfl e_X10_readLine_166 ?_
          refine r_callV F e_X10_readLine_167 (q_X10_goOnG (x_l X) V c T 0 u h P14319 L _ _  1 h14547.1 (hob) oP14319  (yd14560) (by decide)) cb_X10_goOn ml_X10_154 im_X10_goOn se_X10_goOn h14547 rfl rfl (rest := []) rfl (Nat.le_of_ble_eq_true rfl) ⟨Nat.le_of_ble_eq_true rfl, Nat.le_of_ble_eq_true rfl⟩ ⟨Nat.le_of_ble_eq_true rfl, Nat.le_of_ble_eq_true rfl⟩ (fun r σ14562 hp => ?_)
          obtain ⟨h14563, hp⟩ := hp
          have h14564 := HS.trans h14547 h14563 (by decide)
          have ga14565 := ga14548.of (h14563.2 (c + 1) (by rw [kC_at (k := 1) (by decide)]; decide))
          have ga14566 := ga14549.of (h14563.2 (c + 2) (by rw [kC_at (k := 2) (by decide)]; decide))
          have ga14567 := ga14550.of (h14563.2 (c + 3) (by rw [kC_at (k := 3) (by decide)]; decide))
          have ga14568 := ga14551.of (h14563.2 (c + 7) (by rw [kC_at (k := 7) (by decide)]; decide))
          have ga14569 := ga14552.of (h14563.2 (c + 8) (by rw [kC_at (k := 8) (by decide)]; decide))
          have ga14570 := ga14553.of (h14563.2 (c + 9) (by rw [kC_at (k := 9) (by decide)]; decide))
          have ga14571 := ga14554.of (h14563.2 (c + 11) (by rw [kC_at (k := 11) (by decide)]; decide))
          obtain ⟨rfl, rfl⟩ := hp
          refine m_aload_n F rfl e_X10_readLine_170 ?_
          refine m_dup F rfl e_X10_readLine_171 ?_
          refine r_getC F e_X10_readLine_172 fl_X10_202 h14564 (yd14555) ?_
          refine m_iconst F (v := 1) (by decide) e_X10_readLine_175 ?_
          refine m_iadd F e_X10_readLine_176 ?_
          refine Wm.topE (w := nI (ln3 + 1)) (nI_add ln3 1) ?_
          refine r_put F (g' := (⟨T, 0, u, h, P14319, L⟩ : RG)) e_X10_readLine_177 fp_X10_202 h14564 (by decide) ⟨_, rfl⟩ (fun _ _ _ _ q => q) (fun _ _ _ q => q) rfl rfl (by decide) (fun σ14572 h14573 g14574 g14575 f14576 => ?_)
          have ga14577 := ga14548.of (g14574 _ (by omega))
          have ga14578 := ga14549.of (g14574 _ (by omega))
          have ga14579 := ga14550.of (g14574 _ (by omega))
          have ga14580 := ga14551.of (g14574 _ (by omega))
          have ga14581 := ga14552.of (g14574 _ (by omega))
          have ga14582 := ga14553.of (g14574 _ (by omega))
          have ga14583 := ga14554.of (g14574 _ (by omega))
          have h14584 : HS V c _ [0, 2, 17, 18, 19, 20, 21, 22, 23] _ _ := ⟨HR.mono (Z' := Z) (by intro e; first | rfl | assumption | omega) h14573.1, h14573.2⟩
          exact m_vret F hQ e_X10_readLine_180 (⟨P14319, oP14319, (by unfold RP; omega), (by rw [eo14328]; show RM _ c n _ (stopS (tok t n) (j1, 5, j3, j4) nl3 nm3 np3 nc3 lc3 no3 sd3 md3 ln3); rw [stopS_1 (by decide)]; exact RM.l ((g14575 23 (by decide)).trans yd14560) ((g14575 24 (by decide)).trans yd14561) (by omega) (by omega) (by omega)), (fun S2 hS _ => by rw [eo14328] at hS; replace hS : stopS (tok t n) (j1, 5, j3, j4) nl3 nm3 np3 nc3 lc3 no3 sd3 md3 ln3 = .inr S2 := hS; rw [stopS_1 (by decide)] at hS; cases hS), h14584, rfl⟩)
    · refine r_getC F e_X10_readLine_1 fl_X10_110 h1 (yd14007) ?_
      refine m_if_eq F e_X10_readLine_4 (fun _ => ?_) (fun q => absurd (by decide) q)
      refine m_aload_n F rfl e_X10_readLine_15 ?_
      refine r_getC F e_X10_readLine_16 fl_X10_120 h1 (yd14008) ?_
      refine m_if_ne F e_X10_readLine_19 (fun _ => ?_) (fun q => absurd q (by decide))
      refine m_aload_n F rfl e_X10_readLine_29 ?_
      refine r_getC F e_X10_readLine_30 fl_X10_120 h1 (yd14008) ?_
      refine m_iconst F (v := 1) (by decide) e_X10_readLine_33 ?_
      refine m_icmp_ne F e_X10_readLine_34 (fun _ => ?_) (fun q => absurd q (by decide))
      refine m_aload_n F rfl e_X10_readLine_44 ?_
      refine r_getC F e_X10_readLine_45 fl_X10_120 h1 (yd14008) ?_
      refine m_iconst F (v := 2) (by decide) e_X10_readLine_48 ?_
      refine m_icmp_eq F e_X10_readLine_49 (fun _ => ?_) (fun q => absurd (by decide) q)
      refine m_aload_n F rfl e_X10_readLine_60 ?_
      refine m_aload_n F rfl e_X10_readLine_61 ?_
      refine r_getC F e_X10_readLine_62 fl_X10_120 h1 (yd14008) ?_
      refine m_iconst F (v := 2) (by decide) e_X10_readLine_65 ?_
      refine m_icmp_ne F e_X10_readLine_66 (fun q => absurd (by decide) q) (fun _ => ?_)
      refine m_iconst F (v := 1) (by decide) e_X10_readLine_69 ?_
      refine m_goto F e_X10_readLine_70 ?_
      refine r_callV F e_X10_readLine_74 (q_X10_readMark1E (x_l X) V c T Z u h P L _ _  n st 0 2 ln fp t 1 2 nm np lc no sd md h1.1 (hob) hP  ⟨(yd14004), (yd14005), (yd14006), (yd14007), (yd14008), (yd14009), (yd14010)⟩ hp1 hn7 (by omega) hp4 hp5 hp6 hp7 hp8 hp9 hp10 hp11 hp12 hp13 hp14) cb_X10_readMark ml_X10_184 im_X10_readMark se_X10_readMark h1 rfl rfl (rest := []) rfl (Nat.le_of_ble_eq_true rfl) ⟨Nat.le_of_ble_eq_true rfl, Nat.le_of_ble_eq_true rfl⟩ ⟨Nat.le_of_ble_eq_true rfl, Nat.le_of_ble_eq_true rfl⟩ (fun r σ14585 hp => ?_)
      obtain ⟨P14588, oP14588, rP14588, pr14589, h14586, hp⟩ := hp
      have h14587 := HS.trans h1 h14586 (by decide)
      have xP14588 := oP14588
      unfold OKP at xP14588
      unfold RP at rP14588
      have ga14590 := hp1.of (h14586.2 (c + 1) (by rw [kC_at (k := 1) (by decide)]; decide))
      have ga14591 := hp6.of (h14586.2 (c + 2) (by rw [kC_at (k := 2) (by decide)]; decide))
      have ga14592 := hp7.of (h14586.2 (c + 3) (by rw [kC_at (k := 3) (by decide)]; decide))
      have ga14593 := hp9.of (h14586.2 (c + 8) (by rw [kC_at (k := 8) (by decide)]; decide))
      have ga14594 := hp10.of (h14586.2 (c + 9) (by rw [kC_at (k := 9) (by decide)]; decide))
      have ga14595 := hp11.of (h14586.2 (c + 11) (by rw [kC_at (k := 11) (by decide)]; decide))
      obtain rfl := hp
      have rm14596 : RM σ14585 c n P14588 (lineS (tok t n) (st, 1, 2, P.a) P.n5 nm np P.n7 lc no sd md ln) := by rw [lineS_2]; exact pr14589
      cases eo14597 : lineS (tok t n) (st, 1, 2, P.a) P.n5 nm np P.n7 lc no sd md ln with
      | inl e8 =>
        rw [eo14597] at rm14596
        obtain ⟨⟨fa14598, fb14599⟩, c1, c2, c3⟩ := rm14596
        have nz8 : nI e8.1 ≠ 0 := fun e => absurd (nI_inj9 (b := 0) (by omega) (by omega) e) (by omega)
        refine m_goto F e_X10_readLine_77 ?_
        refine m_aload_n F rfl e_X10_readLine_146 ?_
        refine r_getC F e_X10_readLine_147 fl_X10_141 h14587 (fa14598) ?_
        refine m_if_ne F e_X10_readLine_150 (fun q150 => ?_) (fun q150 => ?_)
        · have c150 : e8.1 ≠ 0 := by have hh := mt (nI_eq (a := e8.1) (b := 0) (by omega) (by omega)).mpr q150; omega
          refine m_aload_n F rfl e_X10_readLine_166 ?_
          refine r_callV F e_X10_readLine_167 (q_X10_goOnG (x_l X) V c T Z u h P14588 L _ _  (nI e8.1) h14587.1 (hob) oP14588  (fa14598) (by assumption)) cb_X10_goOn ml_X10_154 im_X10_goOn se_X10_goOn h14587 rfl rfl (rest := []) rfl (Nat.le_of_ble_eq_true rfl) ⟨Nat.le_of_ble_eq_true rfl, Nat.le_of_ble_eq_true rfl⟩ ⟨Nat.le_of_ble_eq_true rfl, Nat.le_of_ble_eq_true rfl⟩ (fun r σ14600 hp => ?_)
          obtain ⟨h14601, hp⟩ := hp
          have h14602 := HS.trans h14587 h14601 (by decide)
          obtain ⟨rfl, rfl⟩ := hp
          refine m_aload_n F rfl e_X10_readLine_170 ?_
          refine m_dup F rfl e_X10_readLine_171 ?_
          refine r_get F e_X10_readLine_172 fl_X10_202 h14602 rfl (fun v hv f14603 => ?_)
          obtain ⟨x14604, rfl⟩ := hv
          refine m_iconst F (v := 1) (by decide) e_X10_readLine_175 ?_
          refine m_iadd F e_X10_readLine_176 ?_
          refine Wm.top (fun x14605 _ => ?_)
          refine r_put F (g' := (⟨T, Z, u, h, P14588, L⟩ : RG)) e_X10_readLine_177 fp_X10_202 h14602 (by decide) ⟨_, rfl⟩ (fun _ _ _ _ q => q) (fun _ _ _ q => q) rfl rfl (by decide) (fun σ14606 h14607 g14608 g14609 f14610 => ?_)
          exact m_vret F hQ e_X10_readLine_180 (⟨P14588, oP14588, (by unfold RP; omega), (by rw [eo14597]; show RM _ c n _ (.inl e8); exact RM.l ((g14609 23 (by decide)).trans fa14598) ((g14609 24 (by decide)).trans fb14599) (by omega) (by omega) (by omega)), (fun S2 hS _ => by rw [eo14597] at hS; cases hS), h14607, rfl⟩)
        · have c150 : e8.1 = 0 := (nI_eq (a := e8.1) (b := 0) (by omega) (by omega)).mp q150
          exact absurd q150 nz8
      | inr S1 =>
        rw [eo14597] at rm14596
        obtain ⟨⟨j1, j2, j3, j4⟩, nl3, nm3, np3, nc3, lc3, no3, sd3, md3, ln3⟩ := S1
        obtain ⟨so3, va3, fp3, mt3, yd3, ⟨pa3, p53, p73⟩, hN3, hM3, hK3, hF3, hG3, hQ3, c1, c2, c3, c4, c5⟩ := rm14596
        replace pa3 : _ = j4 := pa3
        replace c1 : j4 ≤ n := c1
        replace c2 : j1 ≤ n := c2
        have hyd14611 := yd3
        obtain ⟨yd14611, yd14612, yd14613, yd14614, yd14615, yd14616, yd14617⟩ := hyd14611
        refine m_goto F e_X10_readLine_77 ?_
        refine m_aload_n F rfl e_X10_readLine_146 ?_
        refine r_getC F e_X10_readLine_147 fl_X10_141 h14587 (yd14616) ?_
        refine m_if_ne F e_X10_readLine_150 (fun q => absurd (by decide) q) (fun _ => ?_)
        refine m_aload_n F rfl e_X10_readLine_153 ?_
        have hmt := mt3
        rcases hmt with ⟨rfl, rfl⟩ | ⟨rfl, rfl, rfl, hv3⟩ | ⟨rfl, rfl, rfl, hv3⟩ | ⟨rfl, rfl, w3, hw3, rfl, hm3⟩ | ⟨rfl, rfl⟩ | ⟨rfl, rfl⟩
        · refine r_getC F e_X10_readLine_154 fl_X10_110 h14587 (yd14614) ?_
          refine m_iconst F (v := 3) (by decide) e_X10_readLine_157 ?_
          refine m_icmp_eq F e_X10_readLine_158 (fun q => absurd q (by decide)) (fun _ => ?_)
          refine m_aload_n F rfl e_X10_readLine_161 ?_
          refine m_iconst F (v := 1) (by decide) e_X10_readLine_162 ?_
          refine r_callV F e_X10_readLine_163 (q_X10_wrongE (x_l X) V c T Z u h P14588 L _ _ 1 n j1 4 va3 ln3 fp3 h14587.1 (hob) oP14588 (by omega) ⟨(yd14611), (yd14612), (yd14613), (yd14614), (yd14615), (yd14616), (yd14617)⟩ (by decide)) cb_X10_wrong ml_X10_150 im_X10_wrong se_X10_wrong h14587 rfl rfl (rest := []) rfl (Nat.le_of_ble_eq_true rfl) ⟨Nat.le_of_ble_eq_true rfl, Nat.le_of_ble_eq_true rfl⟩ ⟨Nat.le_of_ble_eq_true rfl, Nat.le_of_ble_eq_true rfl⟩ (fun r σ14618 hp => ?_)
          obtain ⟨h14619, hp⟩ := hp
          have h14620 := HS.trans h14587 h14619 (by decide)
          have ga14621 := ga14590.of (h14619.2 (c + 1) (by rw [kC_at (k := 1) (by decide)]; decide))
          have ga14622 := hN3.of (h14619.2 (c + 2) (by rw [kC_at (k := 2) (by decide)]; decide))
          have ga14623 := hM3.of (h14619.2 (c + 3) (by rw [kC_at (k := 3) (by decide)]; decide))
          have ga14624 := hK3.of (h14619.2 (c + 7) (by rw [kC_at (k := 7) (by decide)]; decide))
          have ga14625 := hF3.of (h14619.2 (c + 8) (by rw [kC_at (k := 8) (by decide)]; decide))
          have ga14626 := hG3.of (h14619.2 (c + 9) (by rw [kC_at (k := 9) (by decide)]; decide))
          have ga14627 := hQ3.of (h14619.2 (c + 11) (by rw [kC_at (k := 11) (by decide)]; decide))
          obtain ⟨hp, rfl⟩ := hp
          have hyd14628 := hp
          obtain ⟨yd14628, yd14629, yd14630, yd14631, yd14632, yd14633, yd14634⟩ := hyd14628
          refine m_aload_n F rfl e_X10_readLine_166 ?_
          refine r_callV F e_X10_readLine_167 (q_X10_goOnG (x_l X) V c T 0 u h P14588 L _ _  1 h14620.1 (hob) oP14588  (yd14633) (by decide)) cb_X10_goOn ml_X10_154 im_X10_goOn se_X10_goOn h14620 rfl rfl (rest := []) rfl (Nat.le_of_ble_eq_true rfl) ⟨Nat.le_of_ble_eq_true rfl, Nat.le_of_ble_eq_true rfl⟩ ⟨Nat.le_of_ble_eq_true rfl, Nat.le_of_ble_eq_true rfl⟩ (fun r σ14635 hp => ?_)
          obtain ⟨h14636, hp⟩ := hp
          have h14637 := HS.trans h14620 h14636 (by decide)
          have ga14638 := ga14621.of (h14636.2 (c + 1) (by rw [kC_at (k := 1) (by decide)]; decide))
          have ga14639 := ga14622.of (h14636.2 (c + 2) (by rw [kC_at (k := 2) (by decide)]; decide))
          have ga14640 := ga14623.of (h14636.2 (c + 3) (by rw [kC_at (k := 3) (by decide)]; decide))
          have ga14641 := ga14624.of (h14636.2 (c + 7) (by rw [kC_at (k := 7) (by decide)]; decide))
          have ga14642 := ga14625.of (h14636.2 (c + 8) (by rw [kC_at (k := 8) (by decide)]; decide))
          have ga14643 := ga14626.of (h14636.2 (c + 9) (by rw [kC_at (k := 9) (by decide)]; decide))
          have ga14644 := ga14627.of (h14636.2 (c + 11) (by rw [kC_at (k := 11) (by decide)]; decide))
          obtain ⟨rfl, rfl⟩ := hp
          refine m_aload_n F rfl e_X10_readLine_170 ?_
          refine m_dup F rfl e_X10_readLine_171 ?_
          refine r_getC F e_X10_readLine_172 fl_X10_202 h14637 (yd14628) ?_
          refine m_iconst F (v := 1) (by decide) e_X10_readLine_175 ?_
          refine m_iadd F e_X10_readLine_176 ?_
          refine Wm.topE (w := nI (ln3 + 1)) (nI_add ln3 1) ?_
          refine r_put F (g' := (⟨T, 0, u, h, P14588, L⟩ : RG)) e_X10_readLine_177 fp_X10_202 h14637 (by decide) ⟨_, rfl⟩ (fun _ _ _ _ q => q) (fun _ _ _ q => q) rfl rfl (by decide) (fun σ14645 h14646 g14647 g14648 f14649 => ?_)
          have ga14650 := ga14621.of (g14647 _ (by omega))
          have ga14651 := ga14622.of (g14647 _ (by omega))
          have ga14652 := ga14623.of (g14647 _ (by omega))
          have ga14653 := ga14624.of (g14647 _ (by omega))
          have ga14654 := ga14625.of (g14647 _ (by omega))
          have ga14655 := ga14626.of (g14647 _ (by omega))
          have ga14656 := ga14627.of (g14647 _ (by omega))
          have h14657 : HS V c _ [0, 2, 17, 18, 19, 20, 21, 22, 23] _ _ := ⟨HR.mono (Z' := Z) (by intro e; first | rfl | assumption | omega) h14646.1, h14646.2⟩
          exact m_vret F hQ e_X10_readLine_180 (⟨P14588, oP14588, (by unfold RP; omega), (by rw [eo14597]; show RM _ c n _ (stopS (tok t n) (j1, 0, j3, j4) nl3 nm3 np3 nc3 lc3 no3 sd3 md3 ln3); rw [stopS_1 (by decide)]; exact RM.l ((g14648 23 (by decide)).trans yd14633) ((g14648 24 (by decide)).trans yd14634) (by omega) (by omega) (by omega)), (fun S2 hS _ => by rw [eo14597] at hS; replace hS : stopS (tok t n) (j1, 0, j3, j4) nl3 nm3 np3 nc3 lc3 no3 sd3 md3 ln3 = .inr S2 := hS; rw [stopS_1 (by decide)] at hS; cases hS), h14657, rfl⟩)
        · refine r_getC F e_X10_readLine_154 fl_X10_110 h14587 (yd14614) ?_
          refine m_iconst F (v := 3) (by decide) e_X10_readLine_157 ?_
          refine m_icmp_eq F e_X10_readLine_158 (fun q => absurd q (by decide)) (fun _ => ?_)
          refine m_aload_n F rfl e_X10_readLine_161 ?_
          refine m_iconst F (v := 1) (by decide) e_X10_readLine_162 ?_
          refine r_callV F e_X10_readLine_163 (q_X10_wrongE (x_l X) V c T Z u h P14588 L _ _ 1 n j1 0 (nI j3) ln3 fp3 h14587.1 (hob) oP14588 (by omega) ⟨(yd14611), (yd14612), (yd14613), (yd14614), (yd14615), (yd14616), (yd14617)⟩ (by decide)) cb_X10_wrong ml_X10_150 im_X10_wrong se_X10_wrong h14587 rfl rfl (rest := []) rfl (Nat.le_of_ble_eq_true rfl) ⟨Nat.le_of_ble_eq_true rfl, Nat.le_of_ble_eq_true rfl⟩ ⟨Nat.le_of_ble_eq_true rfl, Nat.le_of_ble_eq_true rfl⟩ (fun r σ14658 hp => ?_)
          obtain ⟨h14659, hp⟩ := hp
          have h14660 := HS.trans h14587 h14659 (by decide)
          have ga14661 := ga14590.of (h14659.2 (c + 1) (by rw [kC_at (k := 1) (by decide)]; decide))
          have ga14662 := hN3.of (h14659.2 (c + 2) (by rw [kC_at (k := 2) (by decide)]; decide))
          have ga14663 := hM3.of (h14659.2 (c + 3) (by rw [kC_at (k := 3) (by decide)]; decide))
          have ga14664 := hK3.of (h14659.2 (c + 7) (by rw [kC_at (k := 7) (by decide)]; decide))
          have ga14665 := hF3.of (h14659.2 (c + 8) (by rw [kC_at (k := 8) (by decide)]; decide))
          have ga14666 := hG3.of (h14659.2 (c + 9) (by rw [kC_at (k := 9) (by decide)]; decide))
          have ga14667 := hQ3.of (h14659.2 (c + 11) (by rw [kC_at (k := 11) (by decide)]; decide))
          obtain ⟨hp, rfl⟩ := hp
          have hyd14668 := hp
          obtain ⟨yd14668, yd14669, yd14670, yd14671, yd14672, yd14673, yd14674⟩ := hyd14668
          refine m_aload_n F rfl e_X10_readLine_166 ?_
          refine r_callV F e_X10_readLine_167 (q_X10_goOnG (x_l X) V c T 0 u h P14588 L _ _  1 h14660.1 (hob) oP14588  (yd14673) (by decide)) cb_X10_goOn ml_X10_154 im_X10_goOn se_X10_goOn h14660 rfl rfl (rest := []) rfl (Nat.le_of_ble_eq_true rfl) ⟨Nat.le_of_ble_eq_true rfl, Nat.le_of_ble_eq_true rfl⟩ ⟨Nat.le_of_ble_eq_true rfl, Nat.le_of_ble_eq_true rfl⟩ (fun r σ14675 hp => ?_)
          obtain ⟨h14676, hp⟩ := hp
          have h14677 := HS.trans h14660 h14676 (by decide)
          have ga14678 := ga14661.of (h14676.2 (c + 1) (by rw [kC_at (k := 1) (by decide)]; decide))
          have ga14679 := ga14662.of (h14676.2 (c + 2) (by rw [kC_at (k := 2) (by decide)]; decide))
          have ga14680 := ga14663.of (h14676.2 (c + 3) (by rw [kC_at (k := 3) (by decide)]; decide))
          have ga14681 := ga14664.of (h14676.2 (c + 7) (by rw [kC_at (k := 7) (by decide)]; decide))
          have ga14682 := ga14665.of (h14676.2 (c + 8) (by rw [kC_at (k := 8) (by decide)]; decide))
          have ga14683 := ga14666.of (h14676.2 (c + 9) (by rw [kC_at (k := 9) (by decide)]; decide))
          have ga14684 := ga14667.of (h14676.2 (c + 11) (by rw [kC_at (k := 11) (by decide)]; decide))
          obtain ⟨rfl, rfl⟩ := hp
          refine m_aload_n F rfl e_X10_readLine_170 ?_
          refine m_dup F rfl e_X10_readLine_171 ?_
          refine r_getC F e_X10_readLine_172 fl_X10_202 h14677 (yd14668) ?_
          refine m_iconst F (v := 1) (by decide) e_X10_readLine_175 ?_
          refine m_iadd F e_X10_readLine_176 ?_
          refine Wm.topE (w := nI (ln3 + 1)) (nI_add ln3 1) ?_
          refine r_put F (g' := (⟨T, 0, u, h, P14588, L⟩ : RG)) e_X10_readLine_177 fp_X10_202 h14677 (by decide) ⟨_, rfl⟩ (fun _ _ _ _ q => q) (fun _ _ _ q => q) rfl rfl (by decide) (fun σ14685 h14686 g14687 g14688 f14689 => ?_)
          have ga14690 := ga14661.of (g14687 _ (by omega))
          have ga14691 := ga14662.of (g14687 _ (by omega))
          have ga14692 := ga14663.of (g14687 _ (by omega))
          have ga14693 := ga14664.of (g14687 _ (by omega))
          have ga14694 := ga14665.of (g14687 _ (by omega))
          have ga14695 := ga14666.of (g14687 _ (by omega))
          have ga14696 := ga14667.of (g14687 _ (by omega))
          have h14697 : HS V c _ [0, 2, 17, 18, 19, 20, 21, 22, 23] _ _ := ⟨HR.mono (Z' := Z) (by intro e; first | rfl | assumption | omega) h14686.1, h14686.2⟩
          exact m_vret F hQ e_X10_readLine_180 (⟨P14588, oP14588, (by unfold RP; omega), (by rw [eo14597]; show RM _ c n _ (stopS (tok t n) (j1, 1, j3, j4) nl3 nm3 np3 nc3 lc3 no3 sd3 md3 ln3); rw [stopS_1 (by decide)]; exact RM.l ((g14688 23 (by decide)).trans yd14673) ((g14688 24 (by decide)).trans yd14674) (by omega) (by omega) (by omega)), (fun S2 hS _ => by rw [eo14597] at hS; replace hS : stopS (tok t n) (j1, 1, j3, j4) nl3 nm3 np3 nc3 lc3 no3 sd3 md3 ln3 = .inr S2 := hS; rw [stopS_1 (by decide)] at hS; cases hS), h14697, rfl⟩)
        · refine r_getC F e_X10_readLine_154 fl_X10_110 h14587 (yd14614) ?_
          refine m_iconst F (v := 3) (by decide) e_X10_readLine_157 ?_
          refine m_icmp_eq F e_X10_readLine_158 (fun q => absurd q (by decide)) (fun _ => ?_)
          refine m_aload_n F rfl e_X10_readLine_161 ?_
          refine m_iconst F (v := 1) (by decide) e_X10_readLine_162 ?_
          refine r_callV F e_X10_readLine_163 (q_X10_wrongE (x_l X) V c T Z u h P14588 L _ _ 1 n j1 1 (nI j3) ln3 fp3 h14587.1 (hob) oP14588 (by omega) ⟨(yd14611), (yd14612), (yd14613), (yd14614), (yd14615), (yd14616), (yd14617)⟩ (by decide)) cb_X10_wrong ml_X10_150 im_X10_wrong se_X10_wrong h14587 rfl rfl (rest := []) rfl (Nat.le_of_ble_eq_true rfl) ⟨Nat.le_of_ble_eq_true rfl, Nat.le_of_ble_eq_true rfl⟩ ⟨Nat.le_of_ble_eq_true rfl, Nat.le_of_ble_eq_true rfl⟩ (fun r σ14698 hp => ?_)
          obtain ⟨h14699, hp⟩ := hp
          have h14700 := HS.trans h14587 h14699 (by decide)
          have ga14701 := ga14590.of (h14699.2 (c + 1) (by rw [kC_at (k := 1) (by decide)]; decide))
          have ga14702 := hN3.of (h14699.2 (c + 2) (by rw [kC_at (k := 2) (by decide)]; decide))
          have ga14703 := hM3.of (h14699.2 (c + 3) (by rw [kC_at (k := 3) (by decide)]; decide))
          have ga14704 := hK3.of (h14699.2 (c + 7) (by rw [kC_at (k := 7) (by decide)]; decide))
          have ga14705 := hF3.of (h14699.2 (c + 8) (by rw [kC_at (k := 8) (by decide)]; decide))
          have ga14706 := hG3.of (h14699.2 (c + 9) (by rw [kC_at (k := 9) (by decide)]; decide))
          have ga14707 := hQ3.of (h14699.2 (c + 11) (by rw [kC_at (k := 11) (by decide)]; decide))
          obtain ⟨hp, rfl⟩ := hp
          have hyd14708 := hp
          obtain ⟨yd14708, yd14709, yd14710, yd14711, yd14712, yd14713, yd14714⟩ := hyd14708
          refine m_aload_n F rfl e_X10_readLine_166 ?_
          refine r_callV F e_X10_readLine_167 (q_X10_goOnG (x_l X) V c T 0 u h P14588 L _ _  1 h14700.1 (hob) oP14588  (yd14713) (by decide)) cb_X10_goOn ml_X10_154 im_X10_goOn se_X10_goOn h14700 rfl rfl (rest := []) rfl (Nat.le_of_ble_eq_true rfl) ⟨Nat.le_of_ble_eq_true rfl, Nat.le_of_ble_eq_true rfl⟩ ⟨Nat.le_of_ble_eq_true rfl, Nat.le_of_ble_eq_true rfl⟩ (fun r σ14715 hp => ?_)
          obtain ⟨h14716, hp⟩ := hp
          have h14717 := HS.trans h14700 h14716 (by decide)
          have ga14718 := ga14701.of (h14716.2 (c + 1) (by rw [kC_at (k := 1) (by decide)]; decide))
          have ga14719 := ga14702.of (h14716.2 (c + 2) (by rw [kC_at (k := 2) (by decide)]; decide))
          have ga14720 := ga14703.of (h14716.2 (c + 3) (by rw [kC_at (k := 3) (by decide)]; decide))
          have ga14721 := ga14704.of (h14716.2 (c + 7) (by rw [kC_at (k := 7) (by decide)]; decide))
          have ga14722 := ga14705.of (h14716.2 (c + 8) (by rw [kC_at (k := 8) (by decide)]; decide))
          have ga14723 := ga14706.of (h14716.2 (c + 9) (by rw [kC_at (k := 9) (by decide)]; decide))
          have ga14724 := ga14707.of (h14716.2 (c + 11) (by rw [kC_at (k := 11) (by decide)]; decide))
          obtain ⟨rfl, rfl⟩ := hp
          refine m_aload_n F rfl e_X10_readLine_170 ?_
          refine m_dup F rfl e_X10_readLine_171 ?_
          refine r_getC F e_X10_readLine_172 fl_X10_202 h14717 (yd14708) ?_
          refine m_iconst F (v := 1) (by decide) e_X10_readLine_175 ?_
          refine m_iadd F e_X10_readLine_176 ?_
          refine Wm.topE (w := nI (ln3 + 1)) (nI_add ln3 1) ?_
          refine r_put F (g' := (⟨T, 0, u, h, P14588, L⟩ : RG)) e_X10_readLine_177 fp_X10_202 h14717 (by decide) ⟨_, rfl⟩ (fun _ _ _ _ q => q) (fun _ _ _ q => q) rfl rfl (by decide) (fun σ14725 h14726 g14727 g14728 f14729 => ?_)
          have ga14730 := ga14701.of (g14727 _ (by omega))
          have ga14731 := ga14702.of (g14727 _ (by omega))
          have ga14732 := ga14703.of (g14727 _ (by omega))
          have ga14733 := ga14704.of (g14727 _ (by omega))
          have ga14734 := ga14705.of (g14727 _ (by omega))
          have ga14735 := ga14706.of (g14727 _ (by omega))
          have ga14736 := ga14707.of (g14727 _ (by omega))
          have h14737 : HS V c _ [0, 2, 17, 18, 19, 20, 21, 22, 23] _ _ := ⟨HR.mono (Z' := Z) (by intro e; first | rfl | assumption | omega) h14726.1, h14726.2⟩
          exact m_vret F hQ e_X10_readLine_180 (⟨P14588, oP14588, (by unfold RP; omega), (by rw [eo14597]; show RM _ c n _ (stopS (tok t n) (j1, 2, j3, j4) nl3 nm3 np3 nc3 lc3 no3 sd3 md3 ln3); rw [stopS_1 (by decide)]; exact RM.l ((g14728 23 (by decide)).trans yd14713) ((g14728 24 (by decide)).trans yd14714) (by omega) (by omega) (by omega)), (fun S2 hS _ => by rw [eo14597] at hS; replace hS : stopS (tok t n) (j1, 2, j3, j4) nl3 nm3 np3 nc3 lc3 no3 sd3 md3 ln3 = .inr S2 := hS; rw [stopS_1 (by decide)] at hS; cases hS), h14737, rfl⟩)
        · refine r_getC F e_X10_readLine_154 fl_X10_110 h14587 (yd14614) ?_
          refine m_iconst F (v := 3) (by decide) e_X10_readLine_157 ?_
          refine m_icmp_eq F e_X10_readLine_158 (fun q => absurd q (by decide)) (fun _ => ?_)
          refine m_aload_n F rfl e_X10_readLine_161 ?_
          refine m_iconst F (v := 1) (by decide) e_X10_readLine_162 ?_
          refine r_callV F e_X10_readLine_163 (q_X10_wrongE (x_l X) V c T Z u h P14588 L _ _ 1 n j1 2 (nI w3) ln3 fp3 h14587.1 (hob) oP14588 (by omega) ⟨(yd14611), (yd14612), (yd14613), (yd14614), (yd14615), (yd14616), (yd14617)⟩ (by decide)) cb_X10_wrong ml_X10_150 im_X10_wrong se_X10_wrong h14587 rfl rfl (rest := []) rfl (Nat.le_of_ble_eq_true rfl) ⟨Nat.le_of_ble_eq_true rfl, Nat.le_of_ble_eq_true rfl⟩ ⟨Nat.le_of_ble_eq_true rfl, Nat.le_of_ble_eq_true rfl⟩ (fun r σ14738 hp => ?_)
          obtain ⟨h14739, hp⟩ := hp
          have h14740 := HS.trans h14587 h14739 (by decide)
          have ga14741 := ga14590.of (h14739.2 (c + 1) (by rw [kC_at (k := 1) (by decide)]; decide))
          have ga14742 := hN3.of (h14739.2 (c + 2) (by rw [kC_at (k := 2) (by decide)]; decide))
          have ga14743 := hM3.of (h14739.2 (c + 3) (by rw [kC_at (k := 3) (by decide)]; decide))
          have ga14744 := hK3.of (h14739.2 (c + 7) (by rw [kC_at (k := 7) (by decide)]; decide))
          have ga14745 := hF3.of (h14739.2 (c + 8) (by rw [kC_at (k := 8) (by decide)]; decide))
          have ga14746 := hG3.of (h14739.2 (c + 9) (by rw [kC_at (k := 9) (by decide)]; decide))
          have ga14747 := hQ3.of (h14739.2 (c + 11) (by rw [kC_at (k := 11) (by decide)]; decide))
          obtain ⟨hp, rfl⟩ := hp
          have hyd14748 := hp
          obtain ⟨yd14748, yd14749, yd14750, yd14751, yd14752, yd14753, yd14754⟩ := hyd14748
          refine m_aload_n F rfl e_X10_readLine_166 ?_
          refine r_callV F e_X10_readLine_167 (q_X10_goOnG (x_l X) V c T 0 u h P14588 L _ _  1 h14740.1 (hob) oP14588  (yd14753) (by decide)) cb_X10_goOn ml_X10_154 im_X10_goOn se_X10_goOn h14740 rfl rfl (rest := []) rfl (Nat.le_of_ble_eq_true rfl) ⟨Nat.le_of_ble_eq_true rfl, Nat.le_of_ble_eq_true rfl⟩ ⟨Nat.le_of_ble_eq_true rfl, Nat.le_of_ble_eq_true rfl⟩ (fun r σ14755 hp => ?_)
          obtain ⟨h14756, hp⟩ := hp
          have h14757 := HS.trans h14740 h14756 (by decide)
          have ga14758 := ga14741.of (h14756.2 (c + 1) (by rw [kC_at (k := 1) (by decide)]; decide))
          have ga14759 := ga14742.of (h14756.2 (c + 2) (by rw [kC_at (k := 2) (by decide)]; decide))
          have ga14760 := ga14743.of (h14756.2 (c + 3) (by rw [kC_at (k := 3) (by decide)]; decide))
          have ga14761 := ga14744.of (h14756.2 (c + 7) (by rw [kC_at (k := 7) (by decide)]; decide))
          have ga14762 := ga14745.of (h14756.2 (c + 8) (by rw [kC_at (k := 8) (by decide)]; decide))
          have ga14763 := ga14746.of (h14756.2 (c + 9) (by rw [kC_at (k := 9) (by decide)]; decide))
          have ga14764 := ga14747.of (h14756.2 (c + 11) (by rw [kC_at (k := 11) (by decide)]; decide))
          obtain ⟨rfl, rfl⟩ := hp
          refine m_aload_n F rfl e_X10_readLine_170 ?_
          refine m_dup F rfl e_X10_readLine_171 ?_
          refine r_getC F e_X10_readLine_172 fl_X10_202 h14757 (yd14748) ?_
          refine m_iconst F (v := 1) (by decide) e_X10_readLine_175 ?_
          refine m_iadd F e_X10_readLine_176 ?_
          refine Wm.topE (w := nI (ln3 + 1)) (nI_add ln3 1) ?_
          refine r_put F (g' := (⟨T, 0, u, h, P14588, L⟩ : RG)) e_X10_readLine_177 fp_X10_202 h14757 (by decide) ⟨_, rfl⟩ (fun _ _ _ _ q => q) (fun _ _ _ q => q) rfl rfl (by decide) (fun σ14765 h14766 g14767 g14768 f14769 => ?_)
          have ga14770 := ga14741.of (g14767 _ (by omega))
          have ga14771 := ga14742.of (g14767 _ (by omega))
          have ga14772 := ga14743.of (g14767 _ (by omega))
          have ga14773 := ga14744.of (g14767 _ (by omega))
          have ga14774 := ga14745.of (g14767 _ (by omega))
          have ga14775 := ga14746.of (g14767 _ (by omega))
          have ga14776 := ga14747.of (g14767 _ (by omega))
          have h14777 : HS V c _ [0, 2, 17, 18, 19, 20, 21, 22, 23] _ _ := ⟨HR.mono (Z' := Z) (by intro e; first | rfl | assumption | omega) h14766.1, h14766.2⟩
          exact m_vret F hQ e_X10_readLine_180 (⟨P14588, oP14588, (by unfold RP; omega), (by rw [eo14597]; show RM _ c n _ (stopS (tok t n) (j1, 3, j3, j4) nl3 nm3 np3 nc3 lc3 no3 sd3 md3 ln3); rw [stopS_1 (by decide)]; exact RM.l ((g14768 23 (by decide)).trans yd14753) ((g14768 24 (by decide)).trans yd14754) (by omega) (by omega) (by omega)), (fun S2 hS _ => by rw [eo14597] at hS; replace hS : stopS (tok t n) (j1, 3, j3, j4) nl3 nm3 np3 nc3 lc3 no3 sd3 md3 ln3 = .inr S2 := hS; rw [stopS_1 (by decide)] at hS; cases hS), h14777, rfl⟩)
        · refine r_getC F e_X10_readLine_154 fl_X10_110 h14587 (yd14614) ?_
          refine m_iconst F (v := 3) (by decide) e_X10_readLine_157 ?_
          refine m_icmp_eq F e_X10_readLine_158 (fun _ => ?_) (fun q => absurd (by decide) q)
          refine m_aload_n F rfl e_X10_readLine_166 ?_
          refine r_callV F e_X10_readLine_167 (q_X10_goOnE (x_l X) V c T Z u h P14588 L _ _  n j1 3 va3 ln3 fp3 t h14587.1 (hob) oP14588  ⟨(yd14611), (yd14612), (yd14613), (yd14614), (yd14615), (yd14616), (yd14617)⟩ ga14590 hn7 (by omega)) cb_X10_goOn ml_X10_154 im_X10_goOn se_X10_goOn h14587 rfl rfl (rest := []) rfl (Nat.le_of_ble_eq_true rfl) ⟨Nat.le_of_ble_eq_true rfl, Nat.le_of_ble_eq_true rfl⟩ ⟨Nat.le_of_ble_eq_true rfl, Nat.le_of_ble_eq_true rfl⟩ (fun r σ14778 hp => ?_)
          obtain ⟨P14781, oP14781, rP14781, pr14782, pr14783, h14779, hp⟩ := hp
          have h14780 := HS.trans h14587 h14779 (by decide)
          have xP14781 := oP14781
          unfold OKP at xP14781
          unfold RA at rP14781
          have ga14784 := ga14590.of (h14779.2 (c + 1) (by rw [kC_at (k := 1) (by decide)]; decide))
          have ga14785 := hN3.of (h14779.2 (c + 2) (by rw [kC_at (k := 2) (by decide)]; decide))
          have ga14786 := hM3.of (h14779.2 (c + 3) (by rw [kC_at (k := 3) (by decide)]; decide))
          have ga14787 := hK3.of (h14779.2 (c + 7) (by rw [kC_at (k := 7) (by decide)]; decide))
          have ga14788 := hF3.of (h14779.2 (c + 8) (by rw [kC_at (k := 8) (by decide)]; decide))
          have ga14789 := hG3.of (h14779.2 (c + 9) (by rw [kC_at (k := 9) (by decide)]; decide))
          have ga14790 := hQ3.of (h14779.2 (c + 11) (by rw [kC_at (k := 11) (by decide)]; decide))
          obtain rfl := hp
          rw [pa3] at pr14782 pr14783
          have b8 := tok_ok (t := t) (n := n) j4 c1
          obtain ⟨so14791, va14792, mt14793, yd14794⟩ := pr14783
          have hyd14795 := yd14794
          obtain ⟨yd14795, yd14796, yd14797, yd14798, yd14799, yd14800, yd14801⟩ := hyd14795
          refine m_aload_n F rfl e_X10_readLine_170 ?_
          refine m_dup F rfl e_X10_readLine_171 ?_
          refine r_getC F e_X10_readLine_172 fl_X10_202 h14780 (yd14795) ?_
          refine m_iconst F (v := 1) (by decide) e_X10_readLine_175 ?_
          refine m_iadd F e_X10_readLine_176 ?_
          refine Wm.topE (w := nI (ln3 + 1)) (nI_add ln3 1) ?_
          refine r_put F (g' := (⟨T, Z, u, h, P14781, L⟩ : RG)) e_X10_readLine_177 fp_X10_202 h14780 (by decide) ⟨_, rfl⟩ (fun _ _ _ _ q => q) (fun _ _ _ q => q) rfl rfl (by decide) (fun σ14802 h14803 g14804 g14805 f14806 => ?_)
          have ga14807 := ga14784.of (g14804 _ (by omega))
          have ga14808 := ga14785.of (g14804 _ (by omega))
          have ga14809 := ga14786.of (g14804 _ (by omega))
          have ga14810 := ga14787.of (g14804 _ (by omega))
          have ga14811 := ga14788.of (g14804 _ (by omega))
          have ga14812 := ga14789.of (g14804 _ (by omega))
          have ga14813 := ga14790.of (g14804 _ (by omega))
          exact m_vret F hQ e_X10_readLine_180 (⟨P14781, oP14781, (by unfold RP; omega), (by rw [eo14597]; show RM _ c n _ (stopS (tok t n) (j1, 4, j3, j4) nl3 nm3 np3 nc3 lc3 no3 sd3 md3 ln3); rw [stopS_ok]; exact RM.r mt14793 ⟨(f14806), ((g14805 18 (by decide)).trans yd14796), ((g14805 20 (by decide)).trans yd14797), ((g14805 21 (by decide)).trans yd14798), ((g14805 22 (by decide)).trans yd14799), ((g14805 23 (by decide)).trans yd14800), ((g14805 24 (by decide)).trans yd14801)⟩ (by omega) (by omega) (by omega) ga14808 ga14809 ga14810 ga14811 ga14812 ga14813 (by omega) (by omega) (by omega) (by omega) (by omega)), (fun S2 hS hz => by rw [eo14597] at hS; replace hS : stopS (tok t n) (j1, 4, j3, j4) nl3 nm3 np3 nc3 lc3 no3 sd3 md3 ln3 = .inr S2 := hS; rw [stopS_ok] at hS; cases hS; replace hz : (tok t n j4).2.1 ≠ 0 := hz; have h8 := b8.2.2.2 hz; omega), h14803, rfl⟩)
        · refine r_getC F e_X10_readLine_154 fl_X10_110 h14587 (yd14614) ?_
          refine m_iconst F (v := 3) (by decide) e_X10_readLine_157 ?_
          refine m_icmp_eq F e_X10_readLine_158 (fun q => absurd q (by decide)) (fun _ => ?_)
          refine m_aload_n F rfl e_X10_readLine_161 ?_
          refine m_iconst F (v := 1) (by decide) e_X10_readLine_162 ?_
          refine r_callV F e_X10_readLine_163 (q_X10_wrongE (x_l X) V c T Z u h P14588 L _ _ 1 n j1 5 va3 ln3 fp3 h14587.1 (hob) oP14588 (by omega) ⟨(yd14611), (yd14612), (yd14613), (yd14614), (yd14615), (yd14616), (yd14617)⟩ (by decide)) cb_X10_wrong ml_X10_150 im_X10_wrong se_X10_wrong h14587 rfl rfl (rest := []) rfl (Nat.le_of_ble_eq_true rfl) ⟨Nat.le_of_ble_eq_true rfl, Nat.le_of_ble_eq_true rfl⟩ ⟨Nat.le_of_ble_eq_true rfl, Nat.le_of_ble_eq_true rfl⟩ (fun r σ14814 hp => ?_)
          obtain ⟨h14815, hp⟩ := hp
          have h14816 := HS.trans h14587 h14815 (by decide)
          have ga14817 := ga14590.of (h14815.2 (c + 1) (by rw [kC_at (k := 1) (by decide)]; decide))
          have ga14818 := hN3.of (h14815.2 (c + 2) (by rw [kC_at (k := 2) (by decide)]; decide))
          have ga14819 := hM3.of (h14815.2 (c + 3) (by rw [kC_at (k := 3) (by decide)]; decide))
          have ga14820 := hK3.of (h14815.2 (c + 7) (by rw [kC_at (k := 7) (by decide)]; decide))
          have ga14821 := hF3.of (h14815.2 (c + 8) (by rw [kC_at (k := 8) (by decide)]; decide))
          have ga14822 := hG3.of (h14815.2 (c + 9) (by rw [kC_at (k := 9) (by decide)]; decide))
          have ga14823 := hQ3.of (h14815.2 (c + 11) (by rw [kC_at (k := 11) (by decide)]; decide))
          obtain ⟨hp, rfl⟩ := hp
          have hyd14824 := hp
          obtain ⟨yd14824, yd14825, yd14826, yd14827, yd14828, yd14829, yd14830⟩ := hyd14824
          refine m_aload_n F rfl e_X10_readLine_166 ?_
          refine r_callV F e_X10_readLine_167 (q_X10_goOnG (x_l X) V c T 0 u h P14588 L _ _  1 h14816.1 (hob) oP14588  (yd14829) (by decide)) cb_X10_goOn ml_X10_154 im_X10_goOn se_X10_goOn h14816 rfl rfl (rest := []) rfl (Nat.le_of_ble_eq_true rfl) ⟨Nat.le_of_ble_eq_true rfl, Nat.le_of_ble_eq_true rfl⟩ ⟨Nat.le_of_ble_eq_true rfl, Nat.le_of_ble_eq_true rfl⟩ (fun r σ14831 hp => ?_)
          obtain ⟨h14832, hp⟩ := hp
          have h14833 := HS.trans h14816 h14832 (by decide)
          have ga14834 := ga14817.of (h14832.2 (c + 1) (by rw [kC_at (k := 1) (by decide)]; decide))
          have ga14835 := ga14818.of (h14832.2 (c + 2) (by rw [kC_at (k := 2) (by decide)]; decide))
          have ga14836 := ga14819.of (h14832.2 (c + 3) (by rw [kC_at (k := 3) (by decide)]; decide))
          have ga14837 := ga14820.of (h14832.2 (c + 7) (by rw [kC_at (k := 7) (by decide)]; decide))
          have ga14838 := ga14821.of (h14832.2 (c + 8) (by rw [kC_at (k := 8) (by decide)]; decide))
          have ga14839 := ga14822.of (h14832.2 (c + 9) (by rw [kC_at (k := 9) (by decide)]; decide))
          have ga14840 := ga14823.of (h14832.2 (c + 11) (by rw [kC_at (k := 11) (by decide)]; decide))
          obtain ⟨rfl, rfl⟩ := hp
          refine m_aload_n F rfl e_X10_readLine_170 ?_
          refine m_dup F rfl e_X10_readLine_171 ?_
          refine r_getC F e_X10_readLine_172 fl_X10_202 h14833 (yd14824) ?_
          refine m_iconst F (v := 1) (by decide) e_X10_readLine_175 ?_
          refine m_iadd F e_X10_readLine_176 ?_
          refine Wm.topE (w := nI (ln3 + 1)) (nI_add ln3 1) ?_
          refine r_put F (g' := (⟨T, 0, u, h, P14588, L⟩ : RG)) e_X10_readLine_177 fp_X10_202 h14833 (by decide) ⟨_, rfl⟩ (fun _ _ _ _ q => q) (fun _ _ _ q => q) rfl rfl (by decide) (fun σ14841 h14842 g14843 g14844 f14845 => ?_)
          have ga14846 := ga14817.of (g14843 _ (by omega))
          have ga14847 := ga14818.of (g14843 _ (by omega))
          have ga14848 := ga14819.of (g14843 _ (by omega))
          have ga14849 := ga14820.of (g14843 _ (by omega))
          have ga14850 := ga14821.of (g14843 _ (by omega))
          have ga14851 := ga14822.of (g14843 _ (by omega))
          have ga14852 := ga14823.of (g14843 _ (by omega))
          have h14853 : HS V c _ [0, 2, 17, 18, 19, 20, 21, 22, 23] _ _ := ⟨HR.mono (Z' := Z) (by intro e; first | rfl | assumption | omega) h14842.1, h14842.2⟩
          exact m_vret F hQ e_X10_readLine_180 (⟨P14588, oP14588, (by unfold RP; omega), (by rw [eo14597]; show RM _ c n _ (stopS (tok t n) (j1, 5, j3, j4) nl3 nm3 np3 nc3 lc3 no3 sd3 md3 ln3); rw [stopS_1 (by decide)]; exact RM.l ((g14844 23 (by decide)).trans yd14829) ((g14844 24 (by decide)).trans yd14830) (by omega) (by omega) (by omega)), (fun S2 hS _ => by rw [eo14597] at hS; replace hS : stopS (tok t n) (j1, 5, j3, j4) nl3 nm3 np3 nc3 lc3 no3 sd3 md3 ln3 = .inr S2 := hS; rw [stopS_1 (by decide)] at hS; cases hS), h14853, rfl⟩)
    · refine r_getC F e_X10_readLine_1 fl_X10_110 h1 (yd14007) ?_
      refine m_if_eq F e_X10_readLine_4 (fun _ => ?_) (fun q => absurd (by decide) q)
      refine m_aload_n F rfl e_X10_readLine_15 ?_
      refine r_getC F e_X10_readLine_16 fl_X10_120 h1 (yd14008) ?_
      refine m_if_ne F e_X10_readLine_19 (fun _ => ?_) (fun q => absurd q (by decide))
      refine m_aload_n F rfl e_X10_readLine_29 ?_
      refine r_getC F e_X10_readLine_30 fl_X10_120 h1 (yd14008) ?_
      refine m_iconst F (v := 1) (by decide) e_X10_readLine_33 ?_
      refine m_icmp_ne F e_X10_readLine_34 (fun _ => ?_) (fun q => absurd q (by decide))
      refine m_aload_n F rfl e_X10_readLine_44 ?_
      refine r_getC F e_X10_readLine_45 fl_X10_120 h1 (yd14008) ?_
      refine m_iconst F (v := 2) (by decide) e_X10_readLine_48 ?_
      refine m_icmp_eq F e_X10_readLine_49 (fun q => absurd q (by decide)) (fun _ => ?_)
      refine m_aload_n F rfl e_X10_readLine_52 ?_
      refine r_getC F e_X10_readLine_53 fl_X10_120 h1 (yd14008) ?_
      refine m_iconst F (v := 5) (by decide) e_X10_readLine_56 ?_
      refine m_icmp_ne F e_X10_readLine_57 (fun _ => ?_) (fun q => absurd q (by decide))
      refine m_aload_n F rfl e_X10_readLine_80 ?_
      refine r_getC F e_X10_readLine_81 fl_X10_120 h1 (yd14008) ?_
      refine m_iconst F (v := 3) (by decide) e_X10_readLine_84 ?_
      refine m_icmp_ne F e_X10_readLine_85 (fun q => absurd (by decide) q) (fun _ => ?_)
      refine m_aload_n F rfl e_X10_readLine_88 ?_
      refine r_callV F e_X10_readLine_89 (q_X10_readFairE (x_l X) V c T Z u h P L _ _  n st 0 3 ln fp t 1 3 nm np lc no sd md h1.1 (hob) hP  ⟨(yd14004), (yd14005), (yd14006), (yd14007), (yd14008), (yd14009), (yd14010)⟩ hp1 hn7 (by omega) hp4 hp5 hp6 hp7 hp8 hp9 hp10 hp11 hp12 hp13 hp14) cb_X10_readFair ml_X10_187 im_X10_readFair se_X10_readFair h1 rfl rfl (rest := []) rfl (Nat.le_of_ble_eq_true rfl) ⟨Nat.le_of_ble_eq_true rfl, Nat.le_of_ble_eq_true rfl⟩ ⟨Nat.le_of_ble_eq_true rfl, Nat.le_of_ble_eq_true rfl⟩ (fun r σ14854 hp => ?_)
      obtain ⟨P14857, oP14857, rP14857, pr14858, h14855, hp⟩ := hp
      have h14856 := HS.trans h1 h14855 (by decide)
      have xP14857 := oP14857
      unfold OKP at xP14857
      unfold RP at rP14857
      have ga14859 := hp1.of (h14855.2 (c + 1) (by rw [kC_at (k := 1) (by decide)]; decide))
      have ga14860 := hp6.of (h14855.2 (c + 2) (by rw [kC_at (k := 2) (by decide)]; decide))
      have ga14861 := hp7.of (h14855.2 (c + 3) (by rw [kC_at (k := 3) (by decide)]; decide))
      have ga14862 := hp8.of (h14855.2 (c + 7) (by rw [kC_at (k := 7) (by decide)]; decide))
      have ga14863 := hp10.of (h14855.2 (c + 9) (by rw [kC_at (k := 9) (by decide)]; decide))
      have ga14864 := hp11.of (h14855.2 (c + 11) (by rw [kC_at (k := 11) (by decide)]; decide))
      obtain rfl := hp
      have rm14865 : RM σ14854 c n P14857 (lineS (tok t n) (st, 1, 3, P.a) P.n5 nm np P.n7 lc no sd md ln) := by rw [lineS_3]; exact pr14858
      cases eo14866 : lineS (tok t n) (st, 1, 3, P.a) P.n5 nm np P.n7 lc no sd md ln with
      | inl e8 =>
        rw [eo14866] at rm14865
        obtain ⟨⟨fa14867, fb14868⟩, c1, c2, c3⟩ := rm14865
        have nz8 : nI e8.1 ≠ 0 := fun e => absurd (nI_inj9 (b := 0) (by omega) (by omega) e) (by omega)
        refine m_goto F e_X10_readLine_92 ?_
        refine m_aload_n F rfl e_X10_readLine_146 ?_
        refine r_getC F e_X10_readLine_147 fl_X10_141 h14856 (fa14867) ?_
        refine m_if_ne F e_X10_readLine_150 (fun q150 => ?_) (fun q150 => ?_)
        · have c150 : e8.1 ≠ 0 := by have hh := mt (nI_eq (a := e8.1) (b := 0) (by omega) (by omega)).mpr q150; omega
          refine m_aload_n F rfl e_X10_readLine_166 ?_
          refine r_callV F e_X10_readLine_167 (q_X10_goOnG (x_l X) V c T Z u h P14857 L _ _  (nI e8.1) h14856.1 (hob) oP14857  (fa14867) (by assumption)) cb_X10_goOn ml_X10_154 im_X10_goOn se_X10_goOn h14856 rfl rfl (rest := []) rfl (Nat.le_of_ble_eq_true rfl) ⟨Nat.le_of_ble_eq_true rfl, Nat.le_of_ble_eq_true rfl⟩ ⟨Nat.le_of_ble_eq_true rfl, Nat.le_of_ble_eq_true rfl⟩ (fun r σ14869 hp => ?_)
          obtain ⟨h14870, hp⟩ := hp
          have h14871 := HS.trans h14856 h14870 (by decide)
          obtain ⟨rfl, rfl⟩ := hp
          refine m_aload_n F rfl e_X10_readLine_170 ?_
          refine m_dup F rfl e_X10_readLine_171 ?_
          refine r_get F e_X10_readLine_172 fl_X10_202 h14871 rfl (fun v hv f14872 => ?_)
          obtain ⟨x14873, rfl⟩ := hv
          refine m_iconst F (v := 1) (by decide) e_X10_readLine_175 ?_
          refine m_iadd F e_X10_readLine_176 ?_
          refine Wm.top (fun x14874 _ => ?_)
          refine r_put F (g' := (⟨T, Z, u, h, P14857, L⟩ : RG)) e_X10_readLine_177 fp_X10_202 h14871 (by decide) ⟨_, rfl⟩ (fun _ _ _ _ q => q) (fun _ _ _ q => q) rfl rfl (by decide) (fun σ14875 h14876 g14877 g14878 f14879 => ?_)
          exact m_vret F hQ e_X10_readLine_180 (⟨P14857, oP14857, (by unfold RP; omega), (by rw [eo14866]; show RM _ c n _ (.inl e8); exact RM.l ((g14878 23 (by decide)).trans fa14867) ((g14878 24 (by decide)).trans fb14868) (by omega) (by omega) (by omega)), (fun S2 hS _ => by rw [eo14866] at hS; cases hS), h14876, rfl⟩)
        · have c150 : e8.1 = 0 := (nI_eq (a := e8.1) (b := 0) (by omega) (by omega)).mp q150
          exact absurd q150 nz8
      | inr S1 =>
        rw [eo14866] at rm14865
        obtain ⟨⟨j1, j2, j3, j4⟩, nl3, nm3, np3, nc3, lc3, no3, sd3, md3, ln3⟩ := S1
        obtain ⟨so3, va3, fp3, mt3, yd3, ⟨pa3, p53, p73⟩, hN3, hM3, hK3, hF3, hG3, hQ3, c1, c2, c3, c4, c5⟩ := rm14865
        replace pa3 : _ = j4 := pa3
        replace c1 : j4 ≤ n := c1
        replace c2 : j1 ≤ n := c2
        have hyd14880 := yd3
        obtain ⟨yd14880, yd14881, yd14882, yd14883, yd14884, yd14885, yd14886⟩ := hyd14880
        refine m_goto F e_X10_readLine_92 ?_
        refine m_aload_n F rfl e_X10_readLine_146 ?_
        refine r_getC F e_X10_readLine_147 fl_X10_141 h14856 (yd14885) ?_
        refine m_if_ne F e_X10_readLine_150 (fun q => absurd (by decide) q) (fun _ => ?_)
        refine m_aload_n F rfl e_X10_readLine_153 ?_
        have hmt := mt3
        rcases hmt with ⟨rfl, rfl⟩ | ⟨rfl, rfl, rfl, hv3⟩ | ⟨rfl, rfl, rfl, hv3⟩ | ⟨rfl, rfl, w3, hw3, rfl, hm3⟩ | ⟨rfl, rfl⟩ | ⟨rfl, rfl⟩
        · refine r_getC F e_X10_readLine_154 fl_X10_110 h14856 (yd14883) ?_
          refine m_iconst F (v := 3) (by decide) e_X10_readLine_157 ?_
          refine m_icmp_eq F e_X10_readLine_158 (fun q => absurd q (by decide)) (fun _ => ?_)
          refine m_aload_n F rfl e_X10_readLine_161 ?_
          refine m_iconst F (v := 1) (by decide) e_X10_readLine_162 ?_
          refine r_callV F e_X10_readLine_163 (q_X10_wrongE (x_l X) V c T Z u h P14857 L _ _ 1 n j1 4 va3 ln3 fp3 h14856.1 (hob) oP14857 (by omega) ⟨(yd14880), (yd14881), (yd14882), (yd14883), (yd14884), (yd14885), (yd14886)⟩ (by decide)) cb_X10_wrong ml_X10_150 im_X10_wrong se_X10_wrong h14856 rfl rfl (rest := []) rfl (Nat.le_of_ble_eq_true rfl) ⟨Nat.le_of_ble_eq_true rfl, Nat.le_of_ble_eq_true rfl⟩ ⟨Nat.le_of_ble_eq_true rfl, Nat.le_of_ble_eq_true rfl⟩ (fun r σ14887 hp => ?_)
          obtain ⟨h14888, hp⟩ := hp
          have h14889 := HS.trans h14856 h14888 (by decide)
          have ga14890 := ga14859.of (h14888.2 (c + 1) (by rw [kC_at (k := 1) (by decide)]; decide))
          have ga14891 := hN3.of (h14888.2 (c + 2) (by rw [kC_at (k := 2) (by decide)]; decide))
          have ga14892 := hM3.of (h14888.2 (c + 3) (by rw [kC_at (k := 3) (by decide)]; decide))
          have ga14893 := hK3.of (h14888.2 (c + 7) (by rw [kC_at (k := 7) (by decide)]; decide))
          have ga14894 := hF3.of (h14888.2 (c + 8) (by rw [kC_at (k := 8) (by decide)]; decide))
          have ga14895 := hG3.of (h14888.2 (c + 9) (by rw [kC_at (k := 9) (by decide)]; decide))
          have ga14896 := hQ3.of (h14888.2 (c + 11) (by rw [kC_at (k := 11) (by decide)]; decide))
          obtain ⟨hp, rfl⟩ := hp
          have hyd14897 := hp
          obtain ⟨yd14897, yd14898, yd14899, yd14900, yd14901, yd14902, yd14903⟩ := hyd14897
          refine m_aload_n F rfl e_X10_readLine_166 ?_
          refine r_callV F e_X10_readLine_167 (q_X10_goOnG (x_l X) V c T 0 u h P14857 L _ _  1 h14889.1 (hob) oP14857  (yd14902) (by decide)) cb_X10_goOn ml_X10_154 im_X10_goOn se_X10_goOn h14889 rfl rfl (rest := []) rfl (Nat.le_of_ble_eq_true rfl) ⟨Nat.le_of_ble_eq_true rfl, Nat.le_of_ble_eq_true rfl⟩ ⟨Nat.le_of_ble_eq_true rfl, Nat.le_of_ble_eq_true rfl⟩ (fun r σ14904 hp => ?_)
          obtain ⟨h14905, hp⟩ := hp
          have h14906 := HS.trans h14889 h14905 (by decide)
          have ga14907 := ga14890.of (h14905.2 (c + 1) (by rw [kC_at (k := 1) (by decide)]; decide))
          have ga14908 := ga14891.of (h14905.2 (c + 2) (by rw [kC_at (k := 2) (by decide)]; decide))
          have ga14909 := ga14892.of (h14905.2 (c + 3) (by rw [kC_at (k := 3) (by decide)]; decide))
          have ga14910 := ga14893.of (h14905.2 (c + 7) (by rw [kC_at (k := 7) (by decide)]; decide))
          have ga14911 := ga14894.of (h14905.2 (c + 8) (by rw [kC_at (k := 8) (by decide)]; decide))
          have ga14912 := ga14895.of (h14905.2 (c + 9) (by rw [kC_at (k := 9) (by decide)]; decide))
          have ga14913 := ga14896.of (h14905.2 (c + 11) (by rw [kC_at (k := 11) (by decide)]; decide))
          obtain ⟨rfl, rfl⟩ := hp
          refine m_aload_n F rfl e_X10_readLine_170 ?_
          refine m_dup F rfl e_X10_readLine_171 ?_
          refine r_getC F e_X10_readLine_172 fl_X10_202 h14906 (yd14897) ?_
          refine m_iconst F (v := 1) (by decide) e_X10_readLine_175 ?_
          refine m_iadd F e_X10_readLine_176 ?_
          refine Wm.topE (w := nI (ln3 + 1)) (nI_add ln3 1) ?_
          refine r_put F (g' := (⟨T, 0, u, h, P14857, L⟩ : RG)) e_X10_readLine_177 fp_X10_202 h14906 (by decide) ⟨_, rfl⟩ (fun _ _ _ _ q => q) (fun _ _ _ q => q) rfl rfl (by decide) (fun σ14914 h14915 g14916 g14917 f14918 => ?_)
          have ga14919 := ga14890.of (g14916 _ (by omega))
          have ga14920 := ga14891.of (g14916 _ (by omega))
          have ga14921 := ga14892.of (g14916 _ (by omega))
          have ga14922 := ga14893.of (g14916 _ (by omega))
          have ga14923 := ga14894.of (g14916 _ (by omega))
          have ga14924 := ga14895.of (g14916 _ (by omega))
          have ga14925 := ga14896.of (g14916 _ (by omega))
          have h14926 : HS V c _ [0, 2, 17, 18, 19, 20, 21, 22, 23] _ _ := ⟨HR.mono (Z' := Z) (by intro e; first | rfl | assumption | omega) h14915.1, h14915.2⟩
          exact m_vret F hQ e_X10_readLine_180 (⟨P14857, oP14857, (by unfold RP; omega), (by rw [eo14866]; show RM _ c n _ (stopS (tok t n) (j1, 0, j3, j4) nl3 nm3 np3 nc3 lc3 no3 sd3 md3 ln3); rw [stopS_1 (by decide)]; exact RM.l ((g14917 23 (by decide)).trans yd14902) ((g14917 24 (by decide)).trans yd14903) (by omega) (by omega) (by omega)), (fun S2 hS _ => by rw [eo14866] at hS; replace hS : stopS (tok t n) (j1, 0, j3, j4) nl3 nm3 np3 nc3 lc3 no3 sd3 md3 ln3 = .inr S2 := hS; rw [stopS_1 (by decide)] at hS; cases hS), h14926, rfl⟩)
        · refine r_getC F e_X10_readLine_154 fl_X10_110 h14856 (yd14883) ?_
          refine m_iconst F (v := 3) (by decide) e_X10_readLine_157 ?_
          refine m_icmp_eq F e_X10_readLine_158 (fun q => absurd q (by decide)) (fun _ => ?_)
          refine m_aload_n F rfl e_X10_readLine_161 ?_
          refine m_iconst F (v := 1) (by decide) e_X10_readLine_162 ?_
          refine r_callV F e_X10_readLine_163 (q_X10_wrongE (x_l X) V c T Z u h P14857 L _ _ 1 n j1 0 (nI j3) ln3 fp3 h14856.1 (hob) oP14857 (by omega) ⟨(yd14880), (yd14881), (yd14882), (yd14883), (yd14884), (yd14885), (yd14886)⟩ (by decide)) cb_X10_wrong ml_X10_150 im_X10_wrong se_X10_wrong h14856 rfl rfl (rest := []) rfl (Nat.le_of_ble_eq_true rfl) ⟨Nat.le_of_ble_eq_true rfl, Nat.le_of_ble_eq_true rfl⟩ ⟨Nat.le_of_ble_eq_true rfl, Nat.le_of_ble_eq_true rfl⟩ (fun r σ14927 hp => ?_)
          obtain ⟨h14928, hp⟩ := hp
          have h14929 := HS.trans h14856 h14928 (by decide)
          have ga14930 := ga14859.of (h14928.2 (c + 1) (by rw [kC_at (k := 1) (by decide)]; decide))
          have ga14931 := hN3.of (h14928.2 (c + 2) (by rw [kC_at (k := 2) (by decide)]; decide))
          have ga14932 := hM3.of (h14928.2 (c + 3) (by rw [kC_at (k := 3) (by decide)]; decide))
          have ga14933 := hK3.of (h14928.2 (c + 7) (by rw [kC_at (k := 7) (by decide)]; decide))
          have ga14934 := hF3.of (h14928.2 (c + 8) (by rw [kC_at (k := 8) (by decide)]; decide))
          have ga14935 := hG3.of (h14928.2 (c + 9) (by rw [kC_at (k := 9) (by decide)]; decide))
          have ga14936 := hQ3.of (h14928.2 (c + 11) (by rw [kC_at (k := 11) (by decide)]; decide))
          obtain ⟨hp, rfl⟩ := hp
          have hyd14937 := hp
          obtain ⟨yd14937, yd14938, yd14939, yd14940, yd14941, yd14942, yd14943⟩ := hyd14937
          refine m_aload_n F rfl e_X10_readLine_166 ?_
          refine r_callV F e_X10_readLine_167 (q_X10_goOnG (x_l X) V c T 0 u h P14857 L _ _  1 h14929.1 (hob) oP14857  (yd14942) (by decide)) cb_X10_goOn ml_X10_154 im_X10_goOn se_X10_goOn h14929 rfl rfl (rest := []) rfl (Nat.le_of_ble_eq_true rfl) ⟨Nat.le_of_ble_eq_true rfl, Nat.le_of_ble_eq_true rfl⟩ ⟨Nat.le_of_ble_eq_true rfl, Nat.le_of_ble_eq_true rfl⟩ (fun r σ14944 hp => ?_)
          obtain ⟨h14945, hp⟩ := hp
          have h14946 := HS.trans h14929 h14945 (by decide)
          have ga14947 := ga14930.of (h14945.2 (c + 1) (by rw [kC_at (k := 1) (by decide)]; decide))
          have ga14948 := ga14931.of (h14945.2 (c + 2) (by rw [kC_at (k := 2) (by decide)]; decide))
          have ga14949 := ga14932.of (h14945.2 (c + 3) (by rw [kC_at (k := 3) (by decide)]; decide))
          have ga14950 := ga14933.of (h14945.2 (c + 7) (by rw [kC_at (k := 7) (by decide)]; decide))
          have ga14951 := ga14934.of (h14945.2 (c + 8) (by rw [kC_at (k := 8) (by decide)]; decide))
          have ga14952 := ga14935.of (h14945.2 (c + 9) (by rw [kC_at (k := 9) (by decide)]; decide))
          have ga14953 := ga14936.of (h14945.2 (c + 11) (by rw [kC_at (k := 11) (by decide)]; decide))
          obtain ⟨rfl, rfl⟩ := hp
          refine m_aload_n F rfl e_X10_readLine_170 ?_
          refine m_dup F rfl e_X10_readLine_171 ?_
          refine r_getC F e_X10_readLine_172 fl_X10_202 h14946 (yd14937) ?_
          refine m_iconst F (v := 1) (by decide) e_X10_readLine_175 ?_
          refine m_iadd F e_X10_readLine_176 ?_
          refine Wm.topE (w := nI (ln3 + 1)) (nI_add ln3 1) ?_
          refine r_put F (g' := (⟨T, 0, u, h, P14857, L⟩ : RG)) e_X10_readLine_177 fp_X10_202 h14946 (by decide) ⟨_, rfl⟩ (fun _ _ _ _ q => q) (fun _ _ _ q => q) rfl rfl (by decide) (fun σ14954 h14955 g14956 g14957 f14958 => ?_)
          have ga14959 := ga14930.of (g14956 _ (by omega))
          have ga14960 := ga14931.of (g14956 _ (by omega))
          have ga14961 := ga14932.of (g14956 _ (by omega))
          have ga14962 := ga14933.of (g14956 _ (by omega))
          have ga14963 := ga14934.of (g14956 _ (by omega))
          have ga14964 := ga14935.of (g14956 _ (by omega))
          have ga14965 := ga14936.of (g14956 _ (by omega))
          have h14966 : HS V c _ [0, 2, 17, 18, 19, 20, 21, 22, 23] _ _ := ⟨HR.mono (Z' := Z) (by intro e; first | rfl | assumption | omega) h14955.1, h14955.2⟩
          exact m_vret F hQ e_X10_readLine_180 (⟨P14857, oP14857, (by unfold RP; omega), (by rw [eo14866]; show RM _ c n _ (stopS (tok t n) (j1, 1, j3, j4) nl3 nm3 np3 nc3 lc3 no3 sd3 md3 ln3); rw [stopS_1 (by decide)]; exact RM.l ((g14957 23 (by decide)).trans yd14942) ((g14957 24 (by decide)).trans yd14943) (by omega) (by omega) (by omega)), (fun S2 hS _ => by rw [eo14866] at hS; replace hS : stopS (tok t n) (j1, 1, j3, j4) nl3 nm3 np3 nc3 lc3 no3 sd3 md3 ln3 = .inr S2 := hS; rw [stopS_1 (by decide)] at hS; cases hS), h14966, rfl⟩)
        · refine r_getC F e_X10_readLine_154 fl_X10_110 h14856 (yd14883) ?_
          refine m_iconst F (v := 3) (by decide) e_X10_readLine_157 ?_
          refine m_icmp_eq F e_X10_readLine_158 (fun q => absurd q (by decide)) (fun _ => ?_)
          refine m_aload_n F rfl e_X10_readLine_161 ?_
          refine m_iconst F (v := 1) (by decide) e_X10_readLine_162 ?_
          refine r_callV F e_X10_readLine_163 (q_X10_wrongE (x_l X) V c T Z u h P14857 L _ _ 1 n j1 1 (nI j3) ln3 fp3 h14856.1 (hob) oP14857 (by omega) ⟨(yd14880), (yd14881), (yd14882), (yd14883), (yd14884), (yd14885), (yd14886)⟩ (by decide)) cb_X10_wrong ml_X10_150 im_X10_wrong se_X10_wrong h14856 rfl rfl (rest := []) rfl (Nat.le_of_ble_eq_true rfl) ⟨Nat.le_of_ble_eq_true rfl, Nat.le_of_ble_eq_true rfl⟩ ⟨Nat.le_of_ble_eq_true rfl, Nat.le_of_ble_eq_true rfl⟩ (fun r σ14967 hp => ?_)
          obtain ⟨h14968, hp⟩ := hp
          have h14969 := HS.trans h14856 h14968 (by decide)
          have ga14970 := ga14859.of (h14968.2 (c + 1) (by rw [kC_at (k := 1) (by decide)]; decide))
          have ga14971 := hN3.of (h14968.2 (c + 2) (by rw [kC_at (k := 2) (by decide)]; decide))
          have ga14972 := hM3.of (h14968.2 (c + 3) (by rw [kC_at (k := 3) (by decide)]; decide))
          have ga14973 := hK3.of (h14968.2 (c + 7) (by rw [kC_at (k := 7) (by decide)]; decide))
          have ga14974 := hF3.of (h14968.2 (c + 8) (by rw [kC_at (k := 8) (by decide)]; decide))
          have ga14975 := hG3.of (h14968.2 (c + 9) (by rw [kC_at (k := 9) (by decide)]; decide))
          have ga14976 := hQ3.of (h14968.2 (c + 11) (by rw [kC_at (k := 11) (by decide)]; decide))
          obtain ⟨hp, rfl⟩ := hp
          have hyd14977 := hp
          obtain ⟨yd14977, yd14978, yd14979, yd14980, yd14981, yd14982, yd14983⟩ := hyd14977
          refine m_aload_n F rfl e_X10_readLine_166 ?_
          refine r_callV F e_X10_readLine_167 (q_X10_goOnG (x_l X) V c T 0 u h P14857 L _ _  1 h14969.1 (hob) oP14857  (yd14982) (by decide)) cb_X10_goOn ml_X10_154 im_X10_goOn se_X10_goOn h14969 rfl rfl (rest := []) rfl (Nat.le_of_ble_eq_true rfl) ⟨Nat.le_of_ble_eq_true rfl, Nat.le_of_ble_eq_true rfl⟩ ⟨Nat.le_of_ble_eq_true rfl, Nat.le_of_ble_eq_true rfl⟩ (fun r σ14984 hp => ?_)
          obtain ⟨h14985, hp⟩ := hp
          have h14986 := HS.trans h14969 h14985 (by decide)
          have ga14987 := ga14970.of (h14985.2 (c + 1) (by rw [kC_at (k := 1) (by decide)]; decide))
          have ga14988 := ga14971.of (h14985.2 (c + 2) (by rw [kC_at (k := 2) (by decide)]; decide))
          have ga14989 := ga14972.of (h14985.2 (c + 3) (by rw [kC_at (k := 3) (by decide)]; decide))
          have ga14990 := ga14973.of (h14985.2 (c + 7) (by rw [kC_at (k := 7) (by decide)]; decide))
          have ga14991 := ga14974.of (h14985.2 (c + 8) (by rw [kC_at (k := 8) (by decide)]; decide))
          have ga14992 := ga14975.of (h14985.2 (c + 9) (by rw [kC_at (k := 9) (by decide)]; decide))
          have ga14993 := ga14976.of (h14985.2 (c + 11) (by rw [kC_at (k := 11) (by decide)]; decide))
          obtain ⟨rfl, rfl⟩ := hp
          refine m_aload_n F rfl e_X10_readLine_170 ?_
          refine m_dup F rfl e_X10_readLine_171 ?_
          refine r_getC F e_X10_readLine_172 fl_X10_202 h14986 (yd14977) ?_
          refine m_iconst F (v := 1) (by decide) e_X10_readLine_175 ?_
          refine m_iadd F e_X10_readLine_176 ?_
          refine Wm.topE (w := nI (ln3 + 1)) (nI_add ln3 1) ?_
          refine r_put F (g' := (⟨T, 0, u, h, P14857, L⟩ : RG)) e_X10_readLine_177 fp_X10_202 h14986 (by decide) ⟨_, rfl⟩ (fun _ _ _ _ q => q) (fun _ _ _ q => q) rfl rfl (by decide) (fun σ14994 h14995 g14996 g14997 f14998 => ?_)
          have ga14999 := ga14970.of (g14996 _ (by omega))
          have ga15000 := ga14971.of (g14996 _ (by omega))
          have ga15001 := ga14972.of (g14996 _ (by omega))
          have ga15002 := ga14973.of (g14996 _ (by omega))
          have ga15003 := ga14974.of (g14996 _ (by omega))
          have ga15004 := ga14975.of (g14996 _ (by omega))
          have ga15005 := ga14976.of (g14996 _ (by omega))
          have h15006 : HS V c _ [0, 2, 17, 18, 19, 20, 21, 22, 23] _ _ := ⟨HR.mono (Z' := Z) (by intro e; first | rfl | assumption | omega) h14995.1, h14995.2⟩
          exact m_vret F hQ e_X10_readLine_180 (⟨P14857, oP14857, (by unfold RP; omega), (by rw [eo14866]; show RM _ c n _ (stopS (tok t n) (j1, 2, j3, j4) nl3 nm3 np3 nc3 lc3 no3 sd3 md3 ln3); rw [stopS_1 (by decide)]; exact RM.l ((g14997 23 (by decide)).trans yd14982) ((g14997 24 (by decide)).trans yd14983) (by omega) (by omega) (by omega)), (fun S2 hS _ => by rw [eo14866] at hS; replace hS : stopS (tok t n) (j1, 2, j3, j4) nl3 nm3 np3 nc3 lc3 no3 sd3 md3 ln3 = .inr S2 := hS; rw [stopS_1 (by decide)] at hS; cases hS), h15006, rfl⟩)
        · refine r_getC F e_X10_readLine_154 fl_X10_110 h14856 (yd14883) ?_
          refine m_iconst F (v := 3) (by decide) e_X10_readLine_157 ?_
          refine m_icmp_eq F e_X10_readLine_158 (fun q => absurd q (by decide)) (fun _ => ?_)
          refine m_aload_n F rfl e_X10_readLine_161 ?_
          refine m_iconst F (v := 1) (by decide) e_X10_readLine_162 ?_
          refine r_callV F e_X10_readLine_163 (q_X10_wrongE (x_l X) V c T Z u h P14857 L _ _ 1 n j1 2 (nI w3) ln3 fp3 h14856.1 (hob) oP14857 (by omega) ⟨(yd14880), (yd14881), (yd14882), (yd14883), (yd14884), (yd14885), (yd14886)⟩ (by decide)) cb_X10_wrong ml_X10_150 im_X10_wrong se_X10_wrong h14856 rfl rfl (rest := []) rfl (Nat.le_of_ble_eq_true rfl) ⟨Nat.le_of_ble_eq_true rfl, Nat.le_of_ble_eq_true rfl⟩ ⟨Nat.le_of_ble_eq_true rfl, Nat.le_of_ble_eq_true rfl⟩ (fun r σ15007 hp => ?_)
          obtain ⟨h15008, hp⟩ := hp
          have h15009 := HS.trans h14856 h15008 (by decide)
          have ga15010 := ga14859.of (h15008.2 (c + 1) (by rw [kC_at (k := 1) (by decide)]; decide))
          have ga15011 := hN3.of (h15008.2 (c + 2) (by rw [kC_at (k := 2) (by decide)]; decide))
          have ga15012 := hM3.of (h15008.2 (c + 3) (by rw [kC_at (k := 3) (by decide)]; decide))
          have ga15013 := hK3.of (h15008.2 (c + 7) (by rw [kC_at (k := 7) (by decide)]; decide))
          have ga15014 := hF3.of (h15008.2 (c + 8) (by rw [kC_at (k := 8) (by decide)]; decide))
          have ga15015 := hG3.of (h15008.2 (c + 9) (by rw [kC_at (k := 9) (by decide)]; decide))
          have ga15016 := hQ3.of (h15008.2 (c + 11) (by rw [kC_at (k := 11) (by decide)]; decide))
          obtain ⟨hp, rfl⟩ := hp
          have hyd15017 := hp
          obtain ⟨yd15017, yd15018, yd15019, yd15020, yd15021, yd15022, yd15023⟩ := hyd15017
          refine m_aload_n F rfl e_X10_readLine_166 ?_
          refine r_callV F e_X10_readLine_167 (q_X10_goOnG (x_l X) V c T 0 u h P14857 L _ _  1 h15009.1 (hob) oP14857  (yd15022) (by decide)) cb_X10_goOn ml_X10_154 im_X10_goOn se_X10_goOn h15009 rfl rfl (rest := []) rfl (Nat.le_of_ble_eq_true rfl) ⟨Nat.le_of_ble_eq_true rfl, Nat.le_of_ble_eq_true rfl⟩ ⟨Nat.le_of_ble_eq_true rfl, Nat.le_of_ble_eq_true rfl⟩ (fun r σ15024 hp => ?_)
          obtain ⟨h15025, hp⟩ := hp
          have h15026 := HS.trans h15009 h15025 (by decide)
          have ga15027 := ga15010.of (h15025.2 (c + 1) (by rw [kC_at (k := 1) (by decide)]; decide))
          have ga15028 := ga15011.of (h15025.2 (c + 2) (by rw [kC_at (k := 2) (by decide)]; decide))
          have ga15029 := ga15012.of (h15025.2 (c + 3) (by rw [kC_at (k := 3) (by decide)]; decide))
          have ga15030 := ga15013.of (h15025.2 (c + 7) (by rw [kC_at (k := 7) (by decide)]; decide))
          have ga15031 := ga15014.of (h15025.2 (c + 8) (by rw [kC_at (k := 8) (by decide)]; decide))
          have ga15032 := ga15015.of (h15025.2 (c + 9) (by rw [kC_at (k := 9) (by decide)]; decide))
          have ga15033 := ga15016.of (h15025.2 (c + 11) (by rw [kC_at (k := 11) (by decide)]; decide))
          obtain ⟨rfl, rfl⟩ := hp
          refine m_aload_n F rfl e_X10_readLine_170 ?_
          refine m_dup F rfl e_X10_readLine_171 ?_
          refine r_getC F e_X10_readLine_172 fl_X10_202 h15026 (yd15017) ?_
          refine m_iconst F (v := 1) (by decide) e_X10_readLine_175 ?_
          refine m_iadd F e_X10_readLine_176 ?_
          refine Wm.topE (w := nI (ln3 + 1)) (nI_add ln3 1) ?_
          refine r_put F (g' := (⟨T, 0, u, h, P14857, L⟩ : RG)) e_X10_readLine_177 fp_X10_202 h15026 (by decide) ⟨_, rfl⟩ (fun _ _ _ _ q => q) (fun _ _ _ q => q) rfl rfl (by decide) (fun σ15034 h15035 g15036 g15037 f15038 => ?_)
          have ga15039 := ga15010.of (g15036 _ (by omega))
          have ga15040 := ga15011.of (g15036 _ (by omega))
          have ga15041 := ga15012.of (g15036 _ (by omega))
          have ga15042 := ga15013.of (g15036 _ (by omega))
          have ga15043 := ga15014.of (g15036 _ (by omega))
          have ga15044 := ga15015.of (g15036 _ (by omega))
          have ga15045 := ga15016.of (g15036 _ (by omega))
          have h15046 : HS V c _ [0, 2, 17, 18, 19, 20, 21, 22, 23] _ _ := ⟨HR.mono (Z' := Z) (by intro e; first | rfl | assumption | omega) h15035.1, h15035.2⟩
          exact m_vret F hQ e_X10_readLine_180 (⟨P14857, oP14857, (by unfold RP; omega), (by rw [eo14866]; show RM _ c n _ (stopS (tok t n) (j1, 3, j3, j4) nl3 nm3 np3 nc3 lc3 no3 sd3 md3 ln3); rw [stopS_1 (by decide)]; exact RM.l ((g15037 23 (by decide)).trans yd15022) ((g15037 24 (by decide)).trans yd15023) (by omega) (by omega) (by omega)), (fun S2 hS _ => by rw [eo14866] at hS; replace hS : stopS (tok t n) (j1, 3, j3, j4) nl3 nm3 np3 nc3 lc3 no3 sd3 md3 ln3 = .inr S2 := hS; rw [stopS_1 (by decide)] at hS; cases hS), h15046, rfl⟩)
        · refine r_getC F e_X10_readLine_154 fl_X10_110 h14856 (yd14883) ?_
          refine m_iconst F (v := 3) (by decide) e_X10_readLine_157 ?_
          refine m_icmp_eq F e_X10_readLine_158 (fun _ => ?_) (fun q => absurd (by decide) q)
          refine m_aload_n F rfl e_X10_readLine_166 ?_
          refine r_callV F e_X10_readLine_167 (q_X10_goOnE (x_l X) V c T Z u h P14857 L _ _  n j1 3 va3 ln3 fp3 t h14856.1 (hob) oP14857  ⟨(yd14880), (yd14881), (yd14882), (yd14883), (yd14884), (yd14885), (yd14886)⟩ ga14859 hn7 (by omega)) cb_X10_goOn ml_X10_154 im_X10_goOn se_X10_goOn h14856 rfl rfl (rest := []) rfl (Nat.le_of_ble_eq_true rfl) ⟨Nat.le_of_ble_eq_true rfl, Nat.le_of_ble_eq_true rfl⟩ ⟨Nat.le_of_ble_eq_true rfl, Nat.le_of_ble_eq_true rfl⟩ (fun r σ15047 hp => ?_)
          obtain ⟨P15050, oP15050, rP15050, pr15051, pr15052, h15048, hp⟩ := hp
          have h15049 := HS.trans h14856 h15048 (by decide)
          have xP15050 := oP15050
          unfold OKP at xP15050
          unfold RA at rP15050
          have ga15053 := ga14859.of (h15048.2 (c + 1) (by rw [kC_at (k := 1) (by decide)]; decide))
          have ga15054 := hN3.of (h15048.2 (c + 2) (by rw [kC_at (k := 2) (by decide)]; decide))
          have ga15055 := hM3.of (h15048.2 (c + 3) (by rw [kC_at (k := 3) (by decide)]; decide))
          have ga15056 := hK3.of (h15048.2 (c + 7) (by rw [kC_at (k := 7) (by decide)]; decide))
          have ga15057 := hF3.of (h15048.2 (c + 8) (by rw [kC_at (k := 8) (by decide)]; decide))
          have ga15058 := hG3.of (h15048.2 (c + 9) (by rw [kC_at (k := 9) (by decide)]; decide))
          have ga15059 := hQ3.of (h15048.2 (c + 11) (by rw [kC_at (k := 11) (by decide)]; decide))
          obtain rfl := hp
          rw [pa3] at pr15051 pr15052
          have b8 := tok_ok (t := t) (n := n) j4 c1
          obtain ⟨so15060, va15061, mt15062, yd15063⟩ := pr15052
          have hyd15064 := yd15063
          obtain ⟨yd15064, yd15065, yd15066, yd15067, yd15068, yd15069, yd15070⟩ := hyd15064
          refine m_aload_n F rfl e_X10_readLine_170 ?_
          refine m_dup F rfl e_X10_readLine_171 ?_
          refine r_getC F e_X10_readLine_172 fl_X10_202 h15049 (yd15064) ?_
          refine m_iconst F (v := 1) (by decide) e_X10_readLine_175 ?_
          refine m_iadd F e_X10_readLine_176 ?_
          refine Wm.topE (w := nI (ln3 + 1)) (nI_add ln3 1) ?_
          refine r_put F (g' := (⟨T, Z, u, h, P15050, L⟩ : RG)) e_X10_readLine_177 fp_X10_202 h15049 (by decide) ⟨_, rfl⟩ (fun _ _ _ _ q => q) (fun _ _ _ q => q) rfl rfl (by decide) (fun σ15071 h15072 g15073 g15074 f15075 => ?_)
          have ga15076 := ga15053.of (g15073 _ (by omega))
          have ga15077 := ga15054.of (g15073 _ (by omega))
          have ga15078 := ga15055.of (g15073 _ (by omega))
          have ga15079 := ga15056.of (g15073 _ (by omega))
          have ga15080 := ga15057.of (g15073 _ (by omega))
          have ga15081 := ga15058.of (g15073 _ (by omega))
          have ga15082 := ga15059.of (g15073 _ (by omega))
          exact m_vret F hQ e_X10_readLine_180 (⟨P15050, oP15050, (by unfold RP; omega), (by rw [eo14866]; show RM _ c n _ (stopS (tok t n) (j1, 4, j3, j4) nl3 nm3 np3 nc3 lc3 no3 sd3 md3 ln3); rw [stopS_ok]; exact RM.r mt15062 ⟨(f15075), ((g15074 18 (by decide)).trans yd15065), ((g15074 20 (by decide)).trans yd15066), ((g15074 21 (by decide)).trans yd15067), ((g15074 22 (by decide)).trans yd15068), ((g15074 23 (by decide)).trans yd15069), ((g15074 24 (by decide)).trans yd15070)⟩ (by omega) (by omega) (by omega) ga15077 ga15078 ga15079 ga15080 ga15081 ga15082 (by omega) (by omega) (by omega) (by omega) (by omega)), (fun S2 hS hz => by rw [eo14866] at hS; replace hS : stopS (tok t n) (j1, 4, j3, j4) nl3 nm3 np3 nc3 lc3 no3 sd3 md3 ln3 = .inr S2 := hS; rw [stopS_ok] at hS; cases hS; replace hz : (tok t n j4).2.1 ≠ 0 := hz; have h8 := b8.2.2.2 hz; omega), h15072, rfl⟩)
        · refine r_getC F e_X10_readLine_154 fl_X10_110 h14856 (yd14883) ?_
          refine m_iconst F (v := 3) (by decide) e_X10_readLine_157 ?_
          refine m_icmp_eq F e_X10_readLine_158 (fun q => absurd q (by decide)) (fun _ => ?_)
          refine m_aload_n F rfl e_X10_readLine_161 ?_
          refine m_iconst F (v := 1) (by decide) e_X10_readLine_162 ?_
          refine r_callV F e_X10_readLine_163 (q_X10_wrongE (x_l X) V c T Z u h P14857 L _ _ 1 n j1 5 va3 ln3 fp3 h14856.1 (hob) oP14857 (by omega) ⟨(yd14880), (yd14881), (yd14882), (yd14883), (yd14884), (yd14885), (yd14886)⟩ (by decide)) cb_X10_wrong ml_X10_150 im_X10_wrong se_X10_wrong h14856 rfl rfl (rest := []) rfl (Nat.le_of_ble_eq_true rfl) ⟨Nat.le_of_ble_eq_true rfl, Nat.le_of_ble_eq_true rfl⟩ ⟨Nat.le_of_ble_eq_true rfl, Nat.le_of_ble_eq_true rfl⟩ (fun r σ15083 hp => ?_)
          obtain ⟨h15084, hp⟩ := hp
          have h15085 := HS.trans h14856 h15084 (by decide)
          have ga15086 := ga14859.of (h15084.2 (c + 1) (by rw [kC_at (k := 1) (by decide)]; decide))
          have ga15087 := hN3.of (h15084.2 (c + 2) (by rw [kC_at (k := 2) (by decide)]; decide))
          have ga15088 := hM3.of (h15084.2 (c + 3) (by rw [kC_at (k := 3) (by decide)]; decide))
          have ga15089 := hK3.of (h15084.2 (c + 7) (by rw [kC_at (k := 7) (by decide)]; decide))
          have ga15090 := hF3.of (h15084.2 (c + 8) (by rw [kC_at (k := 8) (by decide)]; decide))
          have ga15091 := hG3.of (h15084.2 (c + 9) (by rw [kC_at (k := 9) (by decide)]; decide))
          have ga15092 := hQ3.of (h15084.2 (c + 11) (by rw [kC_at (k := 11) (by decide)]; decide))
          obtain ⟨hp, rfl⟩ := hp
          have hyd15093 := hp
          obtain ⟨yd15093, yd15094, yd15095, yd15096, yd15097, yd15098, yd15099⟩ := hyd15093
          refine m_aload_n F rfl e_X10_readLine_166 ?_
          refine r_callV F e_X10_readLine_167 (q_X10_goOnG (x_l X) V c T 0 u h P14857 L _ _  1 h15085.1 (hob) oP14857  (yd15098) (by decide)) cb_X10_goOn ml_X10_154 im_X10_goOn se_X10_goOn h15085 rfl rfl (rest := []) rfl (Nat.le_of_ble_eq_true rfl) ⟨Nat.le_of_ble_eq_true rfl, Nat.le_of_ble_eq_true rfl⟩ ⟨Nat.le_of_ble_eq_true rfl, Nat.le_of_ble_eq_true rfl⟩ (fun r σ15100 hp => ?_)
          obtain ⟨h15101, hp⟩ := hp
          have h15102 := HS.trans h15085 h15101 (by decide)
          have ga15103 := ga15086.of (h15101.2 (c + 1) (by rw [kC_at (k := 1) (by decide)]; decide))
          have ga15104 := ga15087.of (h15101.2 (c + 2) (by rw [kC_at (k := 2) (by decide)]; decide))
          have ga15105 := ga15088.of (h15101.2 (c + 3) (by rw [kC_at (k := 3) (by decide)]; decide))
          have ga15106 := ga15089.of (h15101.2 (c + 7) (by rw [kC_at (k := 7) (by decide)]; decide))
          have ga15107 := ga15090.of (h15101.2 (c + 8) (by rw [kC_at (k := 8) (by decide)]; decide))
          have ga15108 := ga15091.of (h15101.2 (c + 9) (by rw [kC_at (k := 9) (by decide)]; decide))
          have ga15109 := ga15092.of (h15101.2 (c + 11) (by rw [kC_at (k := 11) (by decide)]; decide))
          obtain ⟨rfl, rfl⟩ := hp
          refine m_aload_n F rfl e_X10_readLine_170 ?_
          refine m_dup F rfl e_X10_readLine_171 ?_
          refine r_getC F e_X10_readLine_172 fl_X10_202 h15102 (yd15093) ?_
          refine m_iconst F (v := 1) (by decide) e_X10_readLine_175 ?_
          refine m_iadd F e_X10_readLine_176 ?_
          refine Wm.topE (w := nI (ln3 + 1)) (nI_add ln3 1) ?_
          refine r_put F (g' := (⟨T, 0, u, h, P14857, L⟩ : RG)) e_X10_readLine_177 fp_X10_202 h15102 (by decide) ⟨_, rfl⟩ (fun _ _ _ _ q => q) (fun _ _ _ q => q) rfl rfl (by decide) (fun σ15110 h15111 g15112 g15113 f15114 => ?_)
          have ga15115 := ga15086.of (g15112 _ (by omega))
          have ga15116 := ga15087.of (g15112 _ (by omega))
          have ga15117 := ga15088.of (g15112 _ (by omega))
          have ga15118 := ga15089.of (g15112 _ (by omega))
          have ga15119 := ga15090.of (g15112 _ (by omega))
          have ga15120 := ga15091.of (g15112 _ (by omega))
          have ga15121 := ga15092.of (g15112 _ (by omega))
          have h15122 : HS V c _ [0, 2, 17, 18, 19, 20, 21, 22, 23] _ _ := ⟨HR.mono (Z' := Z) (by intro e; first | rfl | assumption | omega) h15111.1, h15111.2⟩
          exact m_vret F hQ e_X10_readLine_180 (⟨P14857, oP14857, (by unfold RP; omega), (by rw [eo14866]; show RM _ c n _ (stopS (tok t n) (j1, 5, j3, j4) nl3 nm3 np3 nc3 lc3 no3 sd3 md3 ln3); rw [stopS_1 (by decide)]; exact RM.l ((g15113 23 (by decide)).trans yd15098) ((g15113 24 (by decide)).trans yd15099) (by omega) (by omega) (by omega)), (fun S2 hS _ => by rw [eo14866] at hS; replace hS : stopS (tok t n) (j1, 5, j3, j4) nl3 nm3 np3 nc3 lc3 no3 sd3 md3 ln3 = .inr S2 := hS; rw [stopS_1 (by decide)] at hS; cases hS), h15122, rfl⟩)
    · refine r_getC F e_X10_readLine_1 fl_X10_110 h1 (yd14007) ?_
      refine m_if_eq F e_X10_readLine_4 (fun _ => ?_) (fun q => absurd (by decide) q)
      refine m_aload_n F rfl e_X10_readLine_15 ?_
      refine r_getC F e_X10_readLine_16 fl_X10_120 h1 (yd14008) ?_
      refine m_if_ne F e_X10_readLine_19 (fun _ => ?_) (fun q => absurd q (by decide))
      refine m_aload_n F rfl e_X10_readLine_29 ?_
      refine r_getC F e_X10_readLine_30 fl_X10_120 h1 (yd14008) ?_
      refine m_iconst F (v := 1) (by decide) e_X10_readLine_33 ?_
      refine m_icmp_ne F e_X10_readLine_34 (fun _ => ?_) (fun q => absurd q (by decide))
      refine m_aload_n F rfl e_X10_readLine_44 ?_
      refine r_getC F e_X10_readLine_45 fl_X10_120 h1 (yd14008) ?_
      refine m_iconst F (v := 2) (by decide) e_X10_readLine_48 ?_
      refine m_icmp_eq F e_X10_readLine_49 (fun q => absurd q (by decide)) (fun _ => ?_)
      refine m_aload_n F rfl e_X10_readLine_52 ?_
      refine r_getC F e_X10_readLine_53 fl_X10_120 h1 (yd14008) ?_
      refine m_iconst F (v := 5) (by decide) e_X10_readLine_56 ?_
      refine m_icmp_ne F e_X10_readLine_57 (fun _ => ?_) (fun q => absurd q (by decide))
      refine m_aload_n F rfl e_X10_readLine_80 ?_
      refine r_getC F e_X10_readLine_81 fl_X10_120 h1 (yd14008) ?_
      refine m_iconst F (v := 3) (by decide) e_X10_readLine_84 ?_
      refine m_icmp_ne F e_X10_readLine_85 (fun _ => ?_) (fun q => absurd q (by decide))
      refine m_aload_n F rfl e_X10_readLine_95 ?_
      refine r_getC F e_X10_readLine_96 fl_X10_120 h1 (yd14008) ?_
      refine m_iconst F (v := 4) (by decide) e_X10_readLine_99 ?_
      refine m_icmp_ne F e_X10_readLine_100 (fun q => absurd (by decide) q) (fun _ => ?_)
      refine m_aload_n F rfl e_X10_readLine_103 ?_
      refine r_callV F e_X10_readLine_104 (q_X10_readFeeE (x_l X) V c T Z u h P L _ _  n st 0 4 ln fp t 1 4 nm np lc no sd md h1.1 (hob) hP  ⟨(yd14004), (yd14005), (yd14006), (yd14007), (yd14008), (yd14009), (yd14010)⟩ hp1 hn7 (by omega) hp4 hp5 hp6 hp7 hp8 hp9 hp10 hp11 hp12 hp13 hp14) cb_X10_readFee ml_X10_190 im_X10_readFee se_X10_readFee h1 rfl rfl (rest := []) rfl (Nat.le_of_ble_eq_true rfl) ⟨Nat.le_of_ble_eq_true rfl, Nat.le_of_ble_eq_true rfl⟩ ⟨Nat.le_of_ble_eq_true rfl, Nat.le_of_ble_eq_true rfl⟩ (fun r σ15123 hp => ?_)
      obtain ⟨P15126, oP15126, rP15126, pr15127, h15124, hp⟩ := hp
      have h15125 := HS.trans h1 h15124 (by decide)
      have xP15126 := oP15126
      unfold OKP at xP15126
      unfold RP at rP15126
      have ga15128 := hp1.of (h15124.2 (c + 1) (by rw [kC_at (k := 1) (by decide)]; decide))
      have ga15129 := hp6.of (h15124.2 (c + 2) (by rw [kC_at (k := 2) (by decide)]; decide))
      have ga15130 := hp7.of (h15124.2 (c + 3) (by rw [kC_at (k := 3) (by decide)]; decide))
      have ga15131 := hp8.of (h15124.2 (c + 7) (by rw [kC_at (k := 7) (by decide)]; decide))
      have ga15132 := hp9.of (h15124.2 (c + 8) (by rw [kC_at (k := 8) (by decide)]; decide))
      have ga15133 := hp11.of (h15124.2 (c + 11) (by rw [kC_at (k := 11) (by decide)]; decide))
      obtain rfl := hp
      have rm15134 : RM σ15123 c n P15126 (lineS (tok t n) (st, 1, 4, P.a) P.n5 nm np P.n7 lc no sd md ln) := by rw [lineS_4]; exact pr15127
      cases eo15135 : lineS (tok t n) (st, 1, 4, P.a) P.n5 nm np P.n7 lc no sd md ln with
      | inl e8 =>
        rw [eo15135] at rm15134
        obtain ⟨⟨fa15136, fb15137⟩, c1, c2, c3⟩ := rm15134
        have nz8 : nI e8.1 ≠ 0 := fun e => absurd (nI_inj9 (b := 0) (by omega) (by omega) e) (by omega)
        refine m_goto F e_X10_readLine_107 ?_
        refine m_aload_n F rfl e_X10_readLine_146 ?_
        refine r_getC F e_X10_readLine_147 fl_X10_141 h15125 (fa15136) ?_
        refine m_if_ne F e_X10_readLine_150 (fun q150 => ?_) (fun q150 => ?_)
        · have c150 : e8.1 ≠ 0 := by have hh := mt (nI_eq (a := e8.1) (b := 0) (by omega) (by omega)).mpr q150; omega
          refine m_aload_n F rfl e_X10_readLine_166 ?_
          refine r_callV F e_X10_readLine_167 (q_X10_goOnG (x_l X) V c T Z u h P15126 L _ _  (nI e8.1) h15125.1 (hob) oP15126  (fa15136) (by assumption)) cb_X10_goOn ml_X10_154 im_X10_goOn se_X10_goOn h15125 rfl rfl (rest := []) rfl (Nat.le_of_ble_eq_true rfl) ⟨Nat.le_of_ble_eq_true rfl, Nat.le_of_ble_eq_true rfl⟩ ⟨Nat.le_of_ble_eq_true rfl, Nat.le_of_ble_eq_true rfl⟩ (fun r σ15138 hp => ?_)
          obtain ⟨h15139, hp⟩ := hp
          have h15140 := HS.trans h15125 h15139 (by decide)
          obtain ⟨rfl, rfl⟩ := hp
          refine m_aload_n F rfl e_X10_readLine_170 ?_
          refine m_dup F rfl e_X10_readLine_171 ?_
          refine r_get F e_X10_readLine_172 fl_X10_202 h15140 rfl (fun v hv f15141 => ?_)
          obtain ⟨x15142, rfl⟩ := hv
          refine m_iconst F (v := 1) (by decide) e_X10_readLine_175 ?_
          refine m_iadd F e_X10_readLine_176 ?_
          refine Wm.top (fun x15143 _ => ?_)
          refine r_put F (g' := (⟨T, Z, u, h, P15126, L⟩ : RG)) e_X10_readLine_177 fp_X10_202 h15140 (by decide) ⟨_, rfl⟩ (fun _ _ _ _ q => q) (fun _ _ _ q => q) rfl rfl (by decide) (fun σ15144 h15145 g15146 g15147 f15148 => ?_)
          exact m_vret F hQ e_X10_readLine_180 (⟨P15126, oP15126, (by unfold RP; omega), (by rw [eo15135]; show RM _ c n _ (.inl e8); exact RM.l ((g15147 23 (by decide)).trans fa15136) ((g15147 24 (by decide)).trans fb15137) (by omega) (by omega) (by omega)), (fun S2 hS _ => by rw [eo15135] at hS; cases hS), h15145, rfl⟩)
        · have c150 : e8.1 = 0 := (nI_eq (a := e8.1) (b := 0) (by omega) (by omega)).mp q150
          exact absurd q150 nz8
      | inr S1 =>
        rw [eo15135] at rm15134
        obtain ⟨⟨j1, j2, j3, j4⟩, nl3, nm3, np3, nc3, lc3, no3, sd3, md3, ln3⟩ := S1
        obtain ⟨so3, va3, fp3, mt3, yd3, ⟨pa3, p53, p73⟩, hN3, hM3, hK3, hF3, hG3, hQ3, c1, c2, c3, c4, c5⟩ := rm15134
        replace pa3 : _ = j4 := pa3
        replace c1 : j4 ≤ n := c1
        replace c2 : j1 ≤ n := c2
        have hyd15149 := yd3
        obtain ⟨yd15149, yd15150, yd15151, yd15152, yd15153, yd15154, yd15155⟩ := hyd15149
        refine m_goto F e_X10_readLine_107 ?_
        refine m_aload_n F rfl e_X10_readLine_146 ?_
        refine r_getC F e_X10_readLine_147 fl_X10_141 h15125 (yd15154) ?_
        refine m_if_ne F e_X10_readLine_150 (fun q => absurd (by decide) q) (fun _ => ?_)
        refine m_aload_n F rfl e_X10_readLine_153 ?_
        have hmt := mt3
        rcases hmt with ⟨rfl, rfl⟩ | ⟨rfl, rfl, rfl, hv3⟩ | ⟨rfl, rfl, rfl, hv3⟩ | ⟨rfl, rfl, w3, hw3, rfl, hm3⟩ | ⟨rfl, rfl⟩ | ⟨rfl, rfl⟩
        · refine r_getC F e_X10_readLine_154 fl_X10_110 h15125 (yd15152) ?_
          refine m_iconst F (v := 3) (by decide) e_X10_readLine_157 ?_
          refine m_icmp_eq F e_X10_readLine_158 (fun q => absurd q (by decide)) (fun _ => ?_)
          refine m_aload_n F rfl e_X10_readLine_161 ?_
          refine m_iconst F (v := 1) (by decide) e_X10_readLine_162 ?_
          refine r_callV F e_X10_readLine_163 (q_X10_wrongE (x_l X) V c T Z u h P15126 L _ _ 1 n j1 4 va3 ln3 fp3 h15125.1 (hob) oP15126 (by omega) ⟨(yd15149), (yd15150), (yd15151), (yd15152), (yd15153), (yd15154), (yd15155)⟩ (by decide)) cb_X10_wrong ml_X10_150 im_X10_wrong se_X10_wrong h15125 rfl rfl (rest := []) rfl (Nat.le_of_ble_eq_true rfl) ⟨Nat.le_of_ble_eq_true rfl, Nat.le_of_ble_eq_true rfl⟩ ⟨Nat.le_of_ble_eq_true rfl, Nat.le_of_ble_eq_true rfl⟩ (fun r σ15156 hp => ?_)
          obtain ⟨h15157, hp⟩ := hp
          have h15158 := HS.trans h15125 h15157 (by decide)
          have ga15159 := ga15128.of (h15157.2 (c + 1) (by rw [kC_at (k := 1) (by decide)]; decide))
          have ga15160 := hN3.of (h15157.2 (c + 2) (by rw [kC_at (k := 2) (by decide)]; decide))
          have ga15161 := hM3.of (h15157.2 (c + 3) (by rw [kC_at (k := 3) (by decide)]; decide))
          have ga15162 := hK3.of (h15157.2 (c + 7) (by rw [kC_at (k := 7) (by decide)]; decide))
          have ga15163 := hF3.of (h15157.2 (c + 8) (by rw [kC_at (k := 8) (by decide)]; decide))
          have ga15164 := hG3.of (h15157.2 (c + 9) (by rw [kC_at (k := 9) (by decide)]; decide))
          have ga15165 := hQ3.of (h15157.2 (c + 11) (by rw [kC_at (k := 11) (by decide)]; decide))
          obtain ⟨hp, rfl⟩ := hp
          have hyd15166 := hp
          obtain ⟨yd15166, yd15167, yd15168, yd15169, yd15170, yd15171, yd15172⟩ := hyd15166
          refine m_aload_n F rfl e_X10_readLine_166 ?_
          refine r_callV F e_X10_readLine_167 (q_X10_goOnG (x_l X) V c T 0 u h P15126 L _ _  1 h15158.1 (hob) oP15126  (yd15171) (by decide)) cb_X10_goOn ml_X10_154 im_X10_goOn se_X10_goOn h15158 rfl rfl (rest := []) rfl (Nat.le_of_ble_eq_true rfl) ⟨Nat.le_of_ble_eq_true rfl, Nat.le_of_ble_eq_true rfl⟩ ⟨Nat.le_of_ble_eq_true rfl, Nat.le_of_ble_eq_true rfl⟩ (fun r σ15173 hp => ?_)
          obtain ⟨h15174, hp⟩ := hp
          have h15175 := HS.trans h15158 h15174 (by decide)
          have ga15176 := ga15159.of (h15174.2 (c + 1) (by rw [kC_at (k := 1) (by decide)]; decide))
          have ga15177 := ga15160.of (h15174.2 (c + 2) (by rw [kC_at (k := 2) (by decide)]; decide))
          have ga15178 := ga15161.of (h15174.2 (c + 3) (by rw [kC_at (k := 3) (by decide)]; decide))
          have ga15179 := ga15162.of (h15174.2 (c + 7) (by rw [kC_at (k := 7) (by decide)]; decide))
          have ga15180 := ga15163.of (h15174.2 (c + 8) (by rw [kC_at (k := 8) (by decide)]; decide))
          have ga15181 := ga15164.of (h15174.2 (c + 9) (by rw [kC_at (k := 9) (by decide)]; decide))
          have ga15182 := ga15165.of (h15174.2 (c + 11) (by rw [kC_at (k := 11) (by decide)]; decide))
          obtain ⟨rfl, rfl⟩ := hp
          refine m_aload_n F rfl e_X10_readLine_170 ?_
          refine m_dup F rfl e_X10_readLine_171 ?_
          refine r_getC F e_X10_readLine_172 fl_X10_202 h15175 (yd15166) ?_
          refine m_iconst F (v := 1) (by decide) e_X10_readLine_175 ?_
          refine m_iadd F e_X10_readLine_176 ?_
          refine Wm.topE (w := nI (ln3 + 1)) (nI_add ln3 1) ?_
          refine r_put F (g' := (⟨T, 0, u, h, P15126, L⟩ : RG)) e_X10_readLine_177 fp_X10_202 h15175 (by decide) ⟨_, rfl⟩ (fun _ _ _ _ q => q) (fun _ _ _ q => q) rfl rfl (by decide) (fun σ15183 h15184 g15185 g15186 f15187 => ?_)
          have ga15188 := ga15159.of (g15185 _ (by omega))
          have ga15189 := ga15160.of (g15185 _ (by omega))
          have ga15190 := ga15161.of (g15185 _ (by omega))
          have ga15191 := ga15162.of (g15185 _ (by omega))
          have ga15192 := ga15163.of (g15185 _ (by omega))
          have ga15193 := ga15164.of (g15185 _ (by omega))
          have ga15194 := ga15165.of (g15185 _ (by omega))
          have h15195 : HS V c _ [0, 2, 17, 18, 19, 20, 21, 22, 23] _ _ := ⟨HR.mono (Z' := Z) (by intro e; first | rfl | assumption | omega) h15184.1, h15184.2⟩
          exact m_vret F hQ e_X10_readLine_180 (⟨P15126, oP15126, (by unfold RP; omega), (by rw [eo15135]; show RM _ c n _ (stopS (tok t n) (j1, 0, j3, j4) nl3 nm3 np3 nc3 lc3 no3 sd3 md3 ln3); rw [stopS_1 (by decide)]; exact RM.l ((g15186 23 (by decide)).trans yd15171) ((g15186 24 (by decide)).trans yd15172) (by omega) (by omega) (by omega)), (fun S2 hS _ => by rw [eo15135] at hS; replace hS : stopS (tok t n) (j1, 0, j3, j4) nl3 nm3 np3 nc3 lc3 no3 sd3 md3 ln3 = .inr S2 := hS; rw [stopS_1 (by decide)] at hS; cases hS), h15195, rfl⟩)
        · refine r_getC F e_X10_readLine_154 fl_X10_110 h15125 (yd15152) ?_
          refine m_iconst F (v := 3) (by decide) e_X10_readLine_157 ?_
          refine m_icmp_eq F e_X10_readLine_158 (fun q => absurd q (by decide)) (fun _ => ?_)
          refine m_aload_n F rfl e_X10_readLine_161 ?_
          refine m_iconst F (v := 1) (by decide) e_X10_readLine_162 ?_
          refine r_callV F e_X10_readLine_163 (q_X10_wrongE (x_l X) V c T Z u h P15126 L _ _ 1 n j1 0 (nI j3) ln3 fp3 h15125.1 (hob) oP15126 (by omega) ⟨(yd15149), (yd15150), (yd15151), (yd15152), (yd15153), (yd15154), (yd15155)⟩ (by decide)) cb_X10_wrong ml_X10_150 im_X10_wrong se_X10_wrong h15125 rfl rfl (rest := []) rfl (Nat.le_of_ble_eq_true rfl) ⟨Nat.le_of_ble_eq_true rfl, Nat.le_of_ble_eq_true rfl⟩ ⟨Nat.le_of_ble_eq_true rfl, Nat.le_of_ble_eq_true rfl⟩ (fun r σ15196 hp => ?_)
          obtain ⟨h15197, hp⟩ := hp
          have h15198 := HS.trans h15125 h15197 (by decide)
          have ga15199 := ga15128.of (h15197.2 (c + 1) (by rw [kC_at (k := 1) (by decide)]; decide))
          have ga15200 := hN3.of (h15197.2 (c + 2) (by rw [kC_at (k := 2) (by decide)]; decide))
          have ga15201 := hM3.of (h15197.2 (c + 3) (by rw [kC_at (k := 3) (by decide)]; decide))
          have ga15202 := hK3.of (h15197.2 (c + 7) (by rw [kC_at (k := 7) (by decide)]; decide))
          have ga15203 := hF3.of (h15197.2 (c + 8) (by rw [kC_at (k := 8) (by decide)]; decide))
          have ga15204 := hG3.of (h15197.2 (c + 9) (by rw [kC_at (k := 9) (by decide)]; decide))
          have ga15205 := hQ3.of (h15197.2 (c + 11) (by rw [kC_at (k := 11) (by decide)]; decide))
          obtain ⟨hp, rfl⟩ := hp
          have hyd15206 := hp
          obtain ⟨yd15206, yd15207, yd15208, yd15209, yd15210, yd15211, yd15212⟩ := hyd15206
          refine m_aload_n F rfl e_X10_readLine_166 ?_
          refine r_callV F e_X10_readLine_167 (q_X10_goOnG (x_l X) V c T 0 u h P15126 L _ _  1 h15198.1 (hob) oP15126  (yd15211) (by decide)) cb_X10_goOn ml_X10_154 im_X10_goOn se_X10_goOn h15198 rfl rfl (rest := []) rfl (Nat.le_of_ble_eq_true rfl) ⟨Nat.le_of_ble_eq_true rfl, Nat.le_of_ble_eq_true rfl⟩ ⟨Nat.le_of_ble_eq_true rfl, Nat.le_of_ble_eq_true rfl⟩ (fun r σ15213 hp => ?_)
          obtain ⟨h15214, hp⟩ := hp
          have h15215 := HS.trans h15198 h15214 (by decide)
          have ga15216 := ga15199.of (h15214.2 (c + 1) (by rw [kC_at (k := 1) (by decide)]; decide))
          have ga15217 := ga15200.of (h15214.2 (c + 2) (by rw [kC_at (k := 2) (by decide)]; decide))
          have ga15218 := ga15201.of (h15214.2 (c + 3) (by rw [kC_at (k := 3) (by decide)]; decide))
          have ga15219 := ga15202.of (h15214.2 (c + 7) (by rw [kC_at (k := 7) (by decide)]; decide))
          have ga15220 := ga15203.of (h15214.2 (c + 8) (by rw [kC_at (k := 8) (by decide)]; decide))
          have ga15221 := ga15204.of (h15214.2 (c + 9) (by rw [kC_at (k := 9) (by decide)]; decide))
          have ga15222 := ga15205.of (h15214.2 (c + 11) (by rw [kC_at (k := 11) (by decide)]; decide))
          obtain ⟨rfl, rfl⟩ := hp
          refine m_aload_n F rfl e_X10_readLine_170 ?_
          refine m_dup F rfl e_X10_readLine_171 ?_
          refine r_getC F e_X10_readLine_172 fl_X10_202 h15215 (yd15206) ?_
          refine m_iconst F (v := 1) (by decide) e_X10_readLine_175 ?_
          refine m_iadd F e_X10_readLine_176 ?_
          refine Wm.topE (w := nI (ln3 + 1)) (nI_add ln3 1) ?_
          refine r_put F (g' := (⟨T, 0, u, h, P15126, L⟩ : RG)) e_X10_readLine_177 fp_X10_202 h15215 (by decide) ⟨_, rfl⟩ (fun _ _ _ _ q => q) (fun _ _ _ q => q) rfl rfl (by decide) (fun σ15223 h15224 g15225 g15226 f15227 => ?_)
          have ga15228 := ga15199.of (g15225 _ (by omega))
          have ga15229 := ga15200.of (g15225 _ (by omega))
          have ga15230 := ga15201.of (g15225 _ (by omega))
          have ga15231 := ga15202.of (g15225 _ (by omega))
          have ga15232 := ga15203.of (g15225 _ (by omega))
          have ga15233 := ga15204.of (g15225 _ (by omega))
          have ga15234 := ga15205.of (g15225 _ (by omega))
          have h15235 : HS V c _ [0, 2, 17, 18, 19, 20, 21, 22, 23] _ _ := ⟨HR.mono (Z' := Z) (by intro e; first | rfl | assumption | omega) h15224.1, h15224.2⟩
          exact m_vret F hQ e_X10_readLine_180 (⟨P15126, oP15126, (by unfold RP; omega), (by rw [eo15135]; show RM _ c n _ (stopS (tok t n) (j1, 1, j3, j4) nl3 nm3 np3 nc3 lc3 no3 sd3 md3 ln3); rw [stopS_1 (by decide)]; exact RM.l ((g15226 23 (by decide)).trans yd15211) ((g15226 24 (by decide)).trans yd15212) (by omega) (by omega) (by omega)), (fun S2 hS _ => by rw [eo15135] at hS; replace hS : stopS (tok t n) (j1, 1, j3, j4) nl3 nm3 np3 nc3 lc3 no3 sd3 md3 ln3 = .inr S2 := hS; rw [stopS_1 (by decide)] at hS; cases hS), h15235, rfl⟩)
        · refine r_getC F e_X10_readLine_154 fl_X10_110 h15125 (yd15152) ?_
          refine m_iconst F (v := 3) (by decide) e_X10_readLine_157 ?_
          refine m_icmp_eq F e_X10_readLine_158 (fun q => absurd q (by decide)) (fun _ => ?_)
          refine m_aload_n F rfl e_X10_readLine_161 ?_
          refine m_iconst F (v := 1) (by decide) e_X10_readLine_162 ?_
          refine r_callV F e_X10_readLine_163 (q_X10_wrongE (x_l X) V c T Z u h P15126 L _ _ 1 n j1 1 (nI j3) ln3 fp3 h15125.1 (hob) oP15126 (by omega) ⟨(yd15149), (yd15150), (yd15151), (yd15152), (yd15153), (yd15154), (yd15155)⟩ (by decide)) cb_X10_wrong ml_X10_150 im_X10_wrong se_X10_wrong h15125 rfl rfl (rest := []) rfl (Nat.le_of_ble_eq_true rfl) ⟨Nat.le_of_ble_eq_true rfl, Nat.le_of_ble_eq_true rfl⟩ ⟨Nat.le_of_ble_eq_true rfl, Nat.le_of_ble_eq_true rfl⟩ (fun r σ15236 hp => ?_)
          obtain ⟨h15237, hp⟩ := hp
          have h15238 := HS.trans h15125 h15237 (by decide)
          have ga15239 := ga15128.of (h15237.2 (c + 1) (by rw [kC_at (k := 1) (by decide)]; decide))
          have ga15240 := hN3.of (h15237.2 (c + 2) (by rw [kC_at (k := 2) (by decide)]; decide))
          have ga15241 := hM3.of (h15237.2 (c + 3) (by rw [kC_at (k := 3) (by decide)]; decide))
          have ga15242 := hK3.of (h15237.2 (c + 7) (by rw [kC_at (k := 7) (by decide)]; decide))
          have ga15243 := hF3.of (h15237.2 (c + 8) (by rw [kC_at (k := 8) (by decide)]; decide))
          have ga15244 := hG3.of (h15237.2 (c + 9) (by rw [kC_at (k := 9) (by decide)]; decide))
          have ga15245 := hQ3.of (h15237.2 (c + 11) (by rw [kC_at (k := 11) (by decide)]; decide))
          obtain ⟨hp, rfl⟩ := hp
          have hyd15246 := hp
          obtain ⟨yd15246, yd15247, yd15248, yd15249, yd15250, yd15251, yd15252⟩ := hyd15246
          refine m_aload_n F rfl e_X10_readLine_166 ?_
          refine r_callV F e_X10_readLine_167 (q_X10_goOnG (x_l X) V c T 0 u h P15126 L _ _  1 h15238.1 (hob) oP15126  (yd15251) (by decide)) cb_X10_goOn ml_X10_154 im_X10_goOn se_X10_goOn h15238 rfl rfl (rest := []) rfl (Nat.le_of_ble_eq_true rfl) ⟨Nat.le_of_ble_eq_true rfl, Nat.le_of_ble_eq_true rfl⟩ ⟨Nat.le_of_ble_eq_true rfl, Nat.le_of_ble_eq_true rfl⟩ (fun r σ15253 hp => ?_)
          obtain ⟨h15254, hp⟩ := hp
          have h15255 := HS.trans h15238 h15254 (by decide)
          have ga15256 := ga15239.of (h15254.2 (c + 1) (by rw [kC_at (k := 1) (by decide)]; decide))
          have ga15257 := ga15240.of (h15254.2 (c + 2) (by rw [kC_at (k := 2) (by decide)]; decide))
          have ga15258 := ga15241.of (h15254.2 (c + 3) (by rw [kC_at (k := 3) (by decide)]; decide))
          have ga15259 := ga15242.of (h15254.2 (c + 7) (by rw [kC_at (k := 7) (by decide)]; decide))
          have ga15260 := ga15243.of (h15254.2 (c + 8) (by rw [kC_at (k := 8) (by decide)]; decide))
          have ga15261 := ga15244.of (h15254.2 (c + 9) (by rw [kC_at (k := 9) (by decide)]; decide))
          have ga15262 := ga15245.of (h15254.2 (c + 11) (by rw [kC_at (k := 11) (by decide)]; decide))
          obtain ⟨rfl, rfl⟩ := hp
          refine m_aload_n F rfl e_X10_readLine_170 ?_
          refine m_dup F rfl e_X10_readLine_171 ?_
          refine r_getC F e_X10_readLine_172 fl_X10_202 h15255 (yd15246) ?_
          refine m_iconst F (v := 1) (by decide) e_X10_readLine_175 ?_
          refine m_iadd F e_X10_readLine_176 ?_
          refine Wm.topE (w := nI (ln3 + 1)) (nI_add ln3 1) ?_
          refine r_put F (g' := (⟨T, 0, u, h, P15126, L⟩ : RG)) e_X10_readLine_177 fp_X10_202 h15255 (by decide) ⟨_, rfl⟩ (fun _ _ _ _ q => q) (fun _ _ _ q => q) rfl rfl (by decide) (fun σ15263 h15264 g15265 g15266 f15267 => ?_)
          have ga15268 := ga15239.of (g15265 _ (by omega))
          have ga15269 := ga15240.of (g15265 _ (by omega))
          have ga15270 := ga15241.of (g15265 _ (by omega))
          have ga15271 := ga15242.of (g15265 _ (by omega))
          have ga15272 := ga15243.of (g15265 _ (by omega))
          have ga15273 := ga15244.of (g15265 _ (by omega))
          have ga15274 := ga15245.of (g15265 _ (by omega))
          have h15275 : HS V c _ [0, 2, 17, 18, 19, 20, 21, 22, 23] _ _ := ⟨HR.mono (Z' := Z) (by intro e; first | rfl | assumption | omega) h15264.1, h15264.2⟩
          exact m_vret F hQ e_X10_readLine_180 (⟨P15126, oP15126, (by unfold RP; omega), (by rw [eo15135]; show RM _ c n _ (stopS (tok t n) (j1, 2, j3, j4) nl3 nm3 np3 nc3 lc3 no3 sd3 md3 ln3); rw [stopS_1 (by decide)]; exact RM.l ((g15266 23 (by decide)).trans yd15251) ((g15266 24 (by decide)).trans yd15252) (by omega) (by omega) (by omega)), (fun S2 hS _ => by rw [eo15135] at hS; replace hS : stopS (tok t n) (j1, 2, j3, j4) nl3 nm3 np3 nc3 lc3 no3 sd3 md3 ln3 = .inr S2 := hS; rw [stopS_1 (by decide)] at hS; cases hS), h15275, rfl⟩)
        · refine r_getC F e_X10_readLine_154 fl_X10_110 h15125 (yd15152) ?_
          refine m_iconst F (v := 3) (by decide) e_X10_readLine_157 ?_
          refine m_icmp_eq F e_X10_readLine_158 (fun q => absurd q (by decide)) (fun _ => ?_)
          refine m_aload_n F rfl e_X10_readLine_161 ?_
          refine m_iconst F (v := 1) (by decide) e_X10_readLine_162 ?_
          refine r_callV F e_X10_readLine_163 (q_X10_wrongE (x_l X) V c T Z u h P15126 L _ _ 1 n j1 2 (nI w3) ln3 fp3 h15125.1 (hob) oP15126 (by omega) ⟨(yd15149), (yd15150), (yd15151), (yd15152), (yd15153), (yd15154), (yd15155)⟩ (by decide)) cb_X10_wrong ml_X10_150 im_X10_wrong se_X10_wrong h15125 rfl rfl (rest := []) rfl (Nat.le_of_ble_eq_true rfl) ⟨Nat.le_of_ble_eq_true rfl, Nat.le_of_ble_eq_true rfl⟩ ⟨Nat.le_of_ble_eq_true rfl, Nat.le_of_ble_eq_true rfl⟩ (fun r σ15276 hp => ?_)
          obtain ⟨h15277, hp⟩ := hp
          have h15278 := HS.trans h15125 h15277 (by decide)
          have ga15279 := ga15128.of (h15277.2 (c + 1) (by rw [kC_at (k := 1) (by decide)]; decide))
          have ga15280 := hN3.of (h15277.2 (c + 2) (by rw [kC_at (k := 2) (by decide)]; decide))
          have ga15281 := hM3.of (h15277.2 (c + 3) (by rw [kC_at (k := 3) (by decide)]; decide))
          have ga15282 := hK3.of (h15277.2 (c + 7) (by rw [kC_at (k := 7) (by decide)]; decide))
          have ga15283 := hF3.of (h15277.2 (c + 8) (by rw [kC_at (k := 8) (by decide)]; decide))
          have ga15284 := hG3.of (h15277.2 (c + 9) (by rw [kC_at (k := 9) (by decide)]; decide))
          have ga15285 := hQ3.of (h15277.2 (c + 11) (by rw [kC_at (k := 11) (by decide)]; decide))
          obtain ⟨hp, rfl⟩ := hp
          have hyd15286 := hp
          obtain ⟨yd15286, yd15287, yd15288, yd15289, yd15290, yd15291, yd15292⟩ := hyd15286
          refine m_aload_n F rfl e_X10_readLine_166 ?_
          refine r_callV F e_X10_readLine_167 (q_X10_goOnG (x_l X) V c T 0 u h P15126 L _ _  1 h15278.1 (hob) oP15126  (yd15291) (by decide)) cb_X10_goOn ml_X10_154 im_X10_goOn se_X10_goOn h15278 rfl rfl (rest := []) rfl (Nat.le_of_ble_eq_true rfl) ⟨Nat.le_of_ble_eq_true rfl, Nat.le_of_ble_eq_true rfl⟩ ⟨Nat.le_of_ble_eq_true rfl, Nat.le_of_ble_eq_true rfl⟩ (fun r σ15293 hp => ?_)
          obtain ⟨h15294, hp⟩ := hp
          have h15295 := HS.trans h15278 h15294 (by decide)
          have ga15296 := ga15279.of (h15294.2 (c + 1) (by rw [kC_at (k := 1) (by decide)]; decide))
          have ga15297 := ga15280.of (h15294.2 (c + 2) (by rw [kC_at (k := 2) (by decide)]; decide))
          have ga15298 := ga15281.of (h15294.2 (c + 3) (by rw [kC_at (k := 3) (by decide)]; decide))
          have ga15299 := ga15282.of (h15294.2 (c + 7) (by rw [kC_at (k := 7) (by decide)]; decide))
          have ga15300 := ga15283.of (h15294.2 (c + 8) (by rw [kC_at (k := 8) (by decide)]; decide))
          have ga15301 := ga15284.of (h15294.2 (c + 9) (by rw [kC_at (k := 9) (by decide)]; decide))
          have ga15302 := ga15285.of (h15294.2 (c + 11) (by rw [kC_at (k := 11) (by decide)]; decide))
          obtain ⟨rfl, rfl⟩ := hp
          refine m_aload_n F rfl e_X10_readLine_170 ?_
          refine m_dup F rfl e_X10_readLine_171 ?_
          refine r_getC F e_X10_readLine_172 fl_X10_202 h15295 (yd15286) ?_
          refine m_iconst F (v := 1) (by decide) e_X10_readLine_175 ?_
          refine m_iadd F e_X10_readLine_176 ?_
          refine Wm.topE (w := nI (ln3 + 1)) (nI_add ln3 1) ?_
          refine r_put F (g' := (⟨T, 0, u, h, P15126, L⟩ : RG)) e_X10_readLine_177 fp_X10_202 h15295 (by decide) ⟨_, rfl⟩ (fun _ _ _ _ q => q) (fun _ _ _ q => q) rfl rfl (by decide) (fun σ15303 h15304 g15305 g15306 f15307 => ?_)
          have ga15308 := ga15279.of (g15305 _ (by omega))
          have ga15309 := ga15280.of (g15305 _ (by omega))
          have ga15310 := ga15281.of (g15305 _ (by omega))
          have ga15311 := ga15282.of (g15305 _ (by omega))
          have ga15312 := ga15283.of (g15305 _ (by omega))
          have ga15313 := ga15284.of (g15305 _ (by omega))
          have ga15314 := ga15285.of (g15305 _ (by omega))
          have h15315 : HS V c _ [0, 2, 17, 18, 19, 20, 21, 22, 23] _ _ := ⟨HR.mono (Z' := Z) (by intro e; first | rfl | assumption | omega) h15304.1, h15304.2⟩
          exact m_vret F hQ e_X10_readLine_180 (⟨P15126, oP15126, (by unfold RP; omega), (by rw [eo15135]; show RM _ c n _ (stopS (tok t n) (j1, 3, j3, j4) nl3 nm3 np3 nc3 lc3 no3 sd3 md3 ln3); rw [stopS_1 (by decide)]; exact RM.l ((g15306 23 (by decide)).trans yd15291) ((g15306 24 (by decide)).trans yd15292) (by omega) (by omega) (by omega)), (fun S2 hS _ => by rw [eo15135] at hS; replace hS : stopS (tok t n) (j1, 3, j3, j4) nl3 nm3 np3 nc3 lc3 no3 sd3 md3 ln3 = .inr S2 := hS; rw [stopS_1 (by decide)] at hS; cases hS), h15315, rfl⟩)
        · refine r_getC F e_X10_readLine_154 fl_X10_110 h15125 (yd15152) ?_
          refine m_iconst F (v := 3) (by decide) e_X10_readLine_157 ?_
          refine m_icmp_eq F e_X10_readLine_158 (fun _ => ?_) (fun q => absurd (by decide) q)
          refine m_aload_n F rfl e_X10_readLine_166 ?_
          refine r_callV F e_X10_readLine_167 (q_X10_goOnE (x_l X) V c T Z u h P15126 L _ _  n j1 3 va3 ln3 fp3 t h15125.1 (hob) oP15126  ⟨(yd15149), (yd15150), (yd15151), (yd15152), (yd15153), (yd15154), (yd15155)⟩ ga15128 hn7 (by omega)) cb_X10_goOn ml_X10_154 im_X10_goOn se_X10_goOn h15125 rfl rfl (rest := []) rfl (Nat.le_of_ble_eq_true rfl) ⟨Nat.le_of_ble_eq_true rfl, Nat.le_of_ble_eq_true rfl⟩ ⟨Nat.le_of_ble_eq_true rfl, Nat.le_of_ble_eq_true rfl⟩ (fun r σ15316 hp => ?_)
          obtain ⟨P15319, oP15319, rP15319, pr15320, pr15321, h15317, hp⟩ := hp
          have h15318 := HS.trans h15125 h15317 (by decide)
          have xP15319 := oP15319
          unfold OKP at xP15319
          unfold RA at rP15319
          have ga15322 := ga15128.of (h15317.2 (c + 1) (by rw [kC_at (k := 1) (by decide)]; decide))
          have ga15323 := hN3.of (h15317.2 (c + 2) (by rw [kC_at (k := 2) (by decide)]; decide))
          have ga15324 := hM3.of (h15317.2 (c + 3) (by rw [kC_at (k := 3) (by decide)]; decide))
          have ga15325 := hK3.of (h15317.2 (c + 7) (by rw [kC_at (k := 7) (by decide)]; decide))
          have ga15326 := hF3.of (h15317.2 (c + 8) (by rw [kC_at (k := 8) (by decide)]; decide))
          have ga15327 := hG3.of (h15317.2 (c + 9) (by rw [kC_at (k := 9) (by decide)]; decide))
          have ga15328 := hQ3.of (h15317.2 (c + 11) (by rw [kC_at (k := 11) (by decide)]; decide))
          obtain rfl := hp
          rw [pa3] at pr15320 pr15321
          have b8 := tok_ok (t := t) (n := n) j4 c1
          obtain ⟨so15329, va15330, mt15331, yd15332⟩ := pr15321
          have hyd15333 := yd15332
          obtain ⟨yd15333, yd15334, yd15335, yd15336, yd15337, yd15338, yd15339⟩ := hyd15333
          refine m_aload_n F rfl e_X10_readLine_170 ?_
          refine m_dup F rfl e_X10_readLine_171 ?_
          refine r_getC F e_X10_readLine_172 fl_X10_202 h15318 (yd15333) ?_
          refine m_iconst F (v := 1) (by decide) e_X10_readLine_175 ?_
          refine m_iadd F e_X10_readLine_176 ?_
          refine Wm.topE (w := nI (ln3 + 1)) (nI_add ln3 1) ?_
          refine r_put F (g' := (⟨T, Z, u, h, P15319, L⟩ : RG)) e_X10_readLine_177 fp_X10_202 h15318 (by decide) ⟨_, rfl⟩ (fun _ _ _ _ q => q) (fun _ _ _ q => q) rfl rfl (by decide) (fun σ15340 h15341 g15342 g15343 f15344 => ?_)
          have ga15345 := ga15322.of (g15342 _ (by omega))
          have ga15346 := ga15323.of (g15342 _ (by omega))
          have ga15347 := ga15324.of (g15342 _ (by omega))
          have ga15348 := ga15325.of (g15342 _ (by omega))
          have ga15349 := ga15326.of (g15342 _ (by omega))
          have ga15350 := ga15327.of (g15342 _ (by omega))
          have ga15351 := ga15328.of (g15342 _ (by omega))
          exact m_vret F hQ e_X10_readLine_180 (⟨P15319, oP15319, (by unfold RP; omega), (by rw [eo15135]; show RM _ c n _ (stopS (tok t n) (j1, 4, j3, j4) nl3 nm3 np3 nc3 lc3 no3 sd3 md3 ln3); rw [stopS_ok]; exact RM.r mt15331 ⟨(f15344), ((g15343 18 (by decide)).trans yd15334), ((g15343 20 (by decide)).trans yd15335), ((g15343 21 (by decide)).trans yd15336), ((g15343 22 (by decide)).trans yd15337), ((g15343 23 (by decide)).trans yd15338), ((g15343 24 (by decide)).trans yd15339)⟩ (by omega) (by omega) (by omega) ga15346 ga15347 ga15348 ga15349 ga15350 ga15351 (by omega) (by omega) (by omega) (by omega) (by omega)), (fun S2 hS hz => by rw [eo15135] at hS; replace hS : stopS (tok t n) (j1, 4, j3, j4) nl3 nm3 np3 nc3 lc3 no3 sd3 md3 ln3 = .inr S2 := hS; rw [stopS_ok] at hS; cases hS; replace hz : (tok t n j4).2.1 ≠ 0 := hz; have h8 := b8.2.2.2 hz; omega), h15341, rfl⟩)
        · refine r_getC F e_X10_readLine_154 fl_X10_110 h15125 (yd15152) ?_
          refine m_iconst F (v := 3) (by decide) e_X10_readLine_157 ?_
          refine m_icmp_eq F e_X10_readLine_158 (fun q => absurd q (by decide)) (fun _ => ?_)
          refine m_aload_n F rfl e_X10_readLine_161 ?_
          refine m_iconst F (v := 1) (by decide) e_X10_readLine_162 ?_
          refine r_callV F e_X10_readLine_163 (q_X10_wrongE (x_l X) V c T Z u h P15126 L _ _ 1 n j1 5 va3 ln3 fp3 h15125.1 (hob) oP15126 (by omega) ⟨(yd15149), (yd15150), (yd15151), (yd15152), (yd15153), (yd15154), (yd15155)⟩ (by decide)) cb_X10_wrong ml_X10_150 im_X10_wrong se_X10_wrong h15125 rfl rfl (rest := []) rfl (Nat.le_of_ble_eq_true rfl) ⟨Nat.le_of_ble_eq_true rfl, Nat.le_of_ble_eq_true rfl⟩ ⟨Nat.le_of_ble_eq_true rfl, Nat.le_of_ble_eq_true rfl⟩ (fun r σ15352 hp => ?_)
          obtain ⟨h15353, hp⟩ := hp
          have h15354 := HS.trans h15125 h15353 (by decide)
          have ga15355 := ga15128.of (h15353.2 (c + 1) (by rw [kC_at (k := 1) (by decide)]; decide))
          have ga15356 := hN3.of (h15353.2 (c + 2) (by rw [kC_at (k := 2) (by decide)]; decide))
          have ga15357 := hM3.of (h15353.2 (c + 3) (by rw [kC_at (k := 3) (by decide)]; decide))
          have ga15358 := hK3.of (h15353.2 (c + 7) (by rw [kC_at (k := 7) (by decide)]; decide))
          have ga15359 := hF3.of (h15353.2 (c + 8) (by rw [kC_at (k := 8) (by decide)]; decide))
          have ga15360 := hG3.of (h15353.2 (c + 9) (by rw [kC_at (k := 9) (by decide)]; decide))
          have ga15361 := hQ3.of (h15353.2 (c + 11) (by rw [kC_at (k := 11) (by decide)]; decide))
          obtain ⟨hp, rfl⟩ := hp
          have hyd15362 := hp
          obtain ⟨yd15362, yd15363, yd15364, yd15365, yd15366, yd15367, yd15368⟩ := hyd15362
          refine m_aload_n F rfl e_X10_readLine_166 ?_
          refine r_callV F e_X10_readLine_167 (q_X10_goOnG (x_l X) V c T 0 u h P15126 L _ _  1 h15354.1 (hob) oP15126  (yd15367) (by decide)) cb_X10_goOn ml_X10_154 im_X10_goOn se_X10_goOn h15354 rfl rfl (rest := []) rfl (Nat.le_of_ble_eq_true rfl) ⟨Nat.le_of_ble_eq_true rfl, Nat.le_of_ble_eq_true rfl⟩ ⟨Nat.le_of_ble_eq_true rfl, Nat.le_of_ble_eq_true rfl⟩ (fun r σ15369 hp => ?_)
          obtain ⟨h15370, hp⟩ := hp
          have h15371 := HS.trans h15354 h15370 (by decide)
          have ga15372 := ga15355.of (h15370.2 (c + 1) (by rw [kC_at (k := 1) (by decide)]; decide))
          have ga15373 := ga15356.of (h15370.2 (c + 2) (by rw [kC_at (k := 2) (by decide)]; decide))
          have ga15374 := ga15357.of (h15370.2 (c + 3) (by rw [kC_at (k := 3) (by decide)]; decide))
          have ga15375 := ga15358.of (h15370.2 (c + 7) (by rw [kC_at (k := 7) (by decide)]; decide))
          have ga15376 := ga15359.of (h15370.2 (c + 8) (by rw [kC_at (k := 8) (by decide)]; decide))
          have ga15377 := ga15360.of (h15370.2 (c + 9) (by rw [kC_at (k := 9) (by decide)]; decide))
          have ga15378 := ga15361.of (h15370.2 (c + 11) (by rw [kC_at (k := 11) (by decide)]; decide))
          obtain ⟨rfl, rfl⟩ := hp
          refine m_aload_n F rfl e_X10_readLine_170 ?_
          refine m_dup F rfl e_X10_readLine_171 ?_
          refine r_getC F e_X10_readLine_172 fl_X10_202 h15371 (yd15362) ?_
          refine m_iconst F (v := 1) (by decide) e_X10_readLine_175 ?_
          refine m_iadd F e_X10_readLine_176 ?_
          refine Wm.topE (w := nI (ln3 + 1)) (nI_add ln3 1) ?_
          refine r_put F (g' := (⟨T, 0, u, h, P15126, L⟩ : RG)) e_X10_readLine_177 fp_X10_202 h15371 (by decide) ⟨_, rfl⟩ (fun _ _ _ _ q => q) (fun _ _ _ q => q) rfl rfl (by decide) (fun σ15379 h15380 g15381 g15382 f15383 => ?_)
          have ga15384 := ga15355.of (g15381 _ (by omega))
          have ga15385 := ga15356.of (g15381 _ (by omega))
          have ga15386 := ga15357.of (g15381 _ (by omega))
          have ga15387 := ga15358.of (g15381 _ (by omega))
          have ga15388 := ga15359.of (g15381 _ (by omega))
          have ga15389 := ga15360.of (g15381 _ (by omega))
          have ga15390 := ga15361.of (g15381 _ (by omega))
          have h15391 : HS V c _ [0, 2, 17, 18, 19, 20, 21, 22, 23] _ _ := ⟨HR.mono (Z' := Z) (by intro e; first | rfl | assumption | omega) h15380.1, h15380.2⟩
          exact m_vret F hQ e_X10_readLine_180 (⟨P15126, oP15126, (by unfold RP; omega), (by rw [eo15135]; show RM _ c n _ (stopS (tok t n) (j1, 5, j3, j4) nl3 nm3 np3 nc3 lc3 no3 sd3 md3 ln3); rw [stopS_1 (by decide)]; exact RM.l ((g15382 23 (by decide)).trans yd15367) ((g15382 24 (by decide)).trans yd15368) (by omega) (by omega) (by omega)), (fun S2 hS _ => by rw [eo15135] at hS; replace hS : stopS (tok t n) (j1, 5, j3, j4) nl3 nm3 np3 nc3 lc3 no3 sd3 md3 ln3 = .inr S2 := hS; rw [stopS_1 (by decide)] at hS; cases hS), h15391, rfl⟩)
    · refine r_getC F e_X10_readLine_1 fl_X10_110 h1 (yd14007) ?_
      refine m_if_eq F e_X10_readLine_4 (fun _ => ?_) (fun q => absurd (by decide) q)
      refine m_aload_n F rfl e_X10_readLine_15 ?_
      refine r_getC F e_X10_readLine_16 fl_X10_120 h1 (yd14008) ?_
      refine m_if_ne F e_X10_readLine_19 (fun _ => ?_) (fun q => absurd q (by decide))
      refine m_aload_n F rfl e_X10_readLine_29 ?_
      refine r_getC F e_X10_readLine_30 fl_X10_120 h1 (yd14008) ?_
      refine m_iconst F (v := 1) (by decide) e_X10_readLine_33 ?_
      refine m_icmp_ne F e_X10_readLine_34 (fun _ => ?_) (fun q => absurd q (by decide))
      refine m_aload_n F rfl e_X10_readLine_44 ?_
      refine r_getC F e_X10_readLine_45 fl_X10_120 h1 (yd14008) ?_
      refine m_iconst F (v := 2) (by decide) e_X10_readLine_48 ?_
      refine m_icmp_eq F e_X10_readLine_49 (fun q => absurd q (by decide)) (fun _ => ?_)
      refine m_aload_n F rfl e_X10_readLine_52 ?_
      refine r_getC F e_X10_readLine_53 fl_X10_120 h1 (yd14008) ?_
      refine m_iconst F (v := 5) (by decide) e_X10_readLine_56 ?_
      refine m_icmp_ne F e_X10_readLine_57 (fun q => absurd (by decide) q) (fun _ => ?_)
      refine m_aload_n F rfl e_X10_readLine_60 ?_
      refine m_aload_n F rfl e_X10_readLine_61 ?_
      refine r_getC F e_X10_readLine_62 fl_X10_120 h1 (yd14008) ?_
      refine m_iconst F (v := 2) (by decide) e_X10_readLine_65 ?_
      refine m_icmp_ne F e_X10_readLine_66 (fun _ => ?_) (fun q => absurd q (by decide))
      refine m_iconst F (v := 2) (by decide) e_X10_readLine_73 ?_
      refine r_callV F e_X10_readLine_74 (q_X10_readMark2E (x_l X) V c T Z u h P L _ _  n st 0 5 ln fp t 1 5 nm np lc no sd md h1.1 (hob) hP  ⟨(yd14004), (yd14005), (yd14006), (yd14007), (yd14008), (yd14009), (yd14010)⟩ hp1 hn7 (by omega) hp4 hp5 hp6 hp7 hp8 hp9 hp10 hp11 hp12 hp13 hp14) cb_X10_readMark ml_X10_184 im_X10_readMark se_X10_readMark h1 rfl rfl (rest := []) rfl (Nat.le_of_ble_eq_true rfl) ⟨Nat.le_of_ble_eq_true rfl, Nat.le_of_ble_eq_true rfl⟩ ⟨Nat.le_of_ble_eq_true rfl, Nat.le_of_ble_eq_true rfl⟩ (fun r σ15392 hp => ?_)
      obtain ⟨P15395, oP15395, rP15395, pr15396, h15393, hp⟩ := hp
      have h15394 := HS.trans h1 h15393 (by decide)
      have xP15395 := oP15395
      unfold OKP at xP15395
      unfold RP at rP15395
      have ga15397 := hp1.of (h15393.2 (c + 1) (by rw [kC_at (k := 1) (by decide)]; decide))
      have ga15398 := hp6.of (h15393.2 (c + 2) (by rw [kC_at (k := 2) (by decide)]; decide))
      have ga15399 := hp7.of (h15393.2 (c + 3) (by rw [kC_at (k := 3) (by decide)]; decide))
      have ga15400 := hp9.of (h15393.2 (c + 8) (by rw [kC_at (k := 8) (by decide)]; decide))
      have ga15401 := hp10.of (h15393.2 (c + 9) (by rw [kC_at (k := 9) (by decide)]; decide))
      have ga15402 := hp11.of (h15393.2 (c + 11) (by rw [kC_at (k := 11) (by decide)]; decide))
      obtain rfl := hp
      have rm15403 : RM σ15392 c n P15395 (lineS (tok t n) (st, 1, 5, P.a) P.n5 nm np P.n7 lc no sd md ln) := by rw [lineS_5]; exact pr15396
      cases eo15404 : lineS (tok t n) (st, 1, 5, P.a) P.n5 nm np P.n7 lc no sd md ln with
      | inl e8 =>
        rw [eo15404] at rm15403
        obtain ⟨⟨fa15405, fb15406⟩, c1, c2, c3⟩ := rm15403
        have nz8 : nI e8.1 ≠ 0 := fun e => absurd (nI_inj9 (b := 0) (by omega) (by omega) e) (by omega)
        refine m_goto F e_X10_readLine_77 ?_
        refine m_aload_n F rfl e_X10_readLine_146 ?_
        refine r_getC F e_X10_readLine_147 fl_X10_141 h15394 (fa15405) ?_
        refine m_if_ne F e_X10_readLine_150 (fun q150 => ?_) (fun q150 => ?_)
        · have c150 : e8.1 ≠ 0 := by have hh := mt (nI_eq (a := e8.1) (b := 0) (by omega) (by omega)).mpr q150; omega
          refine m_aload_n F rfl e_X10_readLine_166 ?_
          refine r_callV F e_X10_readLine_167 (q_X10_goOnG (x_l X) V c T Z u h P15395 L _ _  (nI e8.1) h15394.1 (hob) oP15395  (fa15405) (by assumption)) cb_X10_goOn ml_X10_154 im_X10_goOn se_X10_goOn h15394 rfl rfl (rest := []) rfl (Nat.le_of_ble_eq_true rfl) ⟨Nat.le_of_ble_eq_true rfl, Nat.le_of_ble_eq_true rfl⟩ ⟨Nat.le_of_ble_eq_true rfl, Nat.le_of_ble_eq_true rfl⟩ (fun r σ15407 hp => ?_)
          obtain ⟨h15408, hp⟩ := hp
          have h15409 := HS.trans h15394 h15408 (by decide)
          obtain ⟨rfl, rfl⟩ := hp
          refine m_aload_n F rfl e_X10_readLine_170 ?_
          refine m_dup F rfl e_X10_readLine_171 ?_
          refine r_get F e_X10_readLine_172 fl_X10_202 h15409 rfl (fun v hv f15410 => ?_)
          obtain ⟨x15411, rfl⟩ := hv
          refine m_iconst F (v := 1) (by decide) e_X10_readLine_175 ?_
          refine m_iadd F e_X10_readLine_176 ?_
          refine Wm.top (fun x15412 _ => ?_)
          refine r_put F (g' := (⟨T, Z, u, h, P15395, L⟩ : RG)) e_X10_readLine_177 fp_X10_202 h15409 (by decide) ⟨_, rfl⟩ (fun _ _ _ _ q => q) (fun _ _ _ q => q) rfl rfl (by decide) (fun σ15413 h15414 g15415 g15416 f15417 => ?_)
          exact m_vret F hQ e_X10_readLine_180 (⟨P15395, oP15395, (by unfold RP; omega), (by rw [eo15404]; show RM _ c n _ (.inl e8); exact RM.l ((g15416 23 (by decide)).trans fa15405) ((g15416 24 (by decide)).trans fb15406) (by omega) (by omega) (by omega)), (fun S2 hS _ => by rw [eo15404] at hS; cases hS), h15414, rfl⟩)
        · have c150 : e8.1 = 0 := (nI_eq (a := e8.1) (b := 0) (by omega) (by omega)).mp q150
          exact absurd q150 nz8
      | inr S1 =>
        rw [eo15404] at rm15403
        obtain ⟨⟨j1, j2, j3, j4⟩, nl3, nm3, np3, nc3, lc3, no3, sd3, md3, ln3⟩ := S1
        obtain ⟨so3, va3, fp3, mt3, yd3, ⟨pa3, p53, p73⟩, hN3, hM3, hK3, hF3, hG3, hQ3, c1, c2, c3, c4, c5⟩ := rm15403
        replace pa3 : _ = j4 := pa3
        replace c1 : j4 ≤ n := c1
        replace c2 : j1 ≤ n := c2
        have hyd15418 := yd3
        obtain ⟨yd15418, yd15419, yd15420, yd15421, yd15422, yd15423, yd15424⟩ := hyd15418
        refine m_goto F e_X10_readLine_77 ?_
        refine m_aload_n F rfl e_X10_readLine_146 ?_
        refine r_getC F e_X10_readLine_147 fl_X10_141 h15394 (yd15423) ?_
        refine m_if_ne F e_X10_readLine_150 (fun q => absurd (by decide) q) (fun _ => ?_)
        refine m_aload_n F rfl e_X10_readLine_153 ?_
        have hmt := mt3
        rcases hmt with ⟨rfl, rfl⟩ | ⟨rfl, rfl, rfl, hv3⟩ | ⟨rfl, rfl, rfl, hv3⟩ | ⟨rfl, rfl, w3, hw3, rfl, hm3⟩ | ⟨rfl, rfl⟩ | ⟨rfl, rfl⟩
        · refine r_getC F e_X10_readLine_154 fl_X10_110 h15394 (yd15421) ?_
          refine m_iconst F (v := 3) (by decide) e_X10_readLine_157 ?_
          refine m_icmp_eq F e_X10_readLine_158 (fun q => absurd q (by decide)) (fun _ => ?_)
          refine m_aload_n F rfl e_X10_readLine_161 ?_
          refine m_iconst F (v := 1) (by decide) e_X10_readLine_162 ?_
          refine r_callV F e_X10_readLine_163 (q_X10_wrongE (x_l X) V c T Z u h P15395 L _ _ 1 n j1 4 va3 ln3 fp3 h15394.1 (hob) oP15395 (by omega) ⟨(yd15418), (yd15419), (yd15420), (yd15421), (yd15422), (yd15423), (yd15424)⟩ (by decide)) cb_X10_wrong ml_X10_150 im_X10_wrong se_X10_wrong h15394 rfl rfl (rest := []) rfl (Nat.le_of_ble_eq_true rfl) ⟨Nat.le_of_ble_eq_true rfl, Nat.le_of_ble_eq_true rfl⟩ ⟨Nat.le_of_ble_eq_true rfl, Nat.le_of_ble_eq_true rfl⟩ (fun r σ15425 hp => ?_)
          obtain ⟨h15426, hp⟩ := hp
          have h15427 := HS.trans h15394 h15426 (by decide)
          have ga15428 := ga15397.of (h15426.2 (c + 1) (by rw [kC_at (k := 1) (by decide)]; decide))
          have ga15429 := hN3.of (h15426.2 (c + 2) (by rw [kC_at (k := 2) (by decide)]; decide))
          have ga15430 := hM3.of (h15426.2 (c + 3) (by rw [kC_at (k := 3) (by decide)]; decide))
          have ga15431 := hK3.of (h15426.2 (c + 7) (by rw [kC_at (k := 7) (by decide)]; decide))
          have ga15432 := hF3.of (h15426.2 (c + 8) (by rw [kC_at (k := 8) (by decide)]; decide))
          have ga15433 := hG3.of (h15426.2 (c + 9) (by rw [kC_at (k := 9) (by decide)]; decide))
          have ga15434 := hQ3.of (h15426.2 (c + 11) (by rw [kC_at (k := 11) (by decide)]; decide))
          obtain ⟨hp, rfl⟩ := hp
          have hyd15435 := hp
          obtain ⟨yd15435, yd15436, yd15437, yd15438, yd15439, yd15440, yd15441⟩ := hyd15435
          refine m_aload_n F rfl e_X10_readLine_166 ?_
          refine r_callV F e_X10_readLine_167 (q_X10_goOnG (x_l X) V c T 0 u h P15395 L _ _  1 h15427.1 (hob) oP15395  (yd15440) (by decide)) cb_X10_goOn ml_X10_154 im_X10_goOn se_X10_goOn h15427 rfl rfl (rest := []) rfl (Nat.le_of_ble_eq_true rfl) ⟨Nat.le_of_ble_eq_true rfl, Nat.le_of_ble_eq_true rfl⟩ ⟨Nat.le_of_ble_eq_true rfl, Nat.le_of_ble_eq_true rfl⟩ (fun r σ15442 hp => ?_)
          obtain ⟨h15443, hp⟩ := hp
          have h15444 := HS.trans h15427 h15443 (by decide)
          have ga15445 := ga15428.of (h15443.2 (c + 1) (by rw [kC_at (k := 1) (by decide)]; decide))
          have ga15446 := ga15429.of (h15443.2 (c + 2) (by rw [kC_at (k := 2) (by decide)]; decide))
          have ga15447 := ga15430.of (h15443.2 (c + 3) (by rw [kC_at (k := 3) (by decide)]; decide))
          have ga15448 := ga15431.of (h15443.2 (c + 7) (by rw [kC_at (k := 7) (by decide)]; decide))
          have ga15449 := ga15432.of (h15443.2 (c + 8) (by rw [kC_at (k := 8) (by decide)]; decide))
          have ga15450 := ga15433.of (h15443.2 (c + 9) (by rw [kC_at (k := 9) (by decide)]; decide))
          have ga15451 := ga15434.of (h15443.2 (c + 11) (by rw [kC_at (k := 11) (by decide)]; decide))
          obtain ⟨rfl, rfl⟩ := hp
          refine m_aload_n F rfl e_X10_readLine_170 ?_
          refine m_dup F rfl e_X10_readLine_171 ?_
          refine r_getC F e_X10_readLine_172 fl_X10_202 h15444 (yd15435) ?_
          refine m_iconst F (v := 1) (by decide) e_X10_readLine_175 ?_
          refine m_iadd F e_X10_readLine_176 ?_
          refine Wm.topE (w := nI (ln3 + 1)) (nI_add ln3 1) ?_
          refine r_put F (g' := (⟨T, 0, u, h, P15395, L⟩ : RG)) e_X10_readLine_177 fp_X10_202 h15444 (by decide) ⟨_, rfl⟩ (fun _ _ _ _ q => q) (fun _ _ _ q => q) rfl rfl (by decide) (fun σ15452 h15453 g15454 g15455 f15456 => ?_)
          have ga15457 := ga15428.of (g15454 _ (by omega))
          have ga15458 := ga15429.of (g15454 _ (by omega))
          have ga15459 := ga15430.of (g15454 _ (by omega))
          have ga15460 := ga15431.of (g15454 _ (by omega))
          have ga15461 := ga15432.of (g15454 _ (by omega))
          have ga15462 := ga15433.of (g15454 _ (by omega))
          have ga15463 := ga15434.of (g15454 _ (by omega))
          have h15464 : HS V c _ [0, 2, 17, 18, 19, 20, 21, 22, 23] _ _ := ⟨HR.mono (Z' := Z) (by intro e; first | rfl | assumption | omega) h15453.1, h15453.2⟩
          exact m_vret F hQ e_X10_readLine_180 (⟨P15395, oP15395, (by unfold RP; omega), (by rw [eo15404]; show RM _ c n _ (stopS (tok t n) (j1, 0, j3, j4) nl3 nm3 np3 nc3 lc3 no3 sd3 md3 ln3); rw [stopS_1 (by decide)]; exact RM.l ((g15455 23 (by decide)).trans yd15440) ((g15455 24 (by decide)).trans yd15441) (by omega) (by omega) (by omega)), (fun S2 hS _ => by rw [eo15404] at hS; replace hS : stopS (tok t n) (j1, 0, j3, j4) nl3 nm3 np3 nc3 lc3 no3 sd3 md3 ln3 = .inr S2 := hS; rw [stopS_1 (by decide)] at hS; cases hS), h15464, rfl⟩)
        · refine r_getC F e_X10_readLine_154 fl_X10_110 h15394 (yd15421) ?_
          refine m_iconst F (v := 3) (by decide) e_X10_readLine_157 ?_
          refine m_icmp_eq F e_X10_readLine_158 (fun q => absurd q (by decide)) (fun _ => ?_)
          refine m_aload_n F rfl e_X10_readLine_161 ?_
          refine m_iconst F (v := 1) (by decide) e_X10_readLine_162 ?_
          refine r_callV F e_X10_readLine_163 (q_X10_wrongE (x_l X) V c T Z u h P15395 L _ _ 1 n j1 0 (nI j3) ln3 fp3 h15394.1 (hob) oP15395 (by omega) ⟨(yd15418), (yd15419), (yd15420), (yd15421), (yd15422), (yd15423), (yd15424)⟩ (by decide)) cb_X10_wrong ml_X10_150 im_X10_wrong se_X10_wrong h15394 rfl rfl (rest := []) rfl (Nat.le_of_ble_eq_true rfl) ⟨Nat.le_of_ble_eq_true rfl, Nat.le_of_ble_eq_true rfl⟩ ⟨Nat.le_of_ble_eq_true rfl, Nat.le_of_ble_eq_true rfl⟩ (fun r σ15465 hp => ?_)
          obtain ⟨h15466, hp⟩ := hp
          have h15467 := HS.trans h15394 h15466 (by decide)
          have ga15468 := ga15397.of (h15466.2 (c + 1) (by rw [kC_at (k := 1) (by decide)]; decide))
          have ga15469 := hN3.of (h15466.2 (c + 2) (by rw [kC_at (k := 2) (by decide)]; decide))
          have ga15470 := hM3.of (h15466.2 (c + 3) (by rw [kC_at (k := 3) (by decide)]; decide))
          have ga15471 := hK3.of (h15466.2 (c + 7) (by rw [kC_at (k := 7) (by decide)]; decide))
          have ga15472 := hF3.of (h15466.2 (c + 8) (by rw [kC_at (k := 8) (by decide)]; decide))
          have ga15473 := hG3.of (h15466.2 (c + 9) (by rw [kC_at (k := 9) (by decide)]; decide))
          have ga15474 := hQ3.of (h15466.2 (c + 11) (by rw [kC_at (k := 11) (by decide)]; decide))
          obtain ⟨hp, rfl⟩ := hp
          have hyd15475 := hp
          obtain ⟨yd15475, yd15476, yd15477, yd15478, yd15479, yd15480, yd15481⟩ := hyd15475
          refine m_aload_n F rfl e_X10_readLine_166 ?_
          refine r_callV F e_X10_readLine_167 (q_X10_goOnG (x_l X) V c T 0 u h P15395 L _ _  1 h15467.1 (hob) oP15395  (yd15480) (by decide)) cb_X10_goOn ml_X10_154 im_X10_goOn se_X10_goOn h15467 rfl rfl (rest := []) rfl (Nat.le_of_ble_eq_true rfl) ⟨Nat.le_of_ble_eq_true rfl, Nat.le_of_ble_eq_true rfl⟩ ⟨Nat.le_of_ble_eq_true rfl, Nat.le_of_ble_eq_true rfl⟩ (fun r σ15482 hp => ?_)
          obtain ⟨h15483, hp⟩ := hp
          have h15484 := HS.trans h15467 h15483 (by decide)
          have ga15485 := ga15468.of (h15483.2 (c + 1) (by rw [kC_at (k := 1) (by decide)]; decide))
          have ga15486 := ga15469.of (h15483.2 (c + 2) (by rw [kC_at (k := 2) (by decide)]; decide))
          have ga15487 := ga15470.of (h15483.2 (c + 3) (by rw [kC_at (k := 3) (by decide)]; decide))
          have ga15488 := ga15471.of (h15483.2 (c + 7) (by rw [kC_at (k := 7) (by decide)]; decide))
          have ga15489 := ga15472.of (h15483.2 (c + 8) (by rw [kC_at (k := 8) (by decide)]; decide))
          have ga15490 := ga15473.of (h15483.2 (c + 9) (by rw [kC_at (k := 9) (by decide)]; decide))
          have ga15491 := ga15474.of (h15483.2 (c + 11) (by rw [kC_at (k := 11) (by decide)]; decide))
          obtain ⟨rfl, rfl⟩ := hp
          refine m_aload_n F rfl e_X10_readLine_170 ?_
          refine m_dup F rfl e_X10_readLine_171 ?_
          refine r_getC F e_X10_readLine_172 fl_X10_202 h15484 (yd15475) ?_
          refine m_iconst F (v := 1) (by decide) e_X10_readLine_175 ?_
          refine m_iadd F e_X10_readLine_176 ?_
          refine Wm.topE (w := nI (ln3 + 1)) (nI_add ln3 1) ?_
          refine r_put F (g' := (⟨T, 0, u, h, P15395, L⟩ : RG)) e_X10_readLine_177 fp_X10_202 h15484 (by decide) ⟨_, rfl⟩ (fun _ _ _ _ q => q) (fun _ _ _ q => q) rfl rfl (by decide) (fun σ15492 h15493 g15494 g15495 f15496 => ?_)
          have ga15497 := ga15468.of (g15494 _ (by omega))
          have ga15498 := ga15469.of (g15494 _ (by omega))
          have ga15499 := ga15470.of (g15494 _ (by omega))
          have ga15500 := ga15471.of (g15494 _ (by omega))
          have ga15501 := ga15472.of (g15494 _ (by omega))
          have ga15502 := ga15473.of (g15494 _ (by omega))
          have ga15503 := ga15474.of (g15494 _ (by omega))
          have h15504 : HS V c _ [0, 2, 17, 18, 19, 20, 21, 22, 23] _ _ := ⟨HR.mono (Z' := Z) (by intro e; first | rfl | assumption | omega) h15493.1, h15493.2⟩
          exact m_vret F hQ e_X10_readLine_180 (⟨P15395, oP15395, (by unfold RP; omega), (by rw [eo15404]; show RM _ c n _ (stopS (tok t n) (j1, 1, j3, j4) nl3 nm3 np3 nc3 lc3 no3 sd3 md3 ln3); rw [stopS_1 (by decide)]; exact RM.l ((g15495 23 (by decide)).trans yd15480) ((g15495 24 (by decide)).trans yd15481) (by omega) (by omega) (by omega)), (fun S2 hS _ => by rw [eo15404] at hS; replace hS : stopS (tok t n) (j1, 1, j3, j4) nl3 nm3 np3 nc3 lc3 no3 sd3 md3 ln3 = .inr S2 := hS; rw [stopS_1 (by decide)] at hS; cases hS), h15504, rfl⟩)
        · refine r_getC F e_X10_readLine_154 fl_X10_110 h15394 (yd15421) ?_
          refine m_iconst F (v := 3) (by decide) e_X10_readLine_157 ?_
          refine m_icmp_eq F e_X10_readLine_158 (fun q => absurd q (by decide)) (fun _ => ?_)
          refine m_aload_n F rfl e_X10_readLine_161 ?_
          refine m_iconst F (v := 1) (by decide) e_X10_readLine_162 ?_
          refine r_callV F e_X10_readLine_163 (q_X10_wrongE (x_l X) V c T Z u h P15395 L _ _ 1 n j1 1 (nI j3) ln3 fp3 h15394.1 (hob) oP15395 (by omega) ⟨(yd15418), (yd15419), (yd15420), (yd15421), (yd15422), (yd15423), (yd15424)⟩ (by decide)) cb_X10_wrong ml_X10_150 im_X10_wrong se_X10_wrong h15394 rfl rfl (rest := []) rfl (Nat.le_of_ble_eq_true rfl) ⟨Nat.le_of_ble_eq_true rfl, Nat.le_of_ble_eq_true rfl⟩ ⟨Nat.le_of_ble_eq_true rfl, Nat.le_of_ble_eq_true rfl⟩ (fun r σ15505 hp => ?_)
          obtain ⟨h15506, hp⟩ := hp
          have h15507 := HS.trans h15394 h15506 (by decide)
          have ga15508 := ga15397.of (h15506.2 (c + 1) (by rw [kC_at (k := 1) (by decide)]; decide))
          have ga15509 := hN3.of (h15506.2 (c + 2) (by rw [kC_at (k := 2) (by decide)]; decide))
          have ga15510 := hM3.of (h15506.2 (c + 3) (by rw [kC_at (k := 3) (by decide)]; decide))
          have ga15511 := hK3.of (h15506.2 (c + 7) (by rw [kC_at (k := 7) (by decide)]; decide))
          have ga15512 := hF3.of (h15506.2 (c + 8) (by rw [kC_at (k := 8) (by decide)]; decide))
          have ga15513 := hG3.of (h15506.2 (c + 9) (by rw [kC_at (k := 9) (by decide)]; decide))
          have ga15514 := hQ3.of (h15506.2 (c + 11) (by rw [kC_at (k := 11) (by decide)]; decide))
          obtain ⟨hp, rfl⟩ := hp
          have hyd15515 := hp
          obtain ⟨yd15515, yd15516, yd15517, yd15518, yd15519, yd15520, yd15521⟩ := hyd15515
          refine m_aload_n F rfl e_X10_readLine_166 ?_
          refine r_callV F e_X10_readLine_167 (q_X10_goOnG (x_l X) V c T 0 u h P15395 L _ _  1 h15507.1 (hob) oP15395  (yd15520) (by decide)) cb_X10_goOn ml_X10_154 im_X10_goOn se_X10_goOn h15507 rfl rfl (rest := []) rfl (Nat.le_of_ble_eq_true rfl) ⟨Nat.le_of_ble_eq_true rfl, Nat.le_of_ble_eq_true rfl⟩ ⟨Nat.le_of_ble_eq_true rfl, Nat.le_of_ble_eq_true rfl⟩ (fun r σ15522 hp => ?_)
          obtain ⟨h15523, hp⟩ := hp
          have h15524 := HS.trans h15507 h15523 (by decide)
          have ga15525 := ga15508.of (h15523.2 (c + 1) (by rw [kC_at (k := 1) (by decide)]; decide))
          have ga15526 := ga15509.of (h15523.2 (c + 2) (by rw [kC_at (k := 2) (by decide)]; decide))
          have ga15527 := ga15510.of (h15523.2 (c + 3) (by rw [kC_at (k := 3) (by decide)]; decide))
          have ga15528 := ga15511.of (h15523.2 (c + 7) (by rw [kC_at (k := 7) (by decide)]; decide))
          have ga15529 := ga15512.of (h15523.2 (c + 8) (by rw [kC_at (k := 8) (by decide)]; decide))
          have ga15530 := ga15513.of (h15523.2 (c + 9) (by rw [kC_at (k := 9) (by decide)]; decide))
          have ga15531 := ga15514.of (h15523.2 (c + 11) (by rw [kC_at (k := 11) (by decide)]; decide))
          obtain ⟨rfl, rfl⟩ := hp
          refine m_aload_n F rfl e_X10_readLine_170 ?_
          refine m_dup F rfl e_X10_readLine_171 ?_
          refine r_getC F e_X10_readLine_172 fl_X10_202 h15524 (yd15515) ?_
          refine m_iconst F (v := 1) (by decide) e_X10_readLine_175 ?_
          refine m_iadd F e_X10_readLine_176 ?_
          refine Wm.topE (w := nI (ln3 + 1)) (nI_add ln3 1) ?_
          refine r_put F (g' := (⟨T, 0, u, h, P15395, L⟩ : RG)) e_X10_readLine_177 fp_X10_202 h15524 (by decide) ⟨_, rfl⟩ (fun _ _ _ _ q => q) (fun _ _ _ q => q) rfl rfl (by decide) (fun σ15532 h15533 g15534 g15535 f15536 => ?_)
          have ga15537 := ga15508.of (g15534 _ (by omega))
          have ga15538 := ga15509.of (g15534 _ (by omega))
          have ga15539 := ga15510.of (g15534 _ (by omega))
          have ga15540 := ga15511.of (g15534 _ (by omega))
          have ga15541 := ga15512.of (g15534 _ (by omega))
          have ga15542 := ga15513.of (g15534 _ (by omega))
          have ga15543 := ga15514.of (g15534 _ (by omega))
          have h15544 : HS V c _ [0, 2, 17, 18, 19, 20, 21, 22, 23] _ _ := ⟨HR.mono (Z' := Z) (by intro e; first | rfl | assumption | omega) h15533.1, h15533.2⟩
          exact m_vret F hQ e_X10_readLine_180 (⟨P15395, oP15395, (by unfold RP; omega), (by rw [eo15404]; show RM _ c n _ (stopS (tok t n) (j1, 2, j3, j4) nl3 nm3 np3 nc3 lc3 no3 sd3 md3 ln3); rw [stopS_1 (by decide)]; exact RM.l ((g15535 23 (by decide)).trans yd15520) ((g15535 24 (by decide)).trans yd15521) (by omega) (by omega) (by omega)), (fun S2 hS _ => by rw [eo15404] at hS; replace hS : stopS (tok t n) (j1, 2, j3, j4) nl3 nm3 np3 nc3 lc3 no3 sd3 md3 ln3 = .inr S2 := hS; rw [stopS_1 (by decide)] at hS; cases hS), h15544, rfl⟩)
        · refine r_getC F e_X10_readLine_154 fl_X10_110 h15394 (yd15421) ?_
          refine m_iconst F (v := 3) (by decide) e_X10_readLine_157 ?_
          refine m_icmp_eq F e_X10_readLine_158 (fun q => absurd q (by decide)) (fun _ => ?_)
          refine m_aload_n F rfl e_X10_readLine_161 ?_
          refine m_iconst F (v := 1) (by decide) e_X10_readLine_162 ?_
          refine r_callV F e_X10_readLine_163 (q_X10_wrongE (x_l X) V c T Z u h P15395 L _ _ 1 n j1 2 (nI w3) ln3 fp3 h15394.1 (hob) oP15395 (by omega) ⟨(yd15418), (yd15419), (yd15420), (yd15421), (yd15422), (yd15423), (yd15424)⟩ (by decide)) cb_X10_wrong ml_X10_150 im_X10_wrong se_X10_wrong h15394 rfl rfl (rest := []) rfl (Nat.le_of_ble_eq_true rfl) ⟨Nat.le_of_ble_eq_true rfl, Nat.le_of_ble_eq_true rfl⟩ ⟨Nat.le_of_ble_eq_true rfl, Nat.le_of_ble_eq_true rfl⟩ (fun r σ15545 hp => ?_)
          obtain ⟨h15546, hp⟩ := hp
          have h15547 := HS.trans h15394 h15546 (by decide)
          have ga15548 := ga15397.of (h15546.2 (c + 1) (by rw [kC_at (k := 1) (by decide)]; decide))
          have ga15549 := hN3.of (h15546.2 (c + 2) (by rw [kC_at (k := 2) (by decide)]; decide))
          have ga15550 := hM3.of (h15546.2 (c + 3) (by rw [kC_at (k := 3) (by decide)]; decide))
          have ga15551 := hK3.of (h15546.2 (c + 7) (by rw [kC_at (k := 7) (by decide)]; decide))
          have ga15552 := hF3.of (h15546.2 (c + 8) (by rw [kC_at (k := 8) (by decide)]; decide))
          have ga15553 := hG3.of (h15546.2 (c + 9) (by rw [kC_at (k := 9) (by decide)]; decide))
          have ga15554 := hQ3.of (h15546.2 (c + 11) (by rw [kC_at (k := 11) (by decide)]; decide))
          obtain ⟨hp, rfl⟩ := hp
          have hyd15555 := hp
          obtain ⟨yd15555, yd15556, yd15557, yd15558, yd15559, yd15560, yd15561⟩ := hyd15555
          refine m_aload_n F rfl e_X10_readLine_166 ?_
          refine r_callV F e_X10_readLine_167 (q_X10_goOnG (x_l X) V c T 0 u h P15395 L _ _  1 h15547.1 (hob) oP15395  (yd15560) (by decide)) cb_X10_goOn ml_X10_154 im_X10_goOn se_X10_goOn h15547 rfl rfl (rest := []) rfl (Nat.le_of_ble_eq_true rfl) ⟨Nat.le_of_ble_eq_true rfl, Nat.le_of_ble_eq_true rfl⟩ ⟨Nat.le_of_ble_eq_true rfl, Nat.le_of_ble_eq_true rfl⟩ (fun r σ15562 hp => ?_)
          obtain ⟨h15563, hp⟩ := hp
          have h15564 := HS.trans h15547 h15563 (by decide)
          have ga15565 := ga15548.of (h15563.2 (c + 1) (by rw [kC_at (k := 1) (by decide)]; decide))
          have ga15566 := ga15549.of (h15563.2 (c + 2) (by rw [kC_at (k := 2) (by decide)]; decide))
          have ga15567 := ga15550.of (h15563.2 (c + 3) (by rw [kC_at (k := 3) (by decide)]; decide))
          have ga15568 := ga15551.of (h15563.2 (c + 7) (by rw [kC_at (k := 7) (by decide)]; decide))
          have ga15569 := ga15552.of (h15563.2 (c + 8) (by rw [kC_at (k := 8) (by decide)]; decide))
          have ga15570 := ga15553.of (h15563.2 (c + 9) (by rw [kC_at (k := 9) (by decide)]; decide))
          have ga15571 := ga15554.of (h15563.2 (c + 11) (by rw [kC_at (k := 11) (by decide)]; decide))
          obtain ⟨rfl, rfl⟩ := hp
          refine m_aload_n F rfl e_X10_readLine_170 ?_
          refine m_dup F rfl e_X10_readLine_171 ?_
          refine r_getC F e_X10_readLine_172 fl_X10_202 h15564 (yd15555) ?_
          refine m_iconst F (v := 1) (by decide) e_X10_readLine_175 ?_
          refine m_iadd F e_X10_readLine_176 ?_
          refine Wm.topE (w := nI (ln3 + 1)) (nI_add ln3 1) ?_
          refine r_put F (g' := (⟨T, 0, u, h, P15395, L⟩ : RG)) e_X10_readLine_177 fp_X10_202 h15564 (by decide) ⟨_, rfl⟩ (fun _ _ _ _ q => q) (fun _ _ _ q => q) rfl rfl (by decide) (fun σ15572 h15573 g15574 g15575 f15576 => ?_)
          have ga15577 := ga15548.of (g15574 _ (by omega))
          have ga15578 := ga15549.of (g15574 _ (by omega))
          have ga15579 := ga15550.of (g15574 _ (by omega))
          have ga15580 := ga15551.of (g15574 _ (by omega))
          have ga15581 := ga15552.of (g15574 _ (by omega))
          have ga15582 := ga15553.of (g15574 _ (by omega))
          have ga15583 := ga15554.of (g15574 _ (by omega))
          have h15584 : HS V c _ [0, 2, 17, 18, 19, 20, 21, 22, 23] _ _ := ⟨HR.mono (Z' := Z) (by intro e; first | rfl | assumption | omega) h15573.1, h15573.2⟩
          exact m_vret F hQ e_X10_readLine_180 (⟨P15395, oP15395, (by unfold RP; omega), (by rw [eo15404]; show RM _ c n _ (stopS (tok t n) (j1, 3, j3, j4) nl3 nm3 np3 nc3 lc3 no3 sd3 md3 ln3); rw [stopS_1 (by decide)]; exact RM.l ((g15575 23 (by decide)).trans yd15560) ((g15575 24 (by decide)).trans yd15561) (by omega) (by omega) (by omega)), (fun S2 hS _ => by rw [eo15404] at hS; replace hS : stopS (tok t n) (j1, 3, j3, j4) nl3 nm3 np3 nc3 lc3 no3 sd3 md3 ln3 = .inr S2 := hS; rw [stopS_1 (by decide)] at hS; cases hS), h15584, rfl⟩)
        · refine r_getC F e_X10_readLine_154 fl_X10_110 h15394 (yd15421) ?_
          refine m_iconst F (v := 3) (by decide) e_X10_readLine_157 ?_
          refine m_icmp_eq F e_X10_readLine_158 (fun _ => ?_) (fun q => absurd (by decide) q)
          refine m_aload_n F rfl e_X10_readLine_166 ?_
          refine r_callV F e_X10_readLine_167 (q_X10_goOnE (x_l X) V c T Z u h P15395 L _ _  n j1 3 va3 ln3 fp3 t h15394.1 (hob) oP15395  ⟨(yd15418), (yd15419), (yd15420), (yd15421), (yd15422), (yd15423), (yd15424)⟩ ga15397 hn7 (by omega)) cb_X10_goOn ml_X10_154 im_X10_goOn se_X10_goOn h15394 rfl rfl (rest := []) rfl (Nat.le_of_ble_eq_true rfl) ⟨Nat.le_of_ble_eq_true rfl, Nat.le_of_ble_eq_true rfl⟩ ⟨Nat.le_of_ble_eq_true rfl, Nat.le_of_ble_eq_true rfl⟩ (fun r σ15585 hp => ?_)
          obtain ⟨P15588, oP15588, rP15588, pr15589, pr15590, h15586, hp⟩ := hp
          have h15587 := HS.trans h15394 h15586 (by decide)
          have xP15588 := oP15588
          unfold OKP at xP15588
          unfold RA at rP15588
          have ga15591 := ga15397.of (h15586.2 (c + 1) (by rw [kC_at (k := 1) (by decide)]; decide))
          have ga15592 := hN3.of (h15586.2 (c + 2) (by rw [kC_at (k := 2) (by decide)]; decide))
          have ga15593 := hM3.of (h15586.2 (c + 3) (by rw [kC_at (k := 3) (by decide)]; decide))
          have ga15594 := hK3.of (h15586.2 (c + 7) (by rw [kC_at (k := 7) (by decide)]; decide))
          have ga15595 := hF3.of (h15586.2 (c + 8) (by rw [kC_at (k := 8) (by decide)]; decide))
          have ga15596 := hG3.of (h15586.2 (c + 9) (by rw [kC_at (k := 9) (by decide)]; decide))
          have ga15597 := hQ3.of (h15586.2 (c + 11) (by rw [kC_at (k := 11) (by decide)]; decide))
          obtain rfl := hp
          rw [pa3] at pr15589 pr15590
          have b8 := tok_ok (t := t) (n := n) j4 c1
          obtain ⟨so15598, va15599, mt15600, yd15601⟩ := pr15590
          have hyd15602 := yd15601
          obtain ⟨yd15602, yd15603, yd15604, yd15605, yd15606, yd15607, yd15608⟩ := hyd15602
          refine m_aload_n F rfl e_X10_readLine_170 ?_
          refine m_dup F rfl e_X10_readLine_171 ?_
          refine r_getC F e_X10_readLine_172 fl_X10_202 h15587 (yd15602) ?_
          refine m_iconst F (v := 1) (by decide) e_X10_readLine_175 ?_
          refine m_iadd F e_X10_readLine_176 ?_
          refine Wm.topE (w := nI (ln3 + 1)) (nI_add ln3 1) ?_
          refine r_put F (g' := (⟨T, Z, u, h, P15588, L⟩ : RG)) e_X10_readLine_177 fp_X10_202 h15587 (by decide) ⟨_, rfl⟩ (fun _ _ _ _ q => q) (fun _ _ _ q => q) rfl rfl (by decide) (fun σ15609 h15610 g15611 g15612 f15613 => ?_)
          have ga15614 := ga15591.of (g15611 _ (by omega))
          have ga15615 := ga15592.of (g15611 _ (by omega))
          have ga15616 := ga15593.of (g15611 _ (by omega))
          have ga15617 := ga15594.of (g15611 _ (by omega))
          have ga15618 := ga15595.of (g15611 _ (by omega))
          have ga15619 := ga15596.of (g15611 _ (by omega))
          have ga15620 := ga15597.of (g15611 _ (by omega))
          exact m_vret F hQ e_X10_readLine_180 (⟨P15588, oP15588, (by unfold RP; omega), (by rw [eo15404]; show RM _ c n _ (stopS (tok t n) (j1, 4, j3, j4) nl3 nm3 np3 nc3 lc3 no3 sd3 md3 ln3); rw [stopS_ok]; exact RM.r mt15600 ⟨(f15613), ((g15612 18 (by decide)).trans yd15603), ((g15612 20 (by decide)).trans yd15604), ((g15612 21 (by decide)).trans yd15605), ((g15612 22 (by decide)).trans yd15606), ((g15612 23 (by decide)).trans yd15607), ((g15612 24 (by decide)).trans yd15608)⟩ (by omega) (by omega) (by omega) ga15615 ga15616 ga15617 ga15618 ga15619 ga15620 (by omega) (by omega) (by omega) (by omega) (by omega)), (fun S2 hS hz => by rw [eo15404] at hS; replace hS : stopS (tok t n) (j1, 4, j3, j4) nl3 nm3 np3 nc3 lc3 no3 sd3 md3 ln3 = .inr S2 := hS; rw [stopS_ok] at hS; cases hS; replace hz : (tok t n j4).2.1 ≠ 0 := hz; have h8 := b8.2.2.2 hz; omega), h15610, rfl⟩)
        · refine r_getC F e_X10_readLine_154 fl_X10_110 h15394 (yd15421) ?_
          refine m_iconst F (v := 3) (by decide) e_X10_readLine_157 ?_
          refine m_icmp_eq F e_X10_readLine_158 (fun q => absurd q (by decide)) (fun _ => ?_)
          refine m_aload_n F rfl e_X10_readLine_161 ?_
          refine m_iconst F (v := 1) (by decide) e_X10_readLine_162 ?_
          refine r_callV F e_X10_readLine_163 (q_X10_wrongE (x_l X) V c T Z u h P15395 L _ _ 1 n j1 5 va3 ln3 fp3 h15394.1 (hob) oP15395 (by omega) ⟨(yd15418), (yd15419), (yd15420), (yd15421), (yd15422), (yd15423), (yd15424)⟩ (by decide)) cb_X10_wrong ml_X10_150 im_X10_wrong se_X10_wrong h15394 rfl rfl (rest := []) rfl (Nat.le_of_ble_eq_true rfl) ⟨Nat.le_of_ble_eq_true rfl, Nat.le_of_ble_eq_true rfl⟩ ⟨Nat.le_of_ble_eq_true rfl, Nat.le_of_ble_eq_true rfl⟩ (fun r σ15621 hp => ?_)
          obtain ⟨h15622, hp⟩ := hp
          have h15623 := HS.trans h15394 h15622 (by decide)
          have ga15624 := ga15397.of (h15622.2 (c + 1) (by rw [kC_at (k := 1) (by decide)]; decide))
          have ga15625 := hN3.of (h15622.2 (c + 2) (by rw [kC_at (k := 2) (by decide)]; decide))
          have ga15626 := hM3.of (h15622.2 (c + 3) (by rw [kC_at (k := 3) (by decide)]; decide))
          have ga15627 := hK3.of (h15622.2 (c + 7) (by rw [kC_at (k := 7) (by decide)]; decide))
          have ga15628 := hF3.of (h15622.2 (c + 8) (by rw [kC_at (k := 8) (by decide)]; decide))
          have ga15629 := hG3.of (h15622.2 (c + 9) (by rw [kC_at (k := 9) (by decide)]; decide))
          have ga15630 := hQ3.of (h15622.2 (c + 11) (by rw [kC_at (k := 11) (by decide)]; decide))
          obtain ⟨hp, rfl⟩ := hp
          have hyd15631 := hp
          obtain ⟨yd15631, yd15632, yd15633, yd15634, yd15635, yd15636, yd15637⟩ := hyd15631
          refine m_aload_n F rfl e_X10_readLine_166 ?_
          refine r_callV F e_X10_readLine_167 (q_X10_goOnG (x_l X) V c T 0 u h P15395 L _ _  1 h15623.1 (hob) oP15395  (yd15636) (by decide)) cb_X10_goOn ml_X10_154 im_X10_goOn se_X10_goOn h15623 rfl rfl (rest := []) rfl (Nat.le_of_ble_eq_true rfl) ⟨Nat.le_of_ble_eq_true rfl, Nat.le_of_ble_eq_true rfl⟩ ⟨Nat.le_of_ble_eq_true rfl, Nat.le_of_ble_eq_true rfl⟩ (fun r σ15638 hp => ?_)
          obtain ⟨h15639, hp⟩ := hp
          have h15640 := HS.trans h15623 h15639 (by decide)
          have ga15641 := ga15624.of (h15639.2 (c + 1) (by rw [kC_at (k := 1) (by decide)]; decide))
          have ga15642 := ga15625.of (h15639.2 (c + 2) (by rw [kC_at (k := 2) (by decide)]; decide))
          have ga15643 := ga15626.of (h15639.2 (c + 3) (by rw [kC_at (k := 3) (by decide)]; decide))
          have ga15644 := ga15627.of (h15639.2 (c + 7) (by rw [kC_at (k := 7) (by decide)]; decide))
          have ga15645 := ga15628.of (h15639.2 (c + 8) (by rw [kC_at (k := 8) (by decide)]; decide))
          have ga15646 := ga15629.of (h15639.2 (c + 9) (by rw [kC_at (k := 9) (by decide)]; decide))
          have ga15647 := ga15630.of (h15639.2 (c + 11) (by rw [kC_at (k := 11) (by decide)]; decide))
          obtain ⟨rfl, rfl⟩ := hp
          refine m_aload_n F rfl e_X10_readLine_170 ?_
          refine m_dup F rfl e_X10_readLine_171 ?_
          refine r_getC F e_X10_readLine_172 fl_X10_202 h15640 (yd15631) ?_
          refine m_iconst F (v := 1) (by decide) e_X10_readLine_175 ?_
          refine m_iadd F e_X10_readLine_176 ?_
          refine Wm.topE (w := nI (ln3 + 1)) (nI_add ln3 1) ?_
          refine r_put F (g' := (⟨T, 0, u, h, P15395, L⟩ : RG)) e_X10_readLine_177 fp_X10_202 h15640 (by decide) ⟨_, rfl⟩ (fun _ _ _ _ q => q) (fun _ _ _ q => q) rfl rfl (by decide) (fun σ15648 h15649 g15650 g15651 f15652 => ?_)
          have ga15653 := ga15624.of (g15650 _ (by omega))
          have ga15654 := ga15625.of (g15650 _ (by omega))
          have ga15655 := ga15626.of (g15650 _ (by omega))
          have ga15656 := ga15627.of (g15650 _ (by omega))
          have ga15657 := ga15628.of (g15650 _ (by omega))
          have ga15658 := ga15629.of (g15650 _ (by omega))
          have ga15659 := ga15630.of (g15650 _ (by omega))
          have h15660 : HS V c _ [0, 2, 17, 18, 19, 20, 21, 22, 23] _ _ := ⟨HR.mono (Z' := Z) (by intro e; first | rfl | assumption | omega) h15649.1, h15649.2⟩
          exact m_vret F hQ e_X10_readLine_180 (⟨P15395, oP15395, (by unfold RP; omega), (by rw [eo15404]; show RM _ c n _ (stopS (tok t n) (j1, 5, j3, j4) nl3 nm3 np3 nc3 lc3 no3 sd3 md3 ln3); rw [stopS_1 (by decide)]; exact RM.l ((g15651 23 (by decide)).trans yd15636) ((g15651 24 (by decide)).trans yd15637) (by omega) (by omega) (by omega)), (fun S2 hS _ => by rw [eo15404] at hS; replace hS : stopS (tok t n) (j1, 5, j3, j4) nl3 nm3 np3 nc3 lc3 no3 sd3 md3 ln3 = .inr S2 := hS; rw [stopS_1 (by decide)] at hS; cases hS), h15660, rfl⟩)
    · refine r_getC F e_X10_readLine_1 fl_X10_110 h1 (yd14007) ?_
      refine m_if_eq F e_X10_readLine_4 (fun _ => ?_) (fun q => absurd (by decide) q)
      refine m_aload_n F rfl e_X10_readLine_15 ?_
      refine r_getC F e_X10_readLine_16 fl_X10_120 h1 (yd14008) ?_
      refine m_if_ne F e_X10_readLine_19 (fun _ => ?_) (fun q => absurd q (by decide))
      refine m_aload_n F rfl e_X10_readLine_29 ?_
      refine r_getC F e_X10_readLine_30 fl_X10_120 h1 (yd14008) ?_
      refine m_iconst F (v := 1) (by decide) e_X10_readLine_33 ?_
      refine m_icmp_ne F e_X10_readLine_34 (fun _ => ?_) (fun q => absurd q (by decide))
      refine m_aload_n F rfl e_X10_readLine_44 ?_
      refine r_getC F e_X10_readLine_45 fl_X10_120 h1 (yd14008) ?_
      refine m_iconst F (v := 2) (by decide) e_X10_readLine_48 ?_
      refine m_icmp_eq F e_X10_readLine_49 (fun q => absurd q (by decide)) (fun _ => ?_)
      refine m_aload_n F rfl e_X10_readLine_52 ?_
      refine r_getC F e_X10_readLine_53 fl_X10_120 h1 (yd14008) ?_
      refine m_iconst F (v := 5) (by decide) e_X10_readLine_56 ?_
      refine m_icmp_ne F e_X10_readLine_57 (fun _ => ?_) (fun q => absurd q (by decide))
      refine m_aload_n F rfl e_X10_readLine_80 ?_
      refine r_getC F e_X10_readLine_81 fl_X10_120 h1 (yd14008) ?_
      refine m_iconst F (v := 3) (by decide) e_X10_readLine_84 ?_
      refine m_icmp_ne F e_X10_readLine_85 (fun _ => ?_) (fun q => absurd q (by decide))
      refine m_aload_n F rfl e_X10_readLine_95 ?_
      refine r_getC F e_X10_readLine_96 fl_X10_120 h1 (yd14008) ?_
      refine m_iconst F (v := 4) (by decide) e_X10_readLine_99 ?_
      refine m_icmp_ne F e_X10_readLine_100 (fun _ => ?_) (fun q => absurd q (by decide))
      refine m_aload_n F rfl e_X10_readLine_110 ?_
      refine r_getC F e_X10_readLine_111 fl_X10_120 h1 (yd14008) ?_
      refine m_bipush F (v := 6) (by decide) e_X10_readLine_114 ?_
      refine m_icmp_ne F e_X10_readLine_116 (fun q => absurd (by decide) q) (fun _ => ?_)
      refine m_aload_n F rfl e_X10_readLine_119 ?_
      refine r_callV F e_X10_readLine_120 (q_X10_readChangeE (x_l X) V c T Z u h P L _ _  n st 0 6 ln fp t 1 6 nm np lc no sd md h1.1 (hob) hP  ⟨(yd14004), (yd14005), (yd14006), (yd14007), (yd14008), (yd14009), (yd14010)⟩ hp1 hn7 (by omega) hp4 hp5 hp6 hp7 hp8 hp9 hp10 hp11 hp12 hp13 hp14) cb_X10_readChange ml_X10_193 im_X10_readChange se_X10_readChange h1 rfl rfl (rest := []) rfl (Nat.le_of_ble_eq_true rfl) ⟨Nat.le_of_ble_eq_true rfl, Nat.le_of_ble_eq_true rfl⟩ ⟨Nat.le_of_ble_eq_true rfl, Nat.le_of_ble_eq_true rfl⟩ (fun r σ15661 hp => ?_)
      obtain ⟨P15664, oP15664, rP15664, pr15665, h15662, hp⟩ := hp
      have h15663 := HS.trans h1 h15662 (by decide)
      have xP15664 := oP15664
      unfold OKP at xP15664
      unfold RP at rP15664
      have ga15666 := hp1.of (h15662.2 (c + 1) (by rw [kC_at (k := 1) (by decide)]; decide))
      have ga15667 := hp7.of (h15662.2 (c + 3) (by rw [kC_at (k := 3) (by decide)]; decide))
      have ga15668 := hp8.of (h15662.2 (c + 7) (by rw [kC_at (k := 7) (by decide)]; decide))
      have ga15669 := hp9.of (h15662.2 (c + 8) (by rw [kC_at (k := 8) (by decide)]; decide))
      have ga15670 := hp10.of (h15662.2 (c + 9) (by rw [kC_at (k := 9) (by decide)]; decide))
      obtain rfl := hp
      have rm15671 : RM σ15661 c n P15664 (lineS (tok t n) (st, 1, 6, P.a) P.n5 nm np P.n7 lc no sd md ln) := by rw [lineS_6]; exact pr15665
      cases eo15672 : lineS (tok t n) (st, 1, 6, P.a) P.n5 nm np P.n7 lc no sd md ln with
      | inl e8 =>
        rw [eo15672] at rm15671
        obtain ⟨⟨fa15673, fb15674⟩, c1, c2, c3⟩ := rm15671
        have nz8 : nI e8.1 ≠ 0 := fun e => absurd (nI_inj9 (b := 0) (by omega) (by omega) e) (by omega)
        refine m_goto F e_X10_readLine_123 ?_
        refine m_aload_n F rfl e_X10_readLine_146 ?_
        refine r_getC F e_X10_readLine_147 fl_X10_141 h15663 (fa15673) ?_
        refine m_if_ne F e_X10_readLine_150 (fun q150 => ?_) (fun q150 => ?_)
        · have c150 : e8.1 ≠ 0 := by have hh := mt (nI_eq (a := e8.1) (b := 0) (by omega) (by omega)).mpr q150; omega
          refine m_aload_n F rfl e_X10_readLine_166 ?_
          refine r_callV F e_X10_readLine_167 (q_X10_goOnG (x_l X) V c T Z u h P15664 L _ _  (nI e8.1) h15663.1 (hob) oP15664  (fa15673) (by assumption)) cb_X10_goOn ml_X10_154 im_X10_goOn se_X10_goOn h15663 rfl rfl (rest := []) rfl (Nat.le_of_ble_eq_true rfl) ⟨Nat.le_of_ble_eq_true rfl, Nat.le_of_ble_eq_true rfl⟩ ⟨Nat.le_of_ble_eq_true rfl, Nat.le_of_ble_eq_true rfl⟩ (fun r σ15675 hp => ?_)
          obtain ⟨h15676, hp⟩ := hp
          have h15677 := HS.trans h15663 h15676 (by decide)
          obtain ⟨rfl, rfl⟩ := hp
          refine m_aload_n F rfl e_X10_readLine_170 ?_
          refine m_dup F rfl e_X10_readLine_171 ?_
          refine r_get F e_X10_readLine_172 fl_X10_202 h15677 rfl (fun v hv f15678 => ?_)
          obtain ⟨x15679, rfl⟩ := hv
          refine m_iconst F (v := 1) (by decide) e_X10_readLine_175 ?_
          refine m_iadd F e_X10_readLine_176 ?_
          refine Wm.top (fun x15680 _ => ?_)
          refine r_put F (g' := (⟨T, Z, u, h, P15664, L⟩ : RG)) e_X10_readLine_177 fp_X10_202 h15677 (by decide) ⟨_, rfl⟩ (fun _ _ _ _ q => q) (fun _ _ _ q => q) rfl rfl (by decide) (fun σ15681 h15682 g15683 g15684 f15685 => ?_)
          exact m_vret F hQ e_X10_readLine_180 (⟨P15664, oP15664, (by unfold RP; omega), (by rw [eo15672]; show RM _ c n _ (.inl e8); exact RM.l ((g15684 23 (by decide)).trans fa15673) ((g15684 24 (by decide)).trans fb15674) (by omega) (by omega) (by omega)), (fun S2 hS _ => by rw [eo15672] at hS; cases hS), h15682, rfl⟩)
        · have c150 : e8.1 = 0 := (nI_eq (a := e8.1) (b := 0) (by omega) (by omega)).mp q150
          exact absurd q150 nz8
      | inr S1 =>
        rw [eo15672] at rm15671
        obtain ⟨⟨j1, j2, j3, j4⟩, nl3, nm3, np3, nc3, lc3, no3, sd3, md3, ln3⟩ := S1
        obtain ⟨so3, va3, fp3, mt3, yd3, ⟨pa3, p53, p73⟩, hN3, hM3, hK3, hF3, hG3, hQ3, c1, c2, c3, c4, c5⟩ := rm15671
        replace pa3 : _ = j4 := pa3
        replace c1 : j4 ≤ n := c1
        replace c2 : j1 ≤ n := c2
        have hyd15686 := yd3
        obtain ⟨yd15686, yd15687, yd15688, yd15689, yd15690, yd15691, yd15692⟩ := hyd15686
        refine m_goto F e_X10_readLine_123 ?_
        refine m_aload_n F rfl e_X10_readLine_146 ?_
        refine r_getC F e_X10_readLine_147 fl_X10_141 h15663 (yd15691) ?_
        refine m_if_ne F e_X10_readLine_150 (fun q => absurd (by decide) q) (fun _ => ?_)
        refine m_aload_n F rfl e_X10_readLine_153 ?_
        have hmt := mt3
        rcases hmt with ⟨rfl, rfl⟩ | ⟨rfl, rfl, rfl, hv3⟩ | ⟨rfl, rfl, rfl, hv3⟩ | ⟨rfl, rfl, w3, hw3, rfl, hm3⟩ | ⟨rfl, rfl⟩ | ⟨rfl, rfl⟩
        · refine r_getC F e_X10_readLine_154 fl_X10_110 h15663 (yd15689) ?_
          refine m_iconst F (v := 3) (by decide) e_X10_readLine_157 ?_
          refine m_icmp_eq F e_X10_readLine_158 (fun q => absurd q (by decide)) (fun _ => ?_)
          refine m_aload_n F rfl e_X10_readLine_161 ?_
          refine m_iconst F (v := 1) (by decide) e_X10_readLine_162 ?_
          refine r_callV F e_X10_readLine_163 (q_X10_wrongE (x_l X) V c T Z u h P15664 L _ _ 1 n j1 4 va3 ln3 fp3 h15663.1 (hob) oP15664 (by omega) ⟨(yd15686), (yd15687), (yd15688), (yd15689), (yd15690), (yd15691), (yd15692)⟩ (by decide)) cb_X10_wrong ml_X10_150 im_X10_wrong se_X10_wrong h15663 rfl rfl (rest := []) rfl (Nat.le_of_ble_eq_true rfl) ⟨Nat.le_of_ble_eq_true rfl, Nat.le_of_ble_eq_true rfl⟩ ⟨Nat.le_of_ble_eq_true rfl, Nat.le_of_ble_eq_true rfl⟩ (fun r σ15693 hp => ?_)
          obtain ⟨h15694, hp⟩ := hp
          have h15695 := HS.trans h15663 h15694 (by decide)
          have ga15696 := ga15666.of (h15694.2 (c + 1) (by rw [kC_at (k := 1) (by decide)]; decide))
          have ga15697 := hN3.of (h15694.2 (c + 2) (by rw [kC_at (k := 2) (by decide)]; decide))
          have ga15698 := hM3.of (h15694.2 (c + 3) (by rw [kC_at (k := 3) (by decide)]; decide))
          have ga15699 := hK3.of (h15694.2 (c + 7) (by rw [kC_at (k := 7) (by decide)]; decide))
          have ga15700 := hF3.of (h15694.2 (c + 8) (by rw [kC_at (k := 8) (by decide)]; decide))
          have ga15701 := hG3.of (h15694.2 (c + 9) (by rw [kC_at (k := 9) (by decide)]; decide))
          have ga15702 := hQ3.of (h15694.2 (c + 11) (by rw [kC_at (k := 11) (by decide)]; decide))
          obtain ⟨hp, rfl⟩ := hp
          have hyd15703 := hp
          obtain ⟨yd15703, yd15704, yd15705, yd15706, yd15707, yd15708, yd15709⟩ := hyd15703
          refine m_aload_n F rfl e_X10_readLine_166 ?_
          refine r_callV F e_X10_readLine_167 (q_X10_goOnG (x_l X) V c T 0 u h P15664 L _ _  1 h15695.1 (hob) oP15664  (yd15708) (by decide)) cb_X10_goOn ml_X10_154 im_X10_goOn se_X10_goOn h15695 rfl rfl (rest := []) rfl (Nat.le_of_ble_eq_true rfl) ⟨Nat.le_of_ble_eq_true rfl, Nat.le_of_ble_eq_true rfl⟩ ⟨Nat.le_of_ble_eq_true rfl, Nat.le_of_ble_eq_true rfl⟩ (fun r σ15710 hp => ?_)
          obtain ⟨h15711, hp⟩ := hp
          have h15712 := HS.trans h15695 h15711 (by decide)
          have ga15713 := ga15696.of (h15711.2 (c + 1) (by rw [kC_at (k := 1) (by decide)]; decide))
          have ga15714 := ga15697.of (h15711.2 (c + 2) (by rw [kC_at (k := 2) (by decide)]; decide))
          have ga15715 := ga15698.of (h15711.2 (c + 3) (by rw [kC_at (k := 3) (by decide)]; decide))
          have ga15716 := ga15699.of (h15711.2 (c + 7) (by rw [kC_at (k := 7) (by decide)]; decide))
          have ga15717 := ga15700.of (h15711.2 (c + 8) (by rw [kC_at (k := 8) (by decide)]; decide))
          have ga15718 := ga15701.of (h15711.2 (c + 9) (by rw [kC_at (k := 9) (by decide)]; decide))
          have ga15719 := ga15702.of (h15711.2 (c + 11) (by rw [kC_at (k := 11) (by decide)]; decide))
          obtain ⟨rfl, rfl⟩ := hp
          refine m_aload_n F rfl e_X10_readLine_170 ?_
          refine m_dup F rfl e_X10_readLine_171 ?_
          refine r_getC F e_X10_readLine_172 fl_X10_202 h15712 (yd15703) ?_
          refine m_iconst F (v := 1) (by decide) e_X10_readLine_175 ?_
          refine m_iadd F e_X10_readLine_176 ?_
          refine Wm.topE (w := nI (ln3 + 1)) (nI_add ln3 1) ?_
          refine r_put F (g' := (⟨T, 0, u, h, P15664, L⟩ : RG)) e_X10_readLine_177 fp_X10_202 h15712 (by decide) ⟨_, rfl⟩ (fun _ _ _ _ q => q) (fun _ _ _ q => q) rfl rfl (by decide) (fun σ15720 h15721 g15722 g15723 f15724 => ?_)
          have ga15725 := ga15696.of (g15722 _ (by omega))
          have ga15726 := ga15697.of (g15722 _ (by omega))
          have ga15727 := ga15698.of (g15722 _ (by omega))
          have ga15728 := ga15699.of (g15722 _ (by omega))
          have ga15729 := ga15700.of (g15722 _ (by omega))
          have ga15730 := ga15701.of (g15722 _ (by omega))
          have ga15731 := ga15702.of (g15722 _ (by omega))
          have h15732 : HS V c _ [0, 2, 17, 18, 19, 20, 21, 22, 23] _ _ := ⟨HR.mono (Z' := Z) (by intro e; first | rfl | assumption | omega) h15721.1, h15721.2⟩
          exact m_vret F hQ e_X10_readLine_180 (⟨P15664, oP15664, (by unfold RP; omega), (by rw [eo15672]; show RM _ c n _ (stopS (tok t n) (j1, 0, j3, j4) nl3 nm3 np3 nc3 lc3 no3 sd3 md3 ln3); rw [stopS_1 (by decide)]; exact RM.l ((g15723 23 (by decide)).trans yd15708) ((g15723 24 (by decide)).trans yd15709) (by omega) (by omega) (by omega)), (fun S2 hS _ => by rw [eo15672] at hS; replace hS : stopS (tok t n) (j1, 0, j3, j4) nl3 nm3 np3 nc3 lc3 no3 sd3 md3 ln3 = .inr S2 := hS; rw [stopS_1 (by decide)] at hS; cases hS), h15732, rfl⟩)
        · refine r_getC F e_X10_readLine_154 fl_X10_110 h15663 (yd15689) ?_
          refine m_iconst F (v := 3) (by decide) e_X10_readLine_157 ?_
          refine m_icmp_eq F e_X10_readLine_158 (fun q => absurd q (by decide)) (fun _ => ?_)
          refine m_aload_n F rfl e_X10_readLine_161 ?_
          refine m_iconst F (v := 1) (by decide) e_X10_readLine_162 ?_
          refine r_callV F e_X10_readLine_163 (q_X10_wrongE (x_l X) V c T Z u h P15664 L _ _ 1 n j1 0 (nI j3) ln3 fp3 h15663.1 (hob) oP15664 (by omega) ⟨(yd15686), (yd15687), (yd15688), (yd15689), (yd15690), (yd15691), (yd15692)⟩ (by decide)) cb_X10_wrong ml_X10_150 im_X10_wrong se_X10_wrong h15663 rfl rfl (rest := []) rfl (Nat.le_of_ble_eq_true rfl) ⟨Nat.le_of_ble_eq_true rfl, Nat.le_of_ble_eq_true rfl⟩ ⟨Nat.le_of_ble_eq_true rfl, Nat.le_of_ble_eq_true rfl⟩ (fun r σ15733 hp => ?_)
          obtain ⟨h15734, hp⟩ := hp
          have h15735 := HS.trans h15663 h15734 (by decide)
          have ga15736 := ga15666.of (h15734.2 (c + 1) (by rw [kC_at (k := 1) (by decide)]; decide))
          have ga15737 := hN3.of (h15734.2 (c + 2) (by rw [kC_at (k := 2) (by decide)]; decide))
          have ga15738 := hM3.of (h15734.2 (c + 3) (by rw [kC_at (k := 3) (by decide)]; decide))
          have ga15739 := hK3.of (h15734.2 (c + 7) (by rw [kC_at (k := 7) (by decide)]; decide))
          have ga15740 := hF3.of (h15734.2 (c + 8) (by rw [kC_at (k := 8) (by decide)]; decide))
          have ga15741 := hG3.of (h15734.2 (c + 9) (by rw [kC_at (k := 9) (by decide)]; decide))
          have ga15742 := hQ3.of (h15734.2 (c + 11) (by rw [kC_at (k := 11) (by decide)]; decide))
          obtain ⟨hp, rfl⟩ := hp
          have hyd15743 := hp
          obtain ⟨yd15743, yd15744, yd15745, yd15746, yd15747, yd15748, yd15749⟩ := hyd15743
          refine m_aload_n F rfl e_X10_readLine_166 ?_
          refine r_callV F e_X10_readLine_167 (q_X10_goOnG (x_l X) V c T 0 u h P15664 L _ _  1 h15735.1 (hob) oP15664  (yd15748) (by decide)) cb_X10_goOn ml_X10_154 im_X10_goOn se_X10_goOn h15735 rfl rfl (rest := []) rfl (Nat.le_of_ble_eq_true rfl) ⟨Nat.le_of_ble_eq_true rfl, Nat.le_of_ble_eq_true rfl⟩ ⟨Nat.le_of_ble_eq_true rfl, Nat.le_of_ble_eq_true rfl⟩ (fun r σ15750 hp => ?_)
          obtain ⟨h15751, hp⟩ := hp
          have h15752 := HS.trans h15735 h15751 (by decide)
          have ga15753 := ga15736.of (h15751.2 (c + 1) (by rw [kC_at (k := 1) (by decide)]; decide))
          have ga15754 := ga15737.of (h15751.2 (c + 2) (by rw [kC_at (k := 2) (by decide)]; decide))
          have ga15755 := ga15738.of (h15751.2 (c + 3) (by rw [kC_at (k := 3) (by decide)]; decide))
          have ga15756 := ga15739.of (h15751.2 (c + 7) (by rw [kC_at (k := 7) (by decide)]; decide))
          have ga15757 := ga15740.of (h15751.2 (c + 8) (by rw [kC_at (k := 8) (by decide)]; decide))
          have ga15758 := ga15741.of (h15751.2 (c + 9) (by rw [kC_at (k := 9) (by decide)]; decide))
          have ga15759 := ga15742.of (h15751.2 (c + 11) (by rw [kC_at (k := 11) (by decide)]; decide))
          obtain ⟨rfl, rfl⟩ := hp
          refine m_aload_n F rfl e_X10_readLine_170 ?_
          refine m_dup F rfl e_X10_readLine_171 ?_
          refine r_getC F e_X10_readLine_172 fl_X10_202 h15752 (yd15743) ?_
          refine m_iconst F (v := 1) (by decide) e_X10_readLine_175 ?_
          refine m_iadd F e_X10_readLine_176 ?_
          refine Wm.topE (w := nI (ln3 + 1)) (nI_add ln3 1) ?_
          refine r_put F (g' := (⟨T, 0, u, h, P15664, L⟩ : RG)) e_X10_readLine_177 fp_X10_202 h15752 (by decide) ⟨_, rfl⟩ (fun _ _ _ _ q => q) (fun _ _ _ q => q) rfl rfl (by decide) (fun σ15760 h15761 g15762 g15763 f15764 => ?_)
          have ga15765 := ga15736.of (g15762 _ (by omega))
          have ga15766 := ga15737.of (g15762 _ (by omega))
          have ga15767 := ga15738.of (g15762 _ (by omega))
          have ga15768 := ga15739.of (g15762 _ (by omega))
          have ga15769 := ga15740.of (g15762 _ (by omega))
          have ga15770 := ga15741.of (g15762 _ (by omega))
          have ga15771 := ga15742.of (g15762 _ (by omega))
          have h15772 : HS V c _ [0, 2, 17, 18, 19, 20, 21, 22, 23] _ _ := ⟨HR.mono (Z' := Z) (by intro e; first | rfl | assumption | omega) h15761.1, h15761.2⟩
          exact m_vret F hQ e_X10_readLine_180 (⟨P15664, oP15664, (by unfold RP; omega), (by rw [eo15672]; show RM _ c n _ (stopS (tok t n) (j1, 1, j3, j4) nl3 nm3 np3 nc3 lc3 no3 sd3 md3 ln3); rw [stopS_1 (by decide)]; exact RM.l ((g15763 23 (by decide)).trans yd15748) ((g15763 24 (by decide)).trans yd15749) (by omega) (by omega) (by omega)), (fun S2 hS _ => by rw [eo15672] at hS; replace hS : stopS (tok t n) (j1, 1, j3, j4) nl3 nm3 np3 nc3 lc3 no3 sd3 md3 ln3 = .inr S2 := hS; rw [stopS_1 (by decide)] at hS; cases hS), h15772, rfl⟩)
        · refine r_getC F e_X10_readLine_154 fl_X10_110 h15663 (yd15689) ?_
          refine m_iconst F (v := 3) (by decide) e_X10_readLine_157 ?_
          refine m_icmp_eq F e_X10_readLine_158 (fun q => absurd q (by decide)) (fun _ => ?_)
          refine m_aload_n F rfl e_X10_readLine_161 ?_
          refine m_iconst F (v := 1) (by decide) e_X10_readLine_162 ?_
          refine r_callV F e_X10_readLine_163 (q_X10_wrongE (x_l X) V c T Z u h P15664 L _ _ 1 n j1 1 (nI j3) ln3 fp3 h15663.1 (hob) oP15664 (by omega) ⟨(yd15686), (yd15687), (yd15688), (yd15689), (yd15690), (yd15691), (yd15692)⟩ (by decide)) cb_X10_wrong ml_X10_150 im_X10_wrong se_X10_wrong h15663 rfl rfl (rest := []) rfl (Nat.le_of_ble_eq_true rfl) ⟨Nat.le_of_ble_eq_true rfl, Nat.le_of_ble_eq_true rfl⟩ ⟨Nat.le_of_ble_eq_true rfl, Nat.le_of_ble_eq_true rfl⟩ (fun r σ15773 hp => ?_)
          obtain ⟨h15774, hp⟩ := hp
          have h15775 := HS.trans h15663 h15774 (by decide)
          have ga15776 := ga15666.of (h15774.2 (c + 1) (by rw [kC_at (k := 1) (by decide)]; decide))
          have ga15777 := hN3.of (h15774.2 (c + 2) (by rw [kC_at (k := 2) (by decide)]; decide))
          have ga15778 := hM3.of (h15774.2 (c + 3) (by rw [kC_at (k := 3) (by decide)]; decide))
          have ga15779 := hK3.of (h15774.2 (c + 7) (by rw [kC_at (k := 7) (by decide)]; decide))
          have ga15780 := hF3.of (h15774.2 (c + 8) (by rw [kC_at (k := 8) (by decide)]; decide))
          have ga15781 := hG3.of (h15774.2 (c + 9) (by rw [kC_at (k := 9) (by decide)]; decide))
          have ga15782 := hQ3.of (h15774.2 (c + 11) (by rw [kC_at (k := 11) (by decide)]; decide))
          obtain ⟨hp, rfl⟩ := hp
          have hyd15783 := hp
          obtain ⟨yd15783, yd15784, yd15785, yd15786, yd15787, yd15788, yd15789⟩ := hyd15783
          refine m_aload_n F rfl e_X10_readLine_166 ?_
          refine r_callV F e_X10_readLine_167 (q_X10_goOnG (x_l X) V c T 0 u h P15664 L _ _  1 h15775.1 (hob) oP15664  (yd15788) (by decide)) cb_X10_goOn ml_X10_154 im_X10_goOn se_X10_goOn h15775 rfl rfl (rest := []) rfl (Nat.le_of_ble_eq_true rfl) ⟨Nat.le_of_ble_eq_true rfl, Nat.le_of_ble_eq_true rfl⟩ ⟨Nat.le_of_ble_eq_true rfl, Nat.le_of_ble_eq_true rfl⟩ (fun r σ15790 hp => ?_)
          obtain ⟨h15791, hp⟩ := hp
          have h15792 := HS.trans h15775 h15791 (by decide)
          have ga15793 := ga15776.of (h15791.2 (c + 1) (by rw [kC_at (k := 1) (by decide)]; decide))
          have ga15794 := ga15777.of (h15791.2 (c + 2) (by rw [kC_at (k := 2) (by decide)]; decide))
          have ga15795 := ga15778.of (h15791.2 (c + 3) (by rw [kC_at (k := 3) (by decide)]; decide))
          have ga15796 := ga15779.of (h15791.2 (c + 7) (by rw [kC_at (k := 7) (by decide)]; decide))
          have ga15797 := ga15780.of (h15791.2 (c + 8) (by rw [kC_at (k := 8) (by decide)]; decide))
          have ga15798 := ga15781.of (h15791.2 (c + 9) (by rw [kC_at (k := 9) (by decide)]; decide))
          have ga15799 := ga15782.of (h15791.2 (c + 11) (by rw [kC_at (k := 11) (by decide)]; decide))
          obtain ⟨rfl, rfl⟩ := hp
          refine m_aload_n F rfl e_X10_readLine_170 ?_
          refine m_dup F rfl e_X10_readLine_171 ?_
          refine r_getC F e_X10_readLine_172 fl_X10_202 h15792 (yd15783) ?_
          refine m_iconst F (v := 1) (by decide) e_X10_readLine_175 ?_
          refine m_iadd F e_X10_readLine_176 ?_
          refine Wm.topE (w := nI (ln3 + 1)) (nI_add ln3 1) ?_
          refine r_put F (g' := (⟨T, 0, u, h, P15664, L⟩ : RG)) e_X10_readLine_177 fp_X10_202 h15792 (by decide) ⟨_, rfl⟩ (fun _ _ _ _ q => q) (fun _ _ _ q => q) rfl rfl (by decide) (fun σ15800 h15801 g15802 g15803 f15804 => ?_)
          have ga15805 := ga15776.of (g15802 _ (by omega))
          have ga15806 := ga15777.of (g15802 _ (by omega))
          have ga15807 := ga15778.of (g15802 _ (by omega))
          have ga15808 := ga15779.of (g15802 _ (by omega))
          have ga15809 := ga15780.of (g15802 _ (by omega))
          have ga15810 := ga15781.of (g15802 _ (by omega))
          have ga15811 := ga15782.of (g15802 _ (by omega))
          have h15812 : HS V c _ [0, 2, 17, 18, 19, 20, 21, 22, 23] _ _ := ⟨HR.mono (Z' := Z) (by intro e; first | rfl | assumption | omega) h15801.1, h15801.2⟩
          exact m_vret F hQ e_X10_readLine_180 (⟨P15664, oP15664, (by unfold RP; omega), (by rw [eo15672]; show RM _ c n _ (stopS (tok t n) (j1, 2, j3, j4) nl3 nm3 np3 nc3 lc3 no3 sd3 md3 ln3); rw [stopS_1 (by decide)]; exact RM.l ((g15803 23 (by decide)).trans yd15788) ((g15803 24 (by decide)).trans yd15789) (by omega) (by omega) (by omega)), (fun S2 hS _ => by rw [eo15672] at hS; replace hS : stopS (tok t n) (j1, 2, j3, j4) nl3 nm3 np3 nc3 lc3 no3 sd3 md3 ln3 = .inr S2 := hS; rw [stopS_1 (by decide)] at hS; cases hS), h15812, rfl⟩)
        · refine r_getC F e_X10_readLine_154 fl_X10_110 h15663 (yd15689) ?_
          refine m_iconst F (v := 3) (by decide) e_X10_readLine_157 ?_
          refine m_icmp_eq F e_X10_readLine_158 (fun q => absurd q (by decide)) (fun _ => ?_)
          refine m_aload_n F rfl e_X10_readLine_161 ?_
          refine m_iconst F (v := 1) (by decide) e_X10_readLine_162 ?_
          refine r_callV F e_X10_readLine_163 (q_X10_wrongE (x_l X) V c T Z u h P15664 L _ _ 1 n j1 2 (nI w3) ln3 fp3 h15663.1 (hob) oP15664 (by omega) ⟨(yd15686), (yd15687), (yd15688), (yd15689), (yd15690), (yd15691), (yd15692)⟩ (by decide)) cb_X10_wrong ml_X10_150 im_X10_wrong se_X10_wrong h15663 rfl rfl (rest := []) rfl (Nat.le_of_ble_eq_true rfl) ⟨Nat.le_of_ble_eq_true rfl, Nat.le_of_ble_eq_true rfl⟩ ⟨Nat.le_of_ble_eq_true rfl, Nat.le_of_ble_eq_true rfl⟩ (fun r σ15813 hp => ?_)
          obtain ⟨h15814, hp⟩ := hp
          have h15815 := HS.trans h15663 h15814 (by decide)
          have ga15816 := ga15666.of (h15814.2 (c + 1) (by rw [kC_at (k := 1) (by decide)]; decide))
          have ga15817 := hN3.of (h15814.2 (c + 2) (by rw [kC_at (k := 2) (by decide)]; decide))
          have ga15818 := hM3.of (h15814.2 (c + 3) (by rw [kC_at (k := 3) (by decide)]; decide))
          have ga15819 := hK3.of (h15814.2 (c + 7) (by rw [kC_at (k := 7) (by decide)]; decide))
          have ga15820 := hF3.of (h15814.2 (c + 8) (by rw [kC_at (k := 8) (by decide)]; decide))
          have ga15821 := hG3.of (h15814.2 (c + 9) (by rw [kC_at (k := 9) (by decide)]; decide))
          have ga15822 := hQ3.of (h15814.2 (c + 11) (by rw [kC_at (k := 11) (by decide)]; decide))
          obtain ⟨hp, rfl⟩ := hp
          have hyd15823 := hp
          obtain ⟨yd15823, yd15824, yd15825, yd15826, yd15827, yd15828, yd15829⟩ := hyd15823
          refine m_aload_n F rfl e_X10_readLine_166 ?_
          refine r_callV F e_X10_readLine_167 (q_X10_goOnG (x_l X) V c T 0 u h P15664 L _ _  1 h15815.1 (hob) oP15664  (yd15828) (by decide)) cb_X10_goOn ml_X10_154 im_X10_goOn se_X10_goOn h15815 rfl rfl (rest := []) rfl (Nat.le_of_ble_eq_true rfl) ⟨Nat.le_of_ble_eq_true rfl, Nat.le_of_ble_eq_true rfl⟩ ⟨Nat.le_of_ble_eq_true rfl, Nat.le_of_ble_eq_true rfl⟩ (fun r σ15830 hp => ?_)
          obtain ⟨h15831, hp⟩ := hp
          have h15832 := HS.trans h15815 h15831 (by decide)
          have ga15833 := ga15816.of (h15831.2 (c + 1) (by rw [kC_at (k := 1) (by decide)]; decide))
          have ga15834 := ga15817.of (h15831.2 (c + 2) (by rw [kC_at (k := 2) (by decide)]; decide))
          have ga15835 := ga15818.of (h15831.2 (c + 3) (by rw [kC_at (k := 3) (by decide)]; decide))
          have ga15836 := ga15819.of (h15831.2 (c + 7) (by rw [kC_at (k := 7) (by decide)]; decide))
          have ga15837 := ga15820.of (h15831.2 (c + 8) (by rw [kC_at (k := 8) (by decide)]; decide))
          have ga15838 := ga15821.of (h15831.2 (c + 9) (by rw [kC_at (k := 9) (by decide)]; decide))
          have ga15839 := ga15822.of (h15831.2 (c + 11) (by rw [kC_at (k := 11) (by decide)]; decide))
          obtain ⟨rfl, rfl⟩ := hp
          refine m_aload_n F rfl e_X10_readLine_170 ?_
          refine m_dup F rfl e_X10_readLine_171 ?_
          refine r_getC F e_X10_readLine_172 fl_X10_202 h15832 (yd15823) ?_
          refine m_iconst F (v := 1) (by decide) e_X10_readLine_175 ?_
          refine m_iadd F e_X10_readLine_176 ?_
          refine Wm.topE (w := nI (ln3 + 1)) (nI_add ln3 1) ?_
          refine r_put F (g' := (⟨T, 0, u, h, P15664, L⟩ : RG)) e_X10_readLine_177 fp_X10_202 h15832 (by decide) ⟨_, rfl⟩ (fun _ _ _ _ q => q) (fun _ _ _ q => q) rfl rfl (by decide) (fun σ15840 h15841 g15842 g15843 f15844 => ?_)
          have ga15845 := ga15816.of (g15842 _ (by omega))
          have ga15846 := ga15817.of (g15842 _ (by omega))
          have ga15847 := ga15818.of (g15842 _ (by omega))
          have ga15848 := ga15819.of (g15842 _ (by omega))
          have ga15849 := ga15820.of (g15842 _ (by omega))
          have ga15850 := ga15821.of (g15842 _ (by omega))
          have ga15851 := ga15822.of (g15842 _ (by omega))
          have h15852 : HS V c _ [0, 2, 17, 18, 19, 20, 21, 22, 23] _ _ := ⟨HR.mono (Z' := Z) (by intro e; first | rfl | assumption | omega) h15841.1, h15841.2⟩
          exact m_vret F hQ e_X10_readLine_180 (⟨P15664, oP15664, (by unfold RP; omega), (by rw [eo15672]; show RM _ c n _ (stopS (tok t n) (j1, 3, j3, j4) nl3 nm3 np3 nc3 lc3 no3 sd3 md3 ln3); rw [stopS_1 (by decide)]; exact RM.l ((g15843 23 (by decide)).trans yd15828) ((g15843 24 (by decide)).trans yd15829) (by omega) (by omega) (by omega)), (fun S2 hS _ => by rw [eo15672] at hS; replace hS : stopS (tok t n) (j1, 3, j3, j4) nl3 nm3 np3 nc3 lc3 no3 sd3 md3 ln3 = .inr S2 := hS; rw [stopS_1 (by decide)] at hS; cases hS), h15852, rfl⟩)
        · refine r_getC F e_X10_readLine_154 fl_X10_110 h15663 (yd15689) ?_
          refine m_iconst F (v := 3) (by decide) e_X10_readLine_157 ?_
          refine m_icmp_eq F e_X10_readLine_158 (fun _ => ?_) (fun q => absurd (by decide) q)
          refine m_aload_n F rfl e_X10_readLine_166 ?_
          refine r_callV F e_X10_readLine_167 (q_X10_goOnE (x_l X) V c T Z u h P15664 L _ _  n j1 3 va3 ln3 fp3 t h15663.1 (hob) oP15664  ⟨(yd15686), (yd15687), (yd15688), (yd15689), (yd15690), (yd15691), (yd15692)⟩ ga15666 hn7 (by omega)) cb_X10_goOn ml_X10_154 im_X10_goOn se_X10_goOn h15663 rfl rfl (rest := []) rfl (Nat.le_of_ble_eq_true rfl) ⟨Nat.le_of_ble_eq_true rfl, Nat.le_of_ble_eq_true rfl⟩ ⟨Nat.le_of_ble_eq_true rfl, Nat.le_of_ble_eq_true rfl⟩ (fun r σ15853 hp => ?_)
          obtain ⟨P15856, oP15856, rP15856, pr15857, pr15858, h15854, hp⟩ := hp
          have h15855 := HS.trans h15663 h15854 (by decide)
          have xP15856 := oP15856
          unfold OKP at xP15856
          unfold RA at rP15856
          have ga15859 := ga15666.of (h15854.2 (c + 1) (by rw [kC_at (k := 1) (by decide)]; decide))
          have ga15860 := hN3.of (h15854.2 (c + 2) (by rw [kC_at (k := 2) (by decide)]; decide))
          have ga15861 := hM3.of (h15854.2 (c + 3) (by rw [kC_at (k := 3) (by decide)]; decide))
          have ga15862 := hK3.of (h15854.2 (c + 7) (by rw [kC_at (k := 7) (by decide)]; decide))
          have ga15863 := hF3.of (h15854.2 (c + 8) (by rw [kC_at (k := 8) (by decide)]; decide))
          have ga15864 := hG3.of (h15854.2 (c + 9) (by rw [kC_at (k := 9) (by decide)]; decide))
          have ga15865 := hQ3.of (h15854.2 (c + 11) (by rw [kC_at (k := 11) (by decide)]; decide))
          obtain rfl := hp
          rw [pa3] at pr15857 pr15858
          have b8 := tok_ok (t := t) (n := n) j4 c1
          obtain ⟨so15866, va15867, mt15868, yd15869⟩ := pr15858
          have hyd15870 := yd15869
          obtain ⟨yd15870, yd15871, yd15872, yd15873, yd15874, yd15875, yd15876⟩ := hyd15870
          refine m_aload_n F rfl e_X10_readLine_170 ?_
          refine m_dup F rfl e_X10_readLine_171 ?_
          refine r_getC F e_X10_readLine_172 fl_X10_202 h15855 (yd15870) ?_
          refine m_iconst F (v := 1) (by decide) e_X10_readLine_175 ?_
          refine m_iadd F e_X10_readLine_176 ?_
          refine Wm.topE (w := nI (ln3 + 1)) (nI_add ln3 1) ?_
          refine r_put F (g' := (⟨T, Z, u, h, P15856, L⟩ : RG)) e_X10_readLine_177 fp_X10_202 h15855 (by decide) ⟨_, rfl⟩ (fun _ _ _ _ q => q) (fun _ _ _ q => q) rfl rfl (by decide) (fun σ15877 h15878 g15879 g15880 f15881 => ?_)
          have ga15882 := ga15859.of (g15879 _ (by omega))
          have ga15883 := ga15860.of (g15879 _ (by omega))
          have ga15884 := ga15861.of (g15879 _ (by omega))
          have ga15885 := ga15862.of (g15879 _ (by omega))
          have ga15886 := ga15863.of (g15879 _ (by omega))
          have ga15887 := ga15864.of (g15879 _ (by omega))
          have ga15888 := ga15865.of (g15879 _ (by omega))
          exact m_vret F hQ e_X10_readLine_180 (⟨P15856, oP15856, (by unfold RP; omega), (by rw [eo15672]; show RM _ c n _ (stopS (tok t n) (j1, 4, j3, j4) nl3 nm3 np3 nc3 lc3 no3 sd3 md3 ln3); rw [stopS_ok]; exact RM.r mt15868 ⟨(f15881), ((g15880 18 (by decide)).trans yd15871), ((g15880 20 (by decide)).trans yd15872), ((g15880 21 (by decide)).trans yd15873), ((g15880 22 (by decide)).trans yd15874), ((g15880 23 (by decide)).trans yd15875), ((g15880 24 (by decide)).trans yd15876)⟩ (by omega) (by omega) (by omega) ga15883 ga15884 ga15885 ga15886 ga15887 ga15888 (by omega) (by omega) (by omega) (by omega) (by omega)), (fun S2 hS hz => by rw [eo15672] at hS; replace hS : stopS (tok t n) (j1, 4, j3, j4) nl3 nm3 np3 nc3 lc3 no3 sd3 md3 ln3 = .inr S2 := hS; rw [stopS_ok] at hS; cases hS; replace hz : (tok t n j4).2.1 ≠ 0 := hz; have h8 := b8.2.2.2 hz; omega), h15878, rfl⟩)
        · refine r_getC F e_X10_readLine_154 fl_X10_110 h15663 (yd15689) ?_
          refine m_iconst F (v := 3) (by decide) e_X10_readLine_157 ?_
          refine m_icmp_eq F e_X10_readLine_158 (fun q => absurd q (by decide)) (fun _ => ?_)
          refine m_aload_n F rfl e_X10_readLine_161 ?_
          refine m_iconst F (v := 1) (by decide) e_X10_readLine_162 ?_
          refine r_callV F e_X10_readLine_163 (q_X10_wrongE (x_l X) V c T Z u h P15664 L _ _ 1 n j1 5 va3 ln3 fp3 h15663.1 (hob) oP15664 (by omega) ⟨(yd15686), (yd15687), (yd15688), (yd15689), (yd15690), (yd15691), (yd15692)⟩ (by decide)) cb_X10_wrong ml_X10_150 im_X10_wrong se_X10_wrong h15663 rfl rfl (rest := []) rfl (Nat.le_of_ble_eq_true rfl) ⟨Nat.le_of_ble_eq_true rfl, Nat.le_of_ble_eq_true rfl⟩ ⟨Nat.le_of_ble_eq_true rfl, Nat.le_of_ble_eq_true rfl⟩ (fun r σ15889 hp => ?_)
          obtain ⟨h15890, hp⟩ := hp
          have h15891 := HS.trans h15663 h15890 (by decide)
          have ga15892 := ga15666.of (h15890.2 (c + 1) (by rw [kC_at (k := 1) (by decide)]; decide))
          have ga15893 := hN3.of (h15890.2 (c + 2) (by rw [kC_at (k := 2) (by decide)]; decide))
          have ga15894 := hM3.of (h15890.2 (c + 3) (by rw [kC_at (k := 3) (by decide)]; decide))
          have ga15895 := hK3.of (h15890.2 (c + 7) (by rw [kC_at (k := 7) (by decide)]; decide))
          have ga15896 := hF3.of (h15890.2 (c + 8) (by rw [kC_at (k := 8) (by decide)]; decide))
          have ga15897 := hG3.of (h15890.2 (c + 9) (by rw [kC_at (k := 9) (by decide)]; decide))
          have ga15898 := hQ3.of (h15890.2 (c + 11) (by rw [kC_at (k := 11) (by decide)]; decide))
          obtain ⟨hp, rfl⟩ := hp
          have hyd15899 := hp
          obtain ⟨yd15899, yd15900, yd15901, yd15902, yd15903, yd15904, yd15905⟩ := hyd15899
          refine m_aload_n F rfl e_X10_readLine_166 ?_
          refine r_callV F e_X10_readLine_167 (q_X10_goOnG (x_l X) V c T 0 u h P15664 L _ _  1 h15891.1 (hob) oP15664  (yd15904) (by decide)) cb_X10_goOn ml_X10_154 im_X10_goOn se_X10_goOn h15891 rfl rfl (rest := []) rfl (Nat.le_of_ble_eq_true rfl) ⟨Nat.le_of_ble_eq_true rfl, Nat.le_of_ble_eq_true rfl⟩ ⟨Nat.le_of_ble_eq_true rfl, Nat.le_of_ble_eq_true rfl⟩ (fun r σ15906 hp => ?_)
          obtain ⟨h15907, hp⟩ := hp
          have h15908 := HS.trans h15891 h15907 (by decide)
          have ga15909 := ga15892.of (h15907.2 (c + 1) (by rw [kC_at (k := 1) (by decide)]; decide))
          have ga15910 := ga15893.of (h15907.2 (c + 2) (by rw [kC_at (k := 2) (by decide)]; decide))
          have ga15911 := ga15894.of (h15907.2 (c + 3) (by rw [kC_at (k := 3) (by decide)]; decide))
          have ga15912 := ga15895.of (h15907.2 (c + 7) (by rw [kC_at (k := 7) (by decide)]; decide))
          have ga15913 := ga15896.of (h15907.2 (c + 8) (by rw [kC_at (k := 8) (by decide)]; decide))
          have ga15914 := ga15897.of (h15907.2 (c + 9) (by rw [kC_at (k := 9) (by decide)]; decide))
          have ga15915 := ga15898.of (h15907.2 (c + 11) (by rw [kC_at (k := 11) (by decide)]; decide))
          obtain ⟨rfl, rfl⟩ := hp
          refine m_aload_n F rfl e_X10_readLine_170 ?_
          refine m_dup F rfl e_X10_readLine_171 ?_
          refine r_getC F e_X10_readLine_172 fl_X10_202 h15908 (yd15899) ?_
          refine m_iconst F (v := 1) (by decide) e_X10_readLine_175 ?_
          refine m_iadd F e_X10_readLine_176 ?_
          refine Wm.topE (w := nI (ln3 + 1)) (nI_add ln3 1) ?_
          refine r_put F (g' := (⟨T, 0, u, h, P15664, L⟩ : RG)) e_X10_readLine_177 fp_X10_202 h15908 (by decide) ⟨_, rfl⟩ (fun _ _ _ _ q => q) (fun _ _ _ q => q) rfl rfl (by decide) (fun σ15916 h15917 g15918 g15919 f15920 => ?_)
          have ga15921 := ga15892.of (g15918 _ (by omega))
          have ga15922 := ga15893.of (g15918 _ (by omega))
          have ga15923 := ga15894.of (g15918 _ (by omega))
          have ga15924 := ga15895.of (g15918 _ (by omega))
          have ga15925 := ga15896.of (g15918 _ (by omega))
          have ga15926 := ga15897.of (g15918 _ (by omega))
          have ga15927 := ga15898.of (g15918 _ (by omega))
          have h15928 : HS V c _ [0, 2, 17, 18, 19, 20, 21, 22, 23] _ _ := ⟨HR.mono (Z' := Z) (by intro e; first | rfl | assumption | omega) h15917.1, h15917.2⟩
          exact m_vret F hQ e_X10_readLine_180 (⟨P15664, oP15664, (by unfold RP; omega), (by rw [eo15672]; show RM _ c n _ (stopS (tok t n) (j1, 5, j3, j4) nl3 nm3 np3 nc3 lc3 no3 sd3 md3 ln3); rw [stopS_1 (by decide)]; exact RM.l ((g15919 23 (by decide)).trans yd15904) ((g15919 24 (by decide)).trans yd15905) (by omega) (by omega) (by omega)), (fun S2 hS _ => by rw [eo15672] at hS; replace hS : stopS (tok t n) (j1, 5, j3, j4) nl3 nm3 np3 nc3 lc3 no3 sd3 md3 ln3 = .inr S2 := hS; rw [stopS_1 (by decide)] at hS; cases hS), h15928, rfl⟩)
    · refine r_getC F e_X10_readLine_1 fl_X10_110 h1 (yd14007) ?_
      refine m_if_eq F e_X10_readLine_4 (fun _ => ?_) (fun q => absurd (by decide) q)
      refine m_aload_n F rfl e_X10_readLine_15 ?_
      refine r_getC F e_X10_readLine_16 fl_X10_120 h1 (yd14008) ?_
      refine m_if_ne F e_X10_readLine_19 (fun _ => ?_) (fun q => absurd q (by decide))
      refine m_aload_n F rfl e_X10_readLine_29 ?_
      refine r_getC F e_X10_readLine_30 fl_X10_120 h1 (yd14008) ?_
      refine m_iconst F (v := 1) (by decide) e_X10_readLine_33 ?_
      refine m_icmp_ne F e_X10_readLine_34 (fun _ => ?_) (fun q => absurd q (by decide))
      refine m_aload_n F rfl e_X10_readLine_44 ?_
      refine r_getC F e_X10_readLine_45 fl_X10_120 h1 (yd14008) ?_
      refine m_iconst F (v := 2) (by decide) e_X10_readLine_48 ?_
      refine m_icmp_eq F e_X10_readLine_49 (fun q => absurd q (by decide)) (fun _ => ?_)
      refine m_aload_n F rfl e_X10_readLine_52 ?_
      refine r_getC F e_X10_readLine_53 fl_X10_120 h1 (yd14008) ?_
      refine m_iconst F (v := 5) (by decide) e_X10_readLine_56 ?_
      refine m_icmp_ne F e_X10_readLine_57 (fun _ => ?_) (fun q => absurd q (by decide))
      refine m_aload_n F rfl e_X10_readLine_80 ?_
      refine r_getC F e_X10_readLine_81 fl_X10_120 h1 (yd14008) ?_
      refine m_iconst F (v := 3) (by decide) e_X10_readLine_84 ?_
      refine m_icmp_ne F e_X10_readLine_85 (fun _ => ?_) (fun q => absurd q (by decide))
      refine m_aload_n F rfl e_X10_readLine_95 ?_
      refine r_getC F e_X10_readLine_96 fl_X10_120 h1 (yd14008) ?_
      refine m_iconst F (v := 4) (by decide) e_X10_readLine_99 ?_
      refine m_icmp_ne F e_X10_readLine_100 (fun _ => ?_) (fun q => absurd q (by decide))
      refine m_aload_n F rfl e_X10_readLine_110 ?_
      refine r_getC F e_X10_readLine_111 fl_X10_120 h1 (yd14008) ?_
      refine m_bipush F (v := 6) (by decide) e_X10_readLine_114 ?_
      refine m_icmp_ne F e_X10_readLine_116 (fun _ => ?_) (fun q => absurd q (by decide))
      refine m_aload_n F rfl e_X10_readLine_126 ?_
      refine r_getC F e_X10_readLine_127 fl_X10_120 h1 (yd14008) ?_
      refine m_bipush F (v := 7) (by decide) e_X10_readLine_130 ?_
      refine m_icmp_ne F e_X10_readLine_132 (fun q => absurd (by decide) q) (fun _ => ?_)
      refine m_aload_n F rfl e_X10_readLine_135 ?_
      refine r_callV F e_X10_readLine_136 (q_X10_readOptionE (x_l X) V c T Z u h P L _ _  n st 0 7 ln fp t 1 7 nm np lc no sd md h1.1 (hob) hP  ⟨(yd14004), (yd14005), (yd14006), (yd14007), (yd14008), (yd14009), (yd14010)⟩ hp1 hn7 (by omega) hp4 hp5 hp6 hp7 hp8 hp9 hp10 hp11 hp12 hp13 hp14) cb_X10_readOption ml_X10_196 im_X10_readOption se_X10_readOption h1 rfl rfl (rest := []) rfl (Nat.le_of_ble_eq_true rfl) ⟨Nat.le_of_ble_eq_true rfl, Nat.le_of_ble_eq_true rfl⟩ ⟨Nat.le_of_ble_eq_true rfl, Nat.le_of_ble_eq_true rfl⟩ (fun r σ15929 hp => ?_)
      obtain ⟨P15932, oP15932, rP15932, pr15933, h15930, hp⟩ := hp
      have h15931 := HS.trans h1 h15930 (by decide)
      have xP15932 := oP15932
      unfold OKP at xP15932
      unfold RP at rP15932
      have ga15934 := hp1.of (h15930.2 (c + 1) (by rw [kC_at (k := 1) (by decide)]; decide))
      have ga15935 := hp7.of (h15930.2 (c + 3) (by rw [kC_at (k := 3) (by decide)]; decide))
      have ga15936 := hp8.of (h15930.2 (c + 7) (by rw [kC_at (k := 7) (by decide)]; decide))
      have ga15937 := hp9.of (h15930.2 (c + 8) (by rw [kC_at (k := 8) (by decide)]; decide))
      have ga15938 := hp10.of (h15930.2 (c + 9) (by rw [kC_at (k := 9) (by decide)]; decide))
      have ga15939 := hp11.of (h15930.2 (c + 11) (by rw [kC_at (k := 11) (by decide)]; decide))
      obtain rfl := hp
      have rm15940 : RM σ15929 c n P15932 (lineS (tok t n) (st, 1, 7, P.a) P.n5 nm np P.n7 lc no sd md ln) := by rw [lineS_7]; exact pr15933
      cases eo15941 : lineS (tok t n) (st, 1, 7, P.a) P.n5 nm np P.n7 lc no sd md ln with
      | inl e8 =>
        rw [eo15941] at rm15940
        obtain ⟨⟨fa15942, fb15943⟩, c1, c2, c3⟩ := rm15940
        have nz8 : nI e8.1 ≠ 0 := fun e => absurd (nI_inj9 (b := 0) (by omega) (by omega) e) (by omega)
        refine m_goto F e_X10_readLine_139 ?_
        refine m_aload_n F rfl e_X10_readLine_146 ?_
        refine r_getC F e_X10_readLine_147 fl_X10_141 h15931 (fa15942) ?_
        refine m_if_ne F e_X10_readLine_150 (fun q150 => ?_) (fun q150 => ?_)
        · have c150 : e8.1 ≠ 0 := by have hh := mt (nI_eq (a := e8.1) (b := 0) (by omega) (by omega)).mpr q150; omega
          refine m_aload_n F rfl e_X10_readLine_166 ?_
          refine r_callV F e_X10_readLine_167 (q_X10_goOnG (x_l X) V c T Z u h P15932 L _ _  (nI e8.1) h15931.1 (hob) oP15932  (fa15942) (by assumption)) cb_X10_goOn ml_X10_154 im_X10_goOn se_X10_goOn h15931 rfl rfl (rest := []) rfl (Nat.le_of_ble_eq_true rfl) ⟨Nat.le_of_ble_eq_true rfl, Nat.le_of_ble_eq_true rfl⟩ ⟨Nat.le_of_ble_eq_true rfl, Nat.le_of_ble_eq_true rfl⟩ (fun r σ15944 hp => ?_)
          obtain ⟨h15945, hp⟩ := hp
          have h15946 := HS.trans h15931 h15945 (by decide)
          obtain ⟨rfl, rfl⟩ := hp
          refine m_aload_n F rfl e_X10_readLine_170 ?_
          refine m_dup F rfl e_X10_readLine_171 ?_
          refine r_get F e_X10_readLine_172 fl_X10_202 h15946 rfl (fun v hv f15947 => ?_)
          obtain ⟨x15948, rfl⟩ := hv
          refine m_iconst F (v := 1) (by decide) e_X10_readLine_175 ?_
          refine m_iadd F e_X10_readLine_176 ?_
          refine Wm.top (fun x15949 _ => ?_)
          refine r_put F (g' := (⟨T, Z, u, h, P15932, L⟩ : RG)) e_X10_readLine_177 fp_X10_202 h15946 (by decide) ⟨_, rfl⟩ (fun _ _ _ _ q => q) (fun _ _ _ q => q) rfl rfl (by decide) (fun σ15950 h15951 g15952 g15953 f15954 => ?_)
          exact m_vret F hQ e_X10_readLine_180 (⟨P15932, oP15932, (by unfold RP; omega), (by rw [eo15941]; show RM _ c n _ (.inl e8); exact RM.l ((g15953 23 (by decide)).trans fa15942) ((g15953 24 (by decide)).trans fb15943) (by omega) (by omega) (by omega)), (fun S2 hS _ => by rw [eo15941] at hS; cases hS), h15951, rfl⟩)
        · have c150 : e8.1 = 0 := (nI_eq (a := e8.1) (b := 0) (by omega) (by omega)).mp q150
          exact absurd q150 nz8
      | inr S1 =>
        rw [eo15941] at rm15940
        obtain ⟨⟨j1, j2, j3, j4⟩, nl3, nm3, np3, nc3, lc3, no3, sd3, md3, ln3⟩ := S1
        obtain ⟨so3, va3, fp3, mt3, yd3, ⟨pa3, p53, p73⟩, hN3, hM3, hK3, hF3, hG3, hQ3, c1, c2, c3, c4, c5⟩ := rm15940
        replace pa3 : _ = j4 := pa3
        replace c1 : j4 ≤ n := c1
        replace c2 : j1 ≤ n := c2
        have hyd15955 := yd3
        obtain ⟨yd15955, yd15956, yd15957, yd15958, yd15959, yd15960, yd15961⟩ := hyd15955
        refine m_goto F e_X10_readLine_139 ?_
        refine m_aload_n F rfl e_X10_readLine_146 ?_
        refine r_getC F e_X10_readLine_147 fl_X10_141 h15931 (yd15960) ?_
        refine m_if_ne F e_X10_readLine_150 (fun q => absurd (by decide) q) (fun _ => ?_)
        refine m_aload_n F rfl e_X10_readLine_153 ?_
        have hmt := mt3
        rcases hmt with ⟨rfl, rfl⟩ | ⟨rfl, rfl, rfl, hv3⟩ | ⟨rfl, rfl, rfl, hv3⟩ | ⟨rfl, rfl, w3, hw3, rfl, hm3⟩ | ⟨rfl, rfl⟩ | ⟨rfl, rfl⟩
        · refine r_getC F e_X10_readLine_154 fl_X10_110 h15931 (yd15958) ?_
          refine m_iconst F (v := 3) (by decide) e_X10_readLine_157 ?_
          refine m_icmp_eq F e_X10_readLine_158 (fun q => absurd q (by decide)) (fun _ => ?_)
          refine m_aload_n F rfl e_X10_readLine_161 ?_
          refine m_iconst F (v := 1) (by decide) e_X10_readLine_162 ?_
          refine r_callV F e_X10_readLine_163 (q_X10_wrongE (x_l X) V c T Z u h P15932 L _ _ 1 n j1 4 va3 ln3 fp3 h15931.1 (hob) oP15932 (by omega) ⟨(yd15955), (yd15956), (yd15957), (yd15958), (yd15959), (yd15960), (yd15961)⟩ (by decide)) cb_X10_wrong ml_X10_150 im_X10_wrong se_X10_wrong h15931 rfl rfl (rest := []) rfl (Nat.le_of_ble_eq_true rfl) ⟨Nat.le_of_ble_eq_true rfl, Nat.le_of_ble_eq_true rfl⟩ ⟨Nat.le_of_ble_eq_true rfl, Nat.le_of_ble_eq_true rfl⟩ (fun r σ15962 hp => ?_)
          obtain ⟨h15963, hp⟩ := hp
          have h15964 := HS.trans h15931 h15963 (by decide)
          have ga15965 := ga15934.of (h15963.2 (c + 1) (by rw [kC_at (k := 1) (by decide)]; decide))
          have ga15966 := hN3.of (h15963.2 (c + 2) (by rw [kC_at (k := 2) (by decide)]; decide))
          have ga15967 := hM3.of (h15963.2 (c + 3) (by rw [kC_at (k := 3) (by decide)]; decide))
          have ga15968 := hK3.of (h15963.2 (c + 7) (by rw [kC_at (k := 7) (by decide)]; decide))
          have ga15969 := hF3.of (h15963.2 (c + 8) (by rw [kC_at (k := 8) (by decide)]; decide))
          have ga15970 := hG3.of (h15963.2 (c + 9) (by rw [kC_at (k := 9) (by decide)]; decide))
          have ga15971 := hQ3.of (h15963.2 (c + 11) (by rw [kC_at (k := 11) (by decide)]; decide))
          obtain ⟨hp, rfl⟩ := hp
          have hyd15972 := hp
          obtain ⟨yd15972, yd15973, yd15974, yd15975, yd15976, yd15977, yd15978⟩ := hyd15972
          refine m_aload_n F rfl e_X10_readLine_166 ?_
          refine r_callV F e_X10_readLine_167 (q_X10_goOnG (x_l X) V c T 0 u h P15932 L _ _  1 h15964.1 (hob) oP15932  (yd15977) (by decide)) cb_X10_goOn ml_X10_154 im_X10_goOn se_X10_goOn h15964 rfl rfl (rest := []) rfl (Nat.le_of_ble_eq_true rfl) ⟨Nat.le_of_ble_eq_true rfl, Nat.le_of_ble_eq_true rfl⟩ ⟨Nat.le_of_ble_eq_true rfl, Nat.le_of_ble_eq_true rfl⟩ (fun r σ15979 hp => ?_)
          obtain ⟨h15980, hp⟩ := hp
          have h15981 := HS.trans h15964 h15980 (by decide)
          have ga15982 := ga15965.of (h15980.2 (c + 1) (by rw [kC_at (k := 1) (by decide)]; decide))
          have ga15983 := ga15966.of (h15980.2 (c + 2) (by rw [kC_at (k := 2) (by decide)]; decide))
          have ga15984 := ga15967.of (h15980.2 (c + 3) (by rw [kC_at (k := 3) (by decide)]; decide))
          have ga15985 := ga15968.of (h15980.2 (c + 7) (by rw [kC_at (k := 7) (by decide)]; decide))
          have ga15986 := ga15969.of (h15980.2 (c + 8) (by rw [kC_at (k := 8) (by decide)]; decide))
          have ga15987 := ga15970.of (h15980.2 (c + 9) (by rw [kC_at (k := 9) (by decide)]; decide))
          have ga15988 := ga15971.of (h15980.2 (c + 11) (by rw [kC_at (k := 11) (by decide)]; decide))
          obtain ⟨rfl, rfl⟩ := hp
          refine m_aload_n F rfl e_X10_readLine_170 ?_
          refine m_dup F rfl e_X10_readLine_171 ?_
          refine r_getC F e_X10_readLine_172 fl_X10_202 h15981 (yd15972) ?_
          refine m_iconst F (v := 1) (by decide) e_X10_readLine_175 ?_
          refine m_iadd F e_X10_readLine_176 ?_
          refine Wm.topE (w := nI (ln3 + 1)) (nI_add ln3 1) ?_
          refine r_put F (g' := (⟨T, 0, u, h, P15932, L⟩ : RG)) e_X10_readLine_177 fp_X10_202 h15981 (by decide) ⟨_, rfl⟩ (fun _ _ _ _ q => q) (fun _ _ _ q => q) rfl rfl (by decide) (fun σ15989 h15990 g15991 g15992 f15993 => ?_)
          have ga15994 := ga15965.of (g15991 _ (by omega))
          have ga15995 := ga15966.of (g15991 _ (by omega))
          have ga15996 := ga15967.of (g15991 _ (by omega))
          have ga15997 := ga15968.of (g15991 _ (by omega))
          have ga15998 := ga15969.of (g15991 _ (by omega))
          have ga15999 := ga15970.of (g15991 _ (by omega))
          have ga16000 := ga15971.of (g15991 _ (by omega))
          have h16001 : HS V c _ [0, 2, 17, 18, 19, 20, 21, 22, 23] _ _ := ⟨HR.mono (Z' := Z) (by intro e; first | rfl | assumption | omega) h15990.1, h15990.2⟩
          exact m_vret F hQ e_X10_readLine_180 (⟨P15932, oP15932, (by unfold RP; omega), (by rw [eo15941]; show RM _ c n _ (stopS (tok t n) (j1, 0, j3, j4) nl3 nm3 np3 nc3 lc3 no3 sd3 md3 ln3); rw [stopS_1 (by decide)]; exact RM.l ((g15992 23 (by decide)).trans yd15977) ((g15992 24 (by decide)).trans yd15978) (by omega) (by omega) (by omega)), (fun S2 hS _ => by rw [eo15941] at hS; replace hS : stopS (tok t n) (j1, 0, j3, j4) nl3 nm3 np3 nc3 lc3 no3 sd3 md3 ln3 = .inr S2 := hS; rw [stopS_1 (by decide)] at hS; cases hS), h16001, rfl⟩)
        · refine r_getC F e_X10_readLine_154 fl_X10_110 h15931 (yd15958) ?_
          refine m_iconst F (v := 3) (by decide) e_X10_readLine_157 ?_
          refine m_icmp_eq F e_X10_readLine_158 (fun q => absurd q (by decide)) (fun _ => ?_)
          refine m_aload_n F rfl e_X10_readLine_161 ?_
          refine m_iconst F (v := 1) (by decide) e_X10_readLine_162 ?_
          refine r_callV F e_X10_readLine_163 (q_X10_wrongE (x_l X) V c T Z u h P15932 L _ _ 1 n j1 0 (nI j3) ln3 fp3 h15931.1 (hob) oP15932 (by omega) ⟨(yd15955), (yd15956), (yd15957), (yd15958), (yd15959), (yd15960), (yd15961)⟩ (by decide)) cb_X10_wrong ml_X10_150 im_X10_wrong se_X10_wrong h15931 rfl rfl (rest := []) rfl (Nat.le_of_ble_eq_true rfl) ⟨Nat.le_of_ble_eq_true rfl, Nat.le_of_ble_eq_true rfl⟩ ⟨Nat.le_of_ble_eq_true rfl, Nat.le_of_ble_eq_true rfl⟩ (fun r σ16002 hp => ?_)
          obtain ⟨h16003, hp⟩ := hp
          have h16004 := HS.trans h15931 h16003 (by decide)
          have ga16005 := ga15934.of (h16003.2 (c + 1) (by rw [kC_at (k := 1) (by decide)]; decide))
          have ga16006 := hN3.of (h16003.2 (c + 2) (by rw [kC_at (k := 2) (by decide)]; decide))
          have ga16007 := hM3.of (h16003.2 (c + 3) (by rw [kC_at (k := 3) (by decide)]; decide))
          have ga16008 := hK3.of (h16003.2 (c + 7) (by rw [kC_at (k := 7) (by decide)]; decide))
          have ga16009 := hF3.of (h16003.2 (c + 8) (by rw [kC_at (k := 8) (by decide)]; decide))
          have ga16010 := hG3.of (h16003.2 (c + 9) (by rw [kC_at (k := 9) (by decide)]; decide))
          have ga16011 := hQ3.of (h16003.2 (c + 11) (by rw [kC_at (k := 11) (by decide)]; decide))
          obtain ⟨hp, rfl⟩ := hp
          have hyd16012 := hp
          obtain ⟨yd16012, yd16013, yd16014, yd16015, yd16016, yd16017, yd16018⟩ := hyd16012
          refine m_aload_n F rfl e_X10_readLine_166 ?_
          refine r_callV F e_X10_readLine_167 (q_X10_goOnG (x_l X) V c T 0 u h P15932 L _ _  1 h16004.1 (hob) oP15932  (yd16017) (by decide)) cb_X10_goOn ml_X10_154 im_X10_goOn se_X10_goOn h16004 rfl rfl (rest := []) rfl (Nat.le_of_ble_eq_true rfl) ⟨Nat.le_of_ble_eq_true rfl, Nat.le_of_ble_eq_true rfl⟩ ⟨Nat.le_of_ble_eq_true rfl, Nat.le_of_ble_eq_true rfl⟩ (fun r σ16019 hp => ?_)
          obtain ⟨h16020, hp⟩ := hp
          have h16021 := HS.trans h16004 h16020 (by decide)
          have ga16022 := ga16005.of (h16020.2 (c + 1) (by rw [kC_at (k := 1) (by decide)]; decide))
          have ga16023 := ga16006.of (h16020.2 (c + 2) (by rw [kC_at (k := 2) (by decide)]; decide))
          have ga16024 := ga16007.of (h16020.2 (c + 3) (by rw [kC_at (k := 3) (by decide)]; decide))
          have ga16025 := ga16008.of (h16020.2 (c + 7) (by rw [kC_at (k := 7) (by decide)]; decide))
          have ga16026 := ga16009.of (h16020.2 (c + 8) (by rw [kC_at (k := 8) (by decide)]; decide))
          have ga16027 := ga16010.of (h16020.2 (c + 9) (by rw [kC_at (k := 9) (by decide)]; decide))
          have ga16028 := ga16011.of (h16020.2 (c + 11) (by rw [kC_at (k := 11) (by decide)]; decide))
          obtain ⟨rfl, rfl⟩ := hp
          refine m_aload_n F rfl e_X10_readLine_170 ?_
          refine m_dup F rfl e_X10_readLine_171 ?_
          refine r_getC F e_X10_readLine_172 fl_X10_202 h16021 (yd16012) ?_
          refine m_iconst F (v := 1) (by decide) e_X10_readLine_175 ?_
          refine m_iadd F e_X10_readLine_176 ?_
          refine Wm.topE (w := nI (ln3 + 1)) (nI_add ln3 1) ?_
          refine r_put F (g' := (⟨T, 0, u, h, P15932, L⟩ : RG)) e_X10_readLine_177 fp_X10_202 h16021 (by decide) ⟨_, rfl⟩ (fun _ _ _ _ q => q) (fun _ _ _ q => q) rfl rfl (by decide) (fun σ16029 h16030 g16031 g16032 f16033 => ?_)
          have ga16034 := ga16005.of (g16031 _ (by omega))
          have ga16035 := ga16006.of (g16031 _ (by omega))
          have ga16036 := ga16007.of (g16031 _ (by omega))
          have ga16037 := ga16008.of (g16031 _ (by omega))
          have ga16038 := ga16009.of (g16031 _ (by omega))
          have ga16039 := ga16010.of (g16031 _ (by omega))
          have ga16040 := ga16011.of (g16031 _ (by omega))
          have h16041 : HS V c _ [0, 2, 17, 18, 19, 20, 21, 22, 23] _ _ := ⟨HR.mono (Z' := Z) (by intro e; first | rfl | assumption | omega) h16030.1, h16030.2⟩
          exact m_vret F hQ e_X10_readLine_180 (⟨P15932, oP15932, (by unfold RP; omega), (by rw [eo15941]; show RM _ c n _ (stopS (tok t n) (j1, 1, j3, j4) nl3 nm3 np3 nc3 lc3 no3 sd3 md3 ln3); rw [stopS_1 (by decide)]; exact RM.l ((g16032 23 (by decide)).trans yd16017) ((g16032 24 (by decide)).trans yd16018) (by omega) (by omega) (by omega)), (fun S2 hS _ => by rw [eo15941] at hS; replace hS : stopS (tok t n) (j1, 1, j3, j4) nl3 nm3 np3 nc3 lc3 no3 sd3 md3 ln3 = .inr S2 := hS; rw [stopS_1 (by decide)] at hS; cases hS), h16041, rfl⟩)
        · refine r_getC F e_X10_readLine_154 fl_X10_110 h15931 (yd15958) ?_
          refine m_iconst F (v := 3) (by decide) e_X10_readLine_157 ?_
          refine m_icmp_eq F e_X10_readLine_158 (fun q => absurd q (by decide)) (fun _ => ?_)
          refine m_aload_n F rfl e_X10_readLine_161 ?_
          refine m_iconst F (v := 1) (by decide) e_X10_readLine_162 ?_
          refine r_callV F e_X10_readLine_163 (q_X10_wrongE (x_l X) V c T Z u h P15932 L _ _ 1 n j1 1 (nI j3) ln3 fp3 h15931.1 (hob) oP15932 (by omega) ⟨(yd15955), (yd15956), (yd15957), (yd15958), (yd15959), (yd15960), (yd15961)⟩ (by decide)) cb_X10_wrong ml_X10_150 im_X10_wrong se_X10_wrong h15931 rfl rfl (rest := []) rfl (Nat.le_of_ble_eq_true rfl) ⟨Nat.le_of_ble_eq_true rfl, Nat.le_of_ble_eq_true rfl⟩ ⟨Nat.le_of_ble_eq_true rfl, Nat.le_of_ble_eq_true rfl⟩ (fun r σ16042 hp => ?_)
          obtain ⟨h16043, hp⟩ := hp
          have h16044 := HS.trans h15931 h16043 (by decide)
          have ga16045 := ga15934.of (h16043.2 (c + 1) (by rw [kC_at (k := 1) (by decide)]; decide))
          have ga16046 := hN3.of (h16043.2 (c + 2) (by rw [kC_at (k := 2) (by decide)]; decide))
          have ga16047 := hM3.of (h16043.2 (c + 3) (by rw [kC_at (k := 3) (by decide)]; decide))
          have ga16048 := hK3.of (h16043.2 (c + 7) (by rw [kC_at (k := 7) (by decide)]; decide))
          have ga16049 := hF3.of (h16043.2 (c + 8) (by rw [kC_at (k := 8) (by decide)]; decide))
          have ga16050 := hG3.of (h16043.2 (c + 9) (by rw [kC_at (k := 9) (by decide)]; decide))
          have ga16051 := hQ3.of (h16043.2 (c + 11) (by rw [kC_at (k := 11) (by decide)]; decide))
          obtain ⟨hp, rfl⟩ := hp
          have hyd16052 := hp
          obtain ⟨yd16052, yd16053, yd16054, yd16055, yd16056, yd16057, yd16058⟩ := hyd16052
          refine m_aload_n F rfl e_X10_readLine_166 ?_
          refine r_callV F e_X10_readLine_167 (q_X10_goOnG (x_l X) V c T 0 u h P15932 L _ _  1 h16044.1 (hob) oP15932  (yd16057) (by decide)) cb_X10_goOn ml_X10_154 im_X10_goOn se_X10_goOn h16044 rfl rfl (rest := []) rfl (Nat.le_of_ble_eq_true rfl) ⟨Nat.le_of_ble_eq_true rfl, Nat.le_of_ble_eq_true rfl⟩ ⟨Nat.le_of_ble_eq_true rfl, Nat.le_of_ble_eq_true rfl⟩ (fun r σ16059 hp => ?_)
          obtain ⟨h16060, hp⟩ := hp
          have h16061 := HS.trans h16044 h16060 (by decide)
          have ga16062 := ga16045.of (h16060.2 (c + 1) (by rw [kC_at (k := 1) (by decide)]; decide))
          have ga16063 := ga16046.of (h16060.2 (c + 2) (by rw [kC_at (k := 2) (by decide)]; decide))
          have ga16064 := ga16047.of (h16060.2 (c + 3) (by rw [kC_at (k := 3) (by decide)]; decide))
          have ga16065 := ga16048.of (h16060.2 (c + 7) (by rw [kC_at (k := 7) (by decide)]; decide))
          have ga16066 := ga16049.of (h16060.2 (c + 8) (by rw [kC_at (k := 8) (by decide)]; decide))
          have ga16067 := ga16050.of (h16060.2 (c + 9) (by rw [kC_at (k := 9) (by decide)]; decide))
          have ga16068 := ga16051.of (h16060.2 (c + 11) (by rw [kC_at (k := 11) (by decide)]; decide))
          obtain ⟨rfl, rfl⟩ := hp
          refine m_aload_n F rfl e_X10_readLine_170 ?_
          refine m_dup F rfl e_X10_readLine_171 ?_
          refine r_getC F e_X10_readLine_172 fl_X10_202 h16061 (yd16052) ?_
          refine m_iconst F (v := 1) (by decide) e_X10_readLine_175 ?_
          refine m_iadd F e_X10_readLine_176 ?_
          refine Wm.topE (w := nI (ln3 + 1)) (nI_add ln3 1) ?_
          refine r_put F (g' := (⟨T, 0, u, h, P15932, L⟩ : RG)) e_X10_readLine_177 fp_X10_202 h16061 (by decide) ⟨_, rfl⟩ (fun _ _ _ _ q => q) (fun _ _ _ q => q) rfl rfl (by decide) (fun σ16069 h16070 g16071 g16072 f16073 => ?_)
          have ga16074 := ga16045.of (g16071 _ (by omega))
          have ga16075 := ga16046.of (g16071 _ (by omega))
          have ga16076 := ga16047.of (g16071 _ (by omega))
          have ga16077 := ga16048.of (g16071 _ (by omega))
          have ga16078 := ga16049.of (g16071 _ (by omega))
          have ga16079 := ga16050.of (g16071 _ (by omega))
          have ga16080 := ga16051.of (g16071 _ (by omega))
          have h16081 : HS V c _ [0, 2, 17, 18, 19, 20, 21, 22, 23] _ _ := ⟨HR.mono (Z' := Z) (by intro e; first | rfl | assumption | omega) h16070.1, h16070.2⟩
          exact m_vret F hQ e_X10_readLine_180 (⟨P15932, oP15932, (by unfold RP; omega), (by rw [eo15941]; show RM _ c n _ (stopS (tok t n) (j1, 2, j3, j4) nl3 nm3 np3 nc3 lc3 no3 sd3 md3 ln3); rw [stopS_1 (by decide)]; exact RM.l ((g16072 23 (by decide)).trans yd16057) ((g16072 24 (by decide)).trans yd16058) (by omega) (by omega) (by omega)), (fun S2 hS _ => by rw [eo15941] at hS; replace hS : stopS (tok t n) (j1, 2, j3, j4) nl3 nm3 np3 nc3 lc3 no3 sd3 md3 ln3 = .inr S2 := hS; rw [stopS_1 (by decide)] at hS; cases hS), h16081, rfl⟩)
        · refine r_getC F e_X10_readLine_154 fl_X10_110 h15931 (yd15958) ?_
          refine m_iconst F (v := 3) (by decide) e_X10_readLine_157 ?_
          refine m_icmp_eq F e_X10_readLine_158 (fun q => absurd q (by decide)) (fun _ => ?_)
          refine m_aload_n F rfl e_X10_readLine_161 ?_
          refine m_iconst F (v := 1) (by decide) e_X10_readLine_162 ?_
          refine r_callV F e_X10_readLine_163 (q_X10_wrongE (x_l X) V c T Z u h P15932 L _ _ 1 n j1 2 (nI w3) ln3 fp3 h15931.1 (hob) oP15932 (by omega) ⟨(yd15955), (yd15956), (yd15957), (yd15958), (yd15959), (yd15960), (yd15961)⟩ (by decide)) cb_X10_wrong ml_X10_150 im_X10_wrong se_X10_wrong h15931 rfl rfl (rest := []) rfl (Nat.le_of_ble_eq_true rfl) ⟨Nat.le_of_ble_eq_true rfl, Nat.le_of_ble_eq_true rfl⟩ ⟨Nat.le_of_ble_eq_true rfl, Nat.le_of_ble_eq_true rfl⟩ (fun r σ16082 hp => ?_)
          obtain ⟨h16083, hp⟩ := hp
          have h16084 := HS.trans h15931 h16083 (by decide)
          have ga16085 := ga15934.of (h16083.2 (c + 1) (by rw [kC_at (k := 1) (by decide)]; decide))
          have ga16086 := hN3.of (h16083.2 (c + 2) (by rw [kC_at (k := 2) (by decide)]; decide))
          have ga16087 := hM3.of (h16083.2 (c + 3) (by rw [kC_at (k := 3) (by decide)]; decide))
          have ga16088 := hK3.of (h16083.2 (c + 7) (by rw [kC_at (k := 7) (by decide)]; decide))
          have ga16089 := hF3.of (h16083.2 (c + 8) (by rw [kC_at (k := 8) (by decide)]; decide))
          have ga16090 := hG3.of (h16083.2 (c + 9) (by rw [kC_at (k := 9) (by decide)]; decide))
          have ga16091 := hQ3.of (h16083.2 (c + 11) (by rw [kC_at (k := 11) (by decide)]; decide))
          obtain ⟨hp, rfl⟩ := hp
          have hyd16092 := hp
          obtain ⟨yd16092, yd16093, yd16094, yd16095, yd16096, yd16097, yd16098⟩ := hyd16092
          refine m_aload_n F rfl e_X10_readLine_166 ?_
          refine r_callV F e_X10_readLine_167 (q_X10_goOnG (x_l X) V c T 0 u h P15932 L _ _  1 h16084.1 (hob) oP15932  (yd16097) (by decide)) cb_X10_goOn ml_X10_154 im_X10_goOn se_X10_goOn h16084 rfl rfl (rest := []) rfl (Nat.le_of_ble_eq_true rfl) ⟨Nat.le_of_ble_eq_true rfl, Nat.le_of_ble_eq_true rfl⟩ ⟨Nat.le_of_ble_eq_true rfl, Nat.le_of_ble_eq_true rfl⟩ (fun r σ16099 hp => ?_)
          obtain ⟨h16100, hp⟩ := hp
          have h16101 := HS.trans h16084 h16100 (by decide)
          have ga16102 := ga16085.of (h16100.2 (c + 1) (by rw [kC_at (k := 1) (by decide)]; decide))
          have ga16103 := ga16086.of (h16100.2 (c + 2) (by rw [kC_at (k := 2) (by decide)]; decide))
          have ga16104 := ga16087.of (h16100.2 (c + 3) (by rw [kC_at (k := 3) (by decide)]; decide))
          have ga16105 := ga16088.of (h16100.2 (c + 7) (by rw [kC_at (k := 7) (by decide)]; decide))
          have ga16106 := ga16089.of (h16100.2 (c + 8) (by rw [kC_at (k := 8) (by decide)]; decide))
          have ga16107 := ga16090.of (h16100.2 (c + 9) (by rw [kC_at (k := 9) (by decide)]; decide))
          have ga16108 := ga16091.of (h16100.2 (c + 11) (by rw [kC_at (k := 11) (by decide)]; decide))
          obtain ⟨rfl, rfl⟩ := hp
          refine m_aload_n F rfl e_X10_readLine_170 ?_
          refine m_dup F rfl e_X10_readLine_171 ?_
          refine r_getC F e_X10_readLine_172 fl_X10_202 h16101 (yd16092) ?_
          refine m_iconst F (v := 1) (by decide) e_X10_readLine_175 ?_
          refine m_iadd F e_X10_readLine_176 ?_
          refine Wm.topE (w := nI (ln3 + 1)) (nI_add ln3 1) ?_
          refine r_put F (g' := (⟨T, 0, u, h, P15932, L⟩ : RG)) e_X10_readLine_177 fp_X10_202 h16101 (by decide) ⟨_, rfl⟩ (fun _ _ _ _ q => q) (fun _ _ _ q => q) rfl rfl (by decide) (fun σ16109 h16110 g16111 g16112 f16113 => ?_)
          have ga16114 := ga16085.of (g16111 _ (by omega))
          have ga16115 := ga16086.of (g16111 _ (by omega))
          have ga16116 := ga16087.of (g16111 _ (by omega))
          have ga16117 := ga16088.of (g16111 _ (by omega))
          have ga16118 := ga16089.of (g16111 _ (by omega))
          have ga16119 := ga16090.of (g16111 _ (by omega))
          have ga16120 := ga16091.of (g16111 _ (by omega))
          have h16121 : HS V c _ [0, 2, 17, 18, 19, 20, 21, 22, 23] _ _ := ⟨HR.mono (Z' := Z) (by intro e; first | rfl | assumption | omega) h16110.1, h16110.2⟩
          exact m_vret F hQ e_X10_readLine_180 (⟨P15932, oP15932, (by unfold RP; omega), (by rw [eo15941]; show RM _ c n _ (stopS (tok t n) (j1, 3, j3, j4) nl3 nm3 np3 nc3 lc3 no3 sd3 md3 ln3); rw [stopS_1 (by decide)]; exact RM.l ((g16112 23 (by decide)).trans yd16097) ((g16112 24 (by decide)).trans yd16098) (by omega) (by omega) (by omega)), (fun S2 hS _ => by rw [eo15941] at hS; replace hS : stopS (tok t n) (j1, 3, j3, j4) nl3 nm3 np3 nc3 lc3 no3 sd3 md3 ln3 = .inr S2 := hS; rw [stopS_1 (by decide)] at hS; cases hS), h16121, rfl⟩)
        · refine r_getC F e_X10_readLine_154 fl_X10_110 h15931 (yd15958) ?_
          refine m_iconst F (v := 3) (by decide) e_X10_readLine_157 ?_
          refine m_icmp_eq F e_X10_readLine_158 (fun _ => ?_) (fun q => absurd (by decide) q)
          refine m_aload_n F rfl e_X10_readLine_166 ?_
          refine r_callV F e_X10_readLine_167 (q_X10_goOnE (x_l X) V c T Z u h P15932 L _ _  n j1 3 va3 ln3 fp3 t h15931.1 (hob) oP15932  ⟨(yd15955), (yd15956), (yd15957), (yd15958), (yd15959), (yd15960), (yd15961)⟩ ga15934 hn7 (by omega)) cb_X10_goOn ml_X10_154 im_X10_goOn se_X10_goOn h15931 rfl rfl (rest := []) rfl (Nat.le_of_ble_eq_true rfl) ⟨Nat.le_of_ble_eq_true rfl, Nat.le_of_ble_eq_true rfl⟩ ⟨Nat.le_of_ble_eq_true rfl, Nat.le_of_ble_eq_true rfl⟩ (fun r σ16122 hp => ?_)
          obtain ⟨P16125, oP16125, rP16125, pr16126, pr16127, h16123, hp⟩ := hp
          have h16124 := HS.trans h15931 h16123 (by decide)
          have xP16125 := oP16125
          unfold OKP at xP16125
          unfold RA at rP16125
          have ga16128 := ga15934.of (h16123.2 (c + 1) (by rw [kC_at (k := 1) (by decide)]; decide))
          have ga16129 := hN3.of (h16123.2 (c + 2) (by rw [kC_at (k := 2) (by decide)]; decide))
          have ga16130 := hM3.of (h16123.2 (c + 3) (by rw [kC_at (k := 3) (by decide)]; decide))
          have ga16131 := hK3.of (h16123.2 (c + 7) (by rw [kC_at (k := 7) (by decide)]; decide))
          have ga16132 := hF3.of (h16123.2 (c + 8) (by rw [kC_at (k := 8) (by decide)]; decide))
          have ga16133 := hG3.of (h16123.2 (c + 9) (by rw [kC_at (k := 9) (by decide)]; decide))
          have ga16134 := hQ3.of (h16123.2 (c + 11) (by rw [kC_at (k := 11) (by decide)]; decide))
          obtain rfl := hp
          rw [pa3] at pr16126 pr16127
          have b8 := tok_ok (t := t) (n := n) j4 c1
          obtain ⟨so16135, va16136, mt16137, yd16138⟩ := pr16127
          have hyd16139 := yd16138
          obtain ⟨yd16139, yd16140, yd16141, yd16142, yd16143, yd16144, yd16145⟩ := hyd16139
          refine m_aload_n F rfl e_X10_readLine_170 ?_
          refine m_dup F rfl e_X10_readLine_171 ?_
          refine r_getC F e_X10_readLine_172 fl_X10_202 h16124 (yd16139) ?_
          refine m_iconst F (v := 1) (by decide) e_X10_readLine_175 ?_
          refine m_iadd F e_X10_readLine_176 ?_
          refine Wm.topE (w := nI (ln3 + 1)) (nI_add ln3 1) ?_
          refine r_put F (g' := (⟨T, Z, u, h, P16125, L⟩ : RG)) e_X10_readLine_177 fp_X10_202 h16124 (by decide) ⟨_, rfl⟩ (fun _ _ _ _ q => q) (fun _ _ _ q => q) rfl rfl (by decide) (fun σ16146 h16147 g16148 g16149 f16150 => ?_)
          have ga16151 := ga16128.of (g16148 _ (by omega))
          have ga16152 := ga16129.of (g16148 _ (by omega))
          have ga16153 := ga16130.of (g16148 _ (by omega))
          have ga16154 := ga16131.of (g16148 _ (by omega))
          have ga16155 := ga16132.of (g16148 _ (by omega))
          have ga16156 := ga16133.of (g16148 _ (by omega))
          have ga16157 := ga16134.of (g16148 _ (by omega))
          exact m_vret F hQ e_X10_readLine_180 (⟨P16125, oP16125, (by unfold RP; omega), (by rw [eo15941]; show RM _ c n _ (stopS (tok t n) (j1, 4, j3, j4) nl3 nm3 np3 nc3 lc3 no3 sd3 md3 ln3); rw [stopS_ok]; exact RM.r mt16137 ⟨(f16150), ((g16149 18 (by decide)).trans yd16140), ((g16149 20 (by decide)).trans yd16141), ((g16149 21 (by decide)).trans yd16142), ((g16149 22 (by decide)).trans yd16143), ((g16149 23 (by decide)).trans yd16144), ((g16149 24 (by decide)).trans yd16145)⟩ (by omega) (by omega) (by omega) ga16152 ga16153 ga16154 ga16155 ga16156 ga16157 (by omega) (by omega) (by omega) (by omega) (by omega)), (fun S2 hS hz => by rw [eo15941] at hS; replace hS : stopS (tok t n) (j1, 4, j3, j4) nl3 nm3 np3 nc3 lc3 no3 sd3 md3 ln3 = .inr S2 := hS; rw [stopS_ok] at hS; cases hS; replace hz : (tok t n j4).2.1 ≠ 0 := hz; have h8 := b8.2.2.2 hz; omega), h16147, rfl⟩)
        · refine r_getC F e_X10_readLine_154 fl_X10_110 h15931 (yd15958) ?_
          refine m_iconst F (v := 3) (by decide) e_X10_readLine_157 ?_
          refine m_icmp_eq F e_X10_readLine_158 (fun q => absurd q (by decide)) (fun _ => ?_)
          refine m_aload_n F rfl e_X10_readLine_161 ?_
          refine m_iconst F (v := 1) (by decide) e_X10_readLine_162 ?_
          refine r_callV F e_X10_readLine_163 (q_X10_wrongE (x_l X) V c T Z u h P15932 L _ _ 1 n j1 5 va3 ln3 fp3 h15931.1 (hob) oP15932 (by omega) ⟨(yd15955), (yd15956), (yd15957), (yd15958), (yd15959), (yd15960), (yd15961)⟩ (by decide)) cb_X10_wrong ml_X10_150 im_X10_wrong se_X10_wrong h15931 rfl rfl (rest := []) rfl (Nat.le_of_ble_eq_true rfl) ⟨Nat.le_of_ble_eq_true rfl, Nat.le_of_ble_eq_true rfl⟩ ⟨Nat.le_of_ble_eq_true rfl, Nat.le_of_ble_eq_true rfl⟩ (fun r σ16158 hp => ?_)
          obtain ⟨h16159, hp⟩ := hp
          have h16160 := HS.trans h15931 h16159 (by decide)
          have ga16161 := ga15934.of (h16159.2 (c + 1) (by rw [kC_at (k := 1) (by decide)]; decide))
          have ga16162 := hN3.of (h16159.2 (c + 2) (by rw [kC_at (k := 2) (by decide)]; decide))
          have ga16163 := hM3.of (h16159.2 (c + 3) (by rw [kC_at (k := 3) (by decide)]; decide))
          have ga16164 := hK3.of (h16159.2 (c + 7) (by rw [kC_at (k := 7) (by decide)]; decide))
          have ga16165 := hF3.of (h16159.2 (c + 8) (by rw [kC_at (k := 8) (by decide)]; decide))
          have ga16166 := hG3.of (h16159.2 (c + 9) (by rw [kC_at (k := 9) (by decide)]; decide))
          have ga16167 := hQ3.of (h16159.2 (c + 11) (by rw [kC_at (k := 11) (by decide)]; decide))
          obtain ⟨hp, rfl⟩ := hp
          have hyd16168 := hp
          obtain ⟨yd16168, yd16169, yd16170, yd16171, yd16172, yd16173, yd16174⟩ := hyd16168
          refine m_aload_n F rfl e_X10_readLine_166 ?_
          refine r_callV F e_X10_readLine_167 (q_X10_goOnG (x_l X) V c T 0 u h P15932 L _ _  1 h16160.1 (hob) oP15932  (yd16173) (by decide)) cb_X10_goOn ml_X10_154 im_X10_goOn se_X10_goOn h16160 rfl rfl (rest := []) rfl (Nat.le_of_ble_eq_true rfl) ⟨Nat.le_of_ble_eq_true rfl, Nat.le_of_ble_eq_true rfl⟩ ⟨Nat.le_of_ble_eq_true rfl, Nat.le_of_ble_eq_true rfl⟩ (fun r σ16175 hp => ?_)
          obtain ⟨h16176, hp⟩ := hp
          have h16177 := HS.trans h16160 h16176 (by decide)
          have ga16178 := ga16161.of (h16176.2 (c + 1) (by rw [kC_at (k := 1) (by decide)]; decide))
          have ga16179 := ga16162.of (h16176.2 (c + 2) (by rw [kC_at (k := 2) (by decide)]; decide))
          have ga16180 := ga16163.of (h16176.2 (c + 3) (by rw [kC_at (k := 3) (by decide)]; decide))
          have ga16181 := ga16164.of (h16176.2 (c + 7) (by rw [kC_at (k := 7) (by decide)]; decide))
          have ga16182 := ga16165.of (h16176.2 (c + 8) (by rw [kC_at (k := 8) (by decide)]; decide))
          have ga16183 := ga16166.of (h16176.2 (c + 9) (by rw [kC_at (k := 9) (by decide)]; decide))
          have ga16184 := ga16167.of (h16176.2 (c + 11) (by rw [kC_at (k := 11) (by decide)]; decide))
          obtain ⟨rfl, rfl⟩ := hp
          refine m_aload_n F rfl e_X10_readLine_170 ?_
          refine m_dup F rfl e_X10_readLine_171 ?_
          refine r_getC F e_X10_readLine_172 fl_X10_202 h16177 (yd16168) ?_
          refine m_iconst F (v := 1) (by decide) e_X10_readLine_175 ?_
          refine m_iadd F e_X10_readLine_176 ?_
          refine Wm.topE (w := nI (ln3 + 1)) (nI_add ln3 1) ?_
          refine r_put F (g' := (⟨T, 0, u, h, P15932, L⟩ : RG)) e_X10_readLine_177 fp_X10_202 h16177 (by decide) ⟨_, rfl⟩ (fun _ _ _ _ q => q) (fun _ _ _ q => q) rfl rfl (by decide) (fun σ16185 h16186 g16187 g16188 f16189 => ?_)
          have ga16190 := ga16161.of (g16187 _ (by omega))
          have ga16191 := ga16162.of (g16187 _ (by omega))
          have ga16192 := ga16163.of (g16187 _ (by omega))
          have ga16193 := ga16164.of (g16187 _ (by omega))
          have ga16194 := ga16165.of (g16187 _ (by omega))
          have ga16195 := ga16166.of (g16187 _ (by omega))
          have ga16196 := ga16167.of (g16187 _ (by omega))
          have h16197 : HS V c _ [0, 2, 17, 18, 19, 20, 21, 22, 23] _ _ := ⟨HR.mono (Z' := Z) (by intro e; first | rfl | assumption | omega) h16186.1, h16186.2⟩
          exact m_vret F hQ e_X10_readLine_180 (⟨P15932, oP15932, (by unfold RP; omega), (by rw [eo15941]; show RM _ c n _ (stopS (tok t n) (j1, 5, j3, j4) nl3 nm3 np3 nc3 lc3 no3 sd3 md3 ln3); rw [stopS_1 (by decide)]; exact RM.l ((g16188 23 (by decide)).trans yd16173) ((g16188 24 (by decide)).trans yd16174) (by omega) (by omega) (by omega)), (fun S2 hS _ => by rw [eo15941] at hS; replace hS : stopS (tok t n) (j1, 5, j3, j4) nl3 nm3 np3 nc3 lc3 no3 sd3 md3 ln3 = .inr S2 := hS; rw [stopS_1 (by decide)] at hS; cases hS), h16197, rfl⟩)
    · refine r_getC F e_X10_readLine_1 fl_X10_110 h1 (yd14007) ?_
      refine m_if_eq F e_X10_readLine_4 (fun _ => ?_) (fun q => absurd (by decide) q)
      refine m_aload_n F rfl e_X10_readLine_15 ?_
      refine r_getC F e_X10_readLine_16 fl_X10_120 h1 (yd14008) ?_
      refine m_if_ne F e_X10_readLine_19 (fun _ => ?_) (fun q => absurd q (by decide))
      refine m_aload_n F rfl e_X10_readLine_29 ?_
      refine r_getC F e_X10_readLine_30 fl_X10_120 h1 (yd14008) ?_
      refine m_iconst F (v := 1) (by decide) e_X10_readLine_33 ?_
      refine m_icmp_ne F e_X10_readLine_34 (fun _ => ?_) (fun q => absurd q (by decide))
      refine m_aload_n F rfl e_X10_readLine_44 ?_
      refine r_getC F e_X10_readLine_45 fl_X10_120 h1 (yd14008) ?_
      refine m_iconst F (v := 2) (by decide) e_X10_readLine_48 ?_
      refine m_icmp_eq F e_X10_readLine_49 (fun q => absurd q (by decide)) (fun _ => ?_)
      refine m_aload_n F rfl e_X10_readLine_52 ?_
      refine r_getC F e_X10_readLine_53 fl_X10_120 h1 (yd14008) ?_
      refine m_iconst F (v := 5) (by decide) e_X10_readLine_56 ?_
      refine m_icmp_ne F e_X10_readLine_57 (fun _ => ?_) (fun q => absurd q (by decide))
      refine m_aload_n F rfl e_X10_readLine_80 ?_
      refine r_getC F e_X10_readLine_81 fl_X10_120 h1 (yd14008) ?_
      refine m_iconst F (v := 3) (by decide) e_X10_readLine_84 ?_
      refine m_icmp_ne F e_X10_readLine_85 (fun _ => ?_) (fun q => absurd q (by decide))
      refine m_aload_n F rfl e_X10_readLine_95 ?_
      refine r_getC F e_X10_readLine_96 fl_X10_120 h1 (yd14008) ?_
      refine m_iconst F (v := 4) (by decide) e_X10_readLine_99 ?_
      refine m_icmp_ne F e_X10_readLine_100 (fun _ => ?_) (fun q => absurd q (by decide))
      refine m_aload_n F rfl e_X10_readLine_110 ?_
      refine r_getC F e_X10_readLine_111 fl_X10_120 h1 (yd14008) ?_
      refine m_bipush F (v := 6) (by decide) e_X10_readLine_114 ?_
      refine m_icmp_ne F e_X10_readLine_116 (fun _ => ?_) (fun q => absurd q (by decide))
      refine m_aload_n F rfl e_X10_readLine_126 ?_
      refine r_getC F e_X10_readLine_127 fl_X10_120 h1 (yd14008) ?_
      refine m_bipush F (v := 7) (by decide) e_X10_readLine_130 ?_
      refine m_icmp_ne F e_X10_readLine_132 (fun _ => ?_) (fun q => absurd q (by decide))
      refine m_aload_n F rfl e_X10_readLine_142 ?_
      refine r_callV F e_X10_readLine_143 (q_X10_readSeedE (x_l X) V c T Z u h P L _ _  n st 0 8 ln fp t 1 8 nm np lc no sd md h1.1 (hob) hP  ⟨(yd14004), (yd14005), (yd14006), (yd14007), (yd14008), (yd14009), (yd14010)⟩ hp1 hn7 (by omega) hp4 hp5 hp6 hp7 hp8 hp9 hp10 hp11 hp12 hp13 hp14) cb_X10_readSeed ml_X10_199 im_X10_readSeed se_X10_readSeed h1 rfl rfl (rest := []) rfl (Nat.le_of_ble_eq_true rfl) ⟨Nat.le_of_ble_eq_true rfl, Nat.le_of_ble_eq_true rfl⟩ ⟨Nat.le_of_ble_eq_true rfl, Nat.le_of_ble_eq_true rfl⟩ (fun r σ16198 hp => ?_)
      obtain ⟨P16201, oP16201, rP16201, pr16202, h16199, hp⟩ := hp
      have h16200 := HS.trans h1 h16199 (by decide)
      have xP16201 := oP16201
      unfold OKP at xP16201
      unfold RP at rP16201
      have ga16203 := hp1.of (h16199.2 (c + 1) (by rw [kC_at (k := 1) (by decide)]; decide))
      have ga16204 := hp7.of (h16199.2 (c + 3) (by rw [kC_at (k := 3) (by decide)]; decide))
      have ga16205 := hp8.of (h16199.2 (c + 7) (by rw [kC_at (k := 7) (by decide)]; decide))
      have ga16206 := hp9.of (h16199.2 (c + 8) (by rw [kC_at (k := 8) (by decide)]; decide))
      have ga16207 := hp10.of (h16199.2 (c + 9) (by rw [kC_at (k := 9) (by decide)]; decide))
      have ga16208 := hp11.of (h16199.2 (c + 11) (by rw [kC_at (k := 11) (by decide)]; decide))
      obtain rfl := hp
      have rm16209 : RM σ16198 c n P16201 (lineS (tok t n) (st, 1, 8, P.a) P.n5 nm np P.n7 lc no sd md ln) := by rw [lineS_8]; exact pr16202
      cases eo16210 : lineS (tok t n) (st, 1, 8, P.a) P.n5 nm np P.n7 lc no sd md ln with
      | inl e8 =>
        rw [eo16210] at rm16209
        obtain ⟨⟨fa16211, fb16212⟩, c1, c2, c3⟩ := rm16209
        have nz8 : nI e8.1 ≠ 0 := fun e => absurd (nI_inj9 (b := 0) (by omega) (by omega) e) (by omega)
        refine m_aload_n F rfl e_X10_readLine_146 ?_
        refine r_getC F e_X10_readLine_147 fl_X10_141 h16200 (fa16211) ?_
        refine m_if_ne F e_X10_readLine_150 (fun q150 => ?_) (fun q150 => ?_)
        · have c150 : e8.1 ≠ 0 := by have hh := mt (nI_eq (a := e8.1) (b := 0) (by omega) (by omega)).mpr q150; omega
          refine m_aload_n F rfl e_X10_readLine_166 ?_
          refine r_callV F e_X10_readLine_167 (q_X10_goOnG (x_l X) V c T Z u h P16201 L _ _  (nI e8.1) h16200.1 (hob) oP16201  (fa16211) (by assumption)) cb_X10_goOn ml_X10_154 im_X10_goOn se_X10_goOn h16200 rfl rfl (rest := []) rfl (Nat.le_of_ble_eq_true rfl) ⟨Nat.le_of_ble_eq_true rfl, Nat.le_of_ble_eq_true rfl⟩ ⟨Nat.le_of_ble_eq_true rfl, Nat.le_of_ble_eq_true rfl⟩ (fun r σ16213 hp => ?_)
          obtain ⟨h16214, hp⟩ := hp
          have h16215 := HS.trans h16200 h16214 (by decide)
          obtain ⟨rfl, rfl⟩ := hp
          refine m_aload_n F rfl e_X10_readLine_170 ?_
          refine m_dup F rfl e_X10_readLine_171 ?_
          refine r_get F e_X10_readLine_172 fl_X10_202 h16215 rfl (fun v hv f16216 => ?_)
          obtain ⟨x16217, rfl⟩ := hv
          refine m_iconst F (v := 1) (by decide) e_X10_readLine_175 ?_
          refine m_iadd F e_X10_readLine_176 ?_
          refine Wm.top (fun x16218 _ => ?_)
          refine r_put F (g' := (⟨T, Z, u, h, P16201, L⟩ : RG)) e_X10_readLine_177 fp_X10_202 h16215 (by decide) ⟨_, rfl⟩ (fun _ _ _ _ q => q) (fun _ _ _ q => q) rfl rfl (by decide) (fun σ16219 h16220 g16221 g16222 f16223 => ?_)
          exact m_vret F hQ e_X10_readLine_180 (⟨P16201, oP16201, (by unfold RP; omega), (by rw [eo16210]; show RM _ c n _ (.inl e8); exact RM.l ((g16222 23 (by decide)).trans fa16211) ((g16222 24 (by decide)).trans fb16212) (by omega) (by omega) (by omega)), (fun S2 hS _ => by rw [eo16210] at hS; cases hS), h16220, rfl⟩)
        · have c150 : e8.1 = 0 := (nI_eq (a := e8.1) (b := 0) (by omega) (by omega)).mp q150
          exact absurd q150 nz8
      | inr S1 =>
        rw [eo16210] at rm16209
        obtain ⟨⟨j1, j2, j3, j4⟩, nl3, nm3, np3, nc3, lc3, no3, sd3, md3, ln3⟩ := S1
        obtain ⟨so3, va3, fp3, mt3, yd3, ⟨pa3, p53, p73⟩, hN3, hM3, hK3, hF3, hG3, hQ3, c1, c2, c3, c4, c5⟩ := rm16209
        replace pa3 : _ = j4 := pa3
        replace c1 : j4 ≤ n := c1
        replace c2 : j1 ≤ n := c2
        have hyd16224 := yd3
        obtain ⟨yd16224, yd16225, yd16226, yd16227, yd16228, yd16229, yd16230⟩ := hyd16224
        refine m_aload_n F rfl e_X10_readLine_146 ?_
        refine r_getC F e_X10_readLine_147 fl_X10_141 h16200 (yd16229) ?_
        refine m_if_ne F e_X10_readLine_150 (fun q => absurd (by decide) q) (fun _ => ?_)
        refine m_aload_n F rfl e_X10_readLine_153 ?_
        have hmt := mt3
        rcases hmt with ⟨rfl, rfl⟩ | ⟨rfl, rfl, rfl, hv3⟩ | ⟨rfl, rfl, rfl, hv3⟩ | ⟨rfl, rfl, w3, hw3, rfl, hm3⟩ | ⟨rfl, rfl⟩ | ⟨rfl, rfl⟩
        · refine r_getC F e_X10_readLine_154 fl_X10_110 h16200 (yd16227) ?_
          refine m_iconst F (v := 3) (by decide) e_X10_readLine_157 ?_
          refine m_icmp_eq F e_X10_readLine_158 (fun q => absurd q (by decide)) (fun _ => ?_)
          refine m_aload_n F rfl e_X10_readLine_161 ?_
          refine m_iconst F (v := 1) (by decide) e_X10_readLine_162 ?_
          refine r_callV F e_X10_readLine_163 (q_X10_wrongE (x_l X) V c T Z u h P16201 L _ _ 1 n j1 4 va3 ln3 fp3 h16200.1 (hob) oP16201 (by omega) ⟨(yd16224), (yd16225), (yd16226), (yd16227), (yd16228), (yd16229), (yd16230)⟩ (by decide)) cb_X10_wrong ml_X10_150 im_X10_wrong se_X10_wrong h16200 rfl rfl (rest := []) rfl (Nat.le_of_ble_eq_true rfl) ⟨Nat.le_of_ble_eq_true rfl, Nat.le_of_ble_eq_true rfl⟩ ⟨Nat.le_of_ble_eq_true rfl, Nat.le_of_ble_eq_true rfl⟩ (fun r σ16231 hp => ?_)
          obtain ⟨h16232, hp⟩ := hp
          have h16233 := HS.trans h16200 h16232 (by decide)
          have ga16234 := ga16203.of (h16232.2 (c + 1) (by rw [kC_at (k := 1) (by decide)]; decide))
          have ga16235 := hN3.of (h16232.2 (c + 2) (by rw [kC_at (k := 2) (by decide)]; decide))
          have ga16236 := hM3.of (h16232.2 (c + 3) (by rw [kC_at (k := 3) (by decide)]; decide))
          have ga16237 := hK3.of (h16232.2 (c + 7) (by rw [kC_at (k := 7) (by decide)]; decide))
          have ga16238 := hF3.of (h16232.2 (c + 8) (by rw [kC_at (k := 8) (by decide)]; decide))
          have ga16239 := hG3.of (h16232.2 (c + 9) (by rw [kC_at (k := 9) (by decide)]; decide))
          have ga16240 := hQ3.of (h16232.2 (c + 11) (by rw [kC_at (k := 11) (by decide)]; decide))
          obtain ⟨hp, rfl⟩ := hp
          have hyd16241 := hp
          obtain ⟨yd16241, yd16242, yd16243, yd16244, yd16245, yd16246, yd16247⟩ := hyd16241
          refine m_aload_n F rfl e_X10_readLine_166 ?_
          refine r_callV F e_X10_readLine_167 (q_X10_goOnG (x_l X) V c T 0 u h P16201 L _ _  1 h16233.1 (hob) oP16201  (yd16246) (by decide)) cb_X10_goOn ml_X10_154 im_X10_goOn se_X10_goOn h16233 rfl rfl (rest := []) rfl (Nat.le_of_ble_eq_true rfl) ⟨Nat.le_of_ble_eq_true rfl, Nat.le_of_ble_eq_true rfl⟩ ⟨Nat.le_of_ble_eq_true rfl, Nat.le_of_ble_eq_true rfl⟩ (fun r σ16248 hp => ?_)
          obtain ⟨h16249, hp⟩ := hp
          have h16250 := HS.trans h16233 h16249 (by decide)
          have ga16251 := ga16234.of (h16249.2 (c + 1) (by rw [kC_at (k := 1) (by decide)]; decide))
          have ga16252 := ga16235.of (h16249.2 (c + 2) (by rw [kC_at (k := 2) (by decide)]; decide))
          have ga16253 := ga16236.of (h16249.2 (c + 3) (by rw [kC_at (k := 3) (by decide)]; decide))
          have ga16254 := ga16237.of (h16249.2 (c + 7) (by rw [kC_at (k := 7) (by decide)]; decide))
          have ga16255 := ga16238.of (h16249.2 (c + 8) (by rw [kC_at (k := 8) (by decide)]; decide))
          have ga16256 := ga16239.of (h16249.2 (c + 9) (by rw [kC_at (k := 9) (by decide)]; decide))
          have ga16257 := ga16240.of (h16249.2 (c + 11) (by rw [kC_at (k := 11) (by decide)]; decide))
          obtain ⟨rfl, rfl⟩ := hp
          refine m_aload_n F rfl e_X10_readLine_170 ?_
          refine m_dup F rfl e_X10_readLine_171 ?_
          refine r_getC F e_X10_readLine_172 fl_X10_202 h16250 (yd16241) ?_
          refine m_iconst F (v := 1) (by decide) e_X10_readLine_175 ?_
          refine m_iadd F e_X10_readLine_176 ?_
          refine Wm.topE (w := nI (ln3 + 1)) (nI_add ln3 1) ?_
          refine r_put F (g' := (⟨T, 0, u, h, P16201, L⟩ : RG)) e_X10_readLine_177 fp_X10_202 h16250 (by decide) ⟨_, rfl⟩ (fun _ _ _ _ q => q) (fun _ _ _ q => q) rfl rfl (by decide) (fun σ16258 h16259 g16260 g16261 f16262 => ?_)
          have ga16263 := ga16234.of (g16260 _ (by omega))
          have ga16264 := ga16235.of (g16260 _ (by omega))
          have ga16265 := ga16236.of (g16260 _ (by omega))
          have ga16266 := ga16237.of (g16260 _ (by omega))
          have ga16267 := ga16238.of (g16260 _ (by omega))
          have ga16268 := ga16239.of (g16260 _ (by omega))
          have ga16269 := ga16240.of (g16260 _ (by omega))
          have h16270 : HS V c _ [0, 2, 17, 18, 19, 20, 21, 22, 23] _ _ := ⟨HR.mono (Z' := Z) (by intro e; first | rfl | assumption | omega) h16259.1, h16259.2⟩
          exact m_vret F hQ e_X10_readLine_180 (⟨P16201, oP16201, (by unfold RP; omega), (by rw [eo16210]; show RM _ c n _ (stopS (tok t n) (j1, 0, j3, j4) nl3 nm3 np3 nc3 lc3 no3 sd3 md3 ln3); rw [stopS_1 (by decide)]; exact RM.l ((g16261 23 (by decide)).trans yd16246) ((g16261 24 (by decide)).trans yd16247) (by omega) (by omega) (by omega)), (fun S2 hS _ => by rw [eo16210] at hS; replace hS : stopS (tok t n) (j1, 0, j3, j4) nl3 nm3 np3 nc3 lc3 no3 sd3 md3 ln3 = .inr S2 := hS; rw [stopS_1 (by decide)] at hS; cases hS), h16270, rfl⟩)
        · refine r_getC F e_X10_readLine_154 fl_X10_110 h16200 (yd16227) ?_
          refine m_iconst F (v := 3) (by decide) e_X10_readLine_157 ?_
          refine m_icmp_eq F e_X10_readLine_158 (fun q => absurd q (by decide)) (fun _ => ?_)
          refine m_aload_n F rfl e_X10_readLine_161 ?_
          refine m_iconst F (v := 1) (by decide) e_X10_readLine_162 ?_
          refine r_callV F e_X10_readLine_163 (q_X10_wrongE (x_l X) V c T Z u h P16201 L _ _ 1 n j1 0 (nI j3) ln3 fp3 h16200.1 (hob) oP16201 (by omega) ⟨(yd16224), (yd16225), (yd16226), (yd16227), (yd16228), (yd16229), (yd16230)⟩ (by decide)) cb_X10_wrong ml_X10_150 im_X10_wrong se_X10_wrong h16200 rfl rfl (rest := []) rfl (Nat.le_of_ble_eq_true rfl) ⟨Nat.le_of_ble_eq_true rfl, Nat.le_of_ble_eq_true rfl⟩ ⟨Nat.le_of_ble_eq_true rfl, Nat.le_of_ble_eq_true rfl⟩ (fun r σ16271 hp => ?_)
          obtain ⟨h16272, hp⟩ := hp
          have h16273 := HS.trans h16200 h16272 (by decide)
          have ga16274 := ga16203.of (h16272.2 (c + 1) (by rw [kC_at (k := 1) (by decide)]; decide))
          have ga16275 := hN3.of (h16272.2 (c + 2) (by rw [kC_at (k := 2) (by decide)]; decide))
          have ga16276 := hM3.of (h16272.2 (c + 3) (by rw [kC_at (k := 3) (by decide)]; decide))
          have ga16277 := hK3.of (h16272.2 (c + 7) (by rw [kC_at (k := 7) (by decide)]; decide))
          have ga16278 := hF3.of (h16272.2 (c + 8) (by rw [kC_at (k := 8) (by decide)]; decide))
          have ga16279 := hG3.of (h16272.2 (c + 9) (by rw [kC_at (k := 9) (by decide)]; decide))
          have ga16280 := hQ3.of (h16272.2 (c + 11) (by rw [kC_at (k := 11) (by decide)]; decide))
          obtain ⟨hp, rfl⟩ := hp
          have hyd16281 := hp
          obtain ⟨yd16281, yd16282, yd16283, yd16284, yd16285, yd16286, yd16287⟩ := hyd16281
          refine m_aload_n F rfl e_X10_readLine_166 ?_
          refine r_callV F e_X10_readLine_167 (q_X10_goOnG (x_l X) V c T 0 u h P16201 L _ _  1 h16273.1 (hob) oP16201  (yd16286) (by decide)) cb_X10_goOn ml_X10_154 im_X10_goOn se_X10_goOn h16273 rfl rfl (rest := []) rfl (Nat.le_of_ble_eq_true rfl) ⟨Nat.le_of_ble_eq_true rfl, Nat.le_of_ble_eq_true rfl⟩ ⟨Nat.le_of_ble_eq_true rfl, Nat.le_of_ble_eq_true rfl⟩ (fun r σ16288 hp => ?_)
          obtain ⟨h16289, hp⟩ := hp
          have h16290 := HS.trans h16273 h16289 (by decide)
          have ga16291 := ga16274.of (h16289.2 (c + 1) (by rw [kC_at (k := 1) (by decide)]; decide))
          have ga16292 := ga16275.of (h16289.2 (c + 2) (by rw [kC_at (k := 2) (by decide)]; decide))
          have ga16293 := ga16276.of (h16289.2 (c + 3) (by rw [kC_at (k := 3) (by decide)]; decide))
          have ga16294 := ga16277.of (h16289.2 (c + 7) (by rw [kC_at (k := 7) (by decide)]; decide))
          have ga16295 := ga16278.of (h16289.2 (c + 8) (by rw [kC_at (k := 8) (by decide)]; decide))
          have ga16296 := ga16279.of (h16289.2 (c + 9) (by rw [kC_at (k := 9) (by decide)]; decide))
          have ga16297 := ga16280.of (h16289.2 (c + 11) (by rw [kC_at (k := 11) (by decide)]; decide))
          obtain ⟨rfl, rfl⟩ := hp
          refine m_aload_n F rfl e_X10_readLine_170 ?_
          refine m_dup F rfl e_X10_readLine_171 ?_
          refine r_getC F e_X10_readLine_172 fl_X10_202 h16290 (yd16281) ?_
          refine m_iconst F (v := 1) (by decide) e_X10_readLine_175 ?_
          refine m_iadd F e_X10_readLine_176 ?_
          refine Wm.topE (w := nI (ln3 + 1)) (nI_add ln3 1) ?_
          refine r_put F (g' := (⟨T, 0, u, h, P16201, L⟩ : RG)) e_X10_readLine_177 fp_X10_202 h16290 (by decide) ⟨_, rfl⟩ (fun _ _ _ _ q => q) (fun _ _ _ q => q) rfl rfl (by decide) (fun σ16298 h16299 g16300 g16301 f16302 => ?_)
          have ga16303 := ga16274.of (g16300 _ (by omega))
          have ga16304 := ga16275.of (g16300 _ (by omega))
          have ga16305 := ga16276.of (g16300 _ (by omega))
          have ga16306 := ga16277.of (g16300 _ (by omega))
          have ga16307 := ga16278.of (g16300 _ (by omega))
          have ga16308 := ga16279.of (g16300 _ (by omega))
          have ga16309 := ga16280.of (g16300 _ (by omega))
          have h16310 : HS V c _ [0, 2, 17, 18, 19, 20, 21, 22, 23] _ _ := ⟨HR.mono (Z' := Z) (by intro e; first | rfl | assumption | omega) h16299.1, h16299.2⟩
          exact m_vret F hQ e_X10_readLine_180 (⟨P16201, oP16201, (by unfold RP; omega), (by rw [eo16210]; show RM _ c n _ (stopS (tok t n) (j1, 1, j3, j4) nl3 nm3 np3 nc3 lc3 no3 sd3 md3 ln3); rw [stopS_1 (by decide)]; exact RM.l ((g16301 23 (by decide)).trans yd16286) ((g16301 24 (by decide)).trans yd16287) (by omega) (by omega) (by omega)), (fun S2 hS _ => by rw [eo16210] at hS; replace hS : stopS (tok t n) (j1, 1, j3, j4) nl3 nm3 np3 nc3 lc3 no3 sd3 md3 ln3 = .inr S2 := hS; rw [stopS_1 (by decide)] at hS; cases hS), h16310, rfl⟩)
        · refine r_getC F e_X10_readLine_154 fl_X10_110 h16200 (yd16227) ?_
          refine m_iconst F (v := 3) (by decide) e_X10_readLine_157 ?_
          refine m_icmp_eq F e_X10_readLine_158 (fun q => absurd q (by decide)) (fun _ => ?_)
          refine m_aload_n F rfl e_X10_readLine_161 ?_
          refine m_iconst F (v := 1) (by decide) e_X10_readLine_162 ?_
          refine r_callV F e_X10_readLine_163 (q_X10_wrongE (x_l X) V c T Z u h P16201 L _ _ 1 n j1 1 (nI j3) ln3 fp3 h16200.1 (hob) oP16201 (by omega) ⟨(yd16224), (yd16225), (yd16226), (yd16227), (yd16228), (yd16229), (yd16230)⟩ (by decide)) cb_X10_wrong ml_X10_150 im_X10_wrong se_X10_wrong h16200 rfl rfl (rest := []) rfl (Nat.le_of_ble_eq_true rfl) ⟨Nat.le_of_ble_eq_true rfl, Nat.le_of_ble_eq_true rfl⟩ ⟨Nat.le_of_ble_eq_true rfl, Nat.le_of_ble_eq_true rfl⟩ (fun r σ16311 hp => ?_)
          obtain ⟨h16312, hp⟩ := hp
          have h16313 := HS.trans h16200 h16312 (by decide)
          have ga16314 := ga16203.of (h16312.2 (c + 1) (by rw [kC_at (k := 1) (by decide)]; decide))
          have ga16315 := hN3.of (h16312.2 (c + 2) (by rw [kC_at (k := 2) (by decide)]; decide))
          have ga16316 := hM3.of (h16312.2 (c + 3) (by rw [kC_at (k := 3) (by decide)]; decide))
          have ga16317 := hK3.of (h16312.2 (c + 7) (by rw [kC_at (k := 7) (by decide)]; decide))
          have ga16318 := hF3.of (h16312.2 (c + 8) (by rw [kC_at (k := 8) (by decide)]; decide))
          have ga16319 := hG3.of (h16312.2 (c + 9) (by rw [kC_at (k := 9) (by decide)]; decide))
          have ga16320 := hQ3.of (h16312.2 (c + 11) (by rw [kC_at (k := 11) (by decide)]; decide))
          obtain ⟨hp, rfl⟩ := hp
          have hyd16321 := hp
          obtain ⟨yd16321, yd16322, yd16323, yd16324, yd16325, yd16326, yd16327⟩ := hyd16321
          refine m_aload_n F rfl e_X10_readLine_166 ?_
          refine r_callV F e_X10_readLine_167 (q_X10_goOnG (x_l X) V c T 0 u h P16201 L _ _  1 h16313.1 (hob) oP16201  (yd16326) (by decide)) cb_X10_goOn ml_X10_154 im_X10_goOn se_X10_goOn h16313 rfl rfl (rest := []) rfl (Nat.le_of_ble_eq_true rfl) ⟨Nat.le_of_ble_eq_true rfl, Nat.le_of_ble_eq_true rfl⟩ ⟨Nat.le_of_ble_eq_true rfl, Nat.le_of_ble_eq_true rfl⟩ (fun r σ16328 hp => ?_)
          obtain ⟨h16329, hp⟩ := hp
          have h16330 := HS.trans h16313 h16329 (by decide)
          have ga16331 := ga16314.of (h16329.2 (c + 1) (by rw [kC_at (k := 1) (by decide)]; decide))
          have ga16332 := ga16315.of (h16329.2 (c + 2) (by rw [kC_at (k := 2) (by decide)]; decide))
          have ga16333 := ga16316.of (h16329.2 (c + 3) (by rw [kC_at (k := 3) (by decide)]; decide))
          have ga16334 := ga16317.of (h16329.2 (c + 7) (by rw [kC_at (k := 7) (by decide)]; decide))
          have ga16335 := ga16318.of (h16329.2 (c + 8) (by rw [kC_at (k := 8) (by decide)]; decide))
          have ga16336 := ga16319.of (h16329.2 (c + 9) (by rw [kC_at (k := 9) (by decide)]; decide))
          have ga16337 := ga16320.of (h16329.2 (c + 11) (by rw [kC_at (k := 11) (by decide)]; decide))
          obtain ⟨rfl, rfl⟩ := hp
          refine m_aload_n F rfl e_X10_readLine_170 ?_
          refine m_dup F rfl e_X10_readLine_171 ?_
          refine r_getC F e_X10_readLine_172 fl_X10_202 h16330 (yd16321) ?_
          refine m_iconst F (v := 1) (by decide) e_X10_readLine_175 ?_
          refine m_iadd F e_X10_readLine_176 ?_
          refine Wm.topE (w := nI (ln3 + 1)) (nI_add ln3 1) ?_
          refine r_put F (g' := (⟨T, 0, u, h, P16201, L⟩ : RG)) e_X10_readLine_177 fp_X10_202 h16330 (by decide) ⟨_, rfl⟩ (fun _ _ _ _ q => q) (fun _ _ _ q => q) rfl rfl (by decide) (fun σ16338 h16339 g16340 g16341 f16342 => ?_)
          have ga16343 := ga16314.of (g16340 _ (by omega))
          have ga16344 := ga16315.of (g16340 _ (by omega))
          have ga16345 := ga16316.of (g16340 _ (by omega))
          have ga16346 := ga16317.of (g16340 _ (by omega))
          have ga16347 := ga16318.of (g16340 _ (by omega))
          have ga16348 := ga16319.of (g16340 _ (by omega))
          have ga16349 := ga16320.of (g16340 _ (by omega))
          have h16350 : HS V c _ [0, 2, 17, 18, 19, 20, 21, 22, 23] _ _ := ⟨HR.mono (Z' := Z) (by intro e; first | rfl | assumption | omega) h16339.1, h16339.2⟩
          exact m_vret F hQ e_X10_readLine_180 (⟨P16201, oP16201, (by unfold RP; omega), (by rw [eo16210]; show RM _ c n _ (stopS (tok t n) (j1, 2, j3, j4) nl3 nm3 np3 nc3 lc3 no3 sd3 md3 ln3); rw [stopS_1 (by decide)]; exact RM.l ((g16341 23 (by decide)).trans yd16326) ((g16341 24 (by decide)).trans yd16327) (by omega) (by omega) (by omega)), (fun S2 hS _ => by rw [eo16210] at hS; replace hS : stopS (tok t n) (j1, 2, j3, j4) nl3 nm3 np3 nc3 lc3 no3 sd3 md3 ln3 = .inr S2 := hS; rw [stopS_1 (by decide)] at hS; cases hS), h16350, rfl⟩)
        · refine r_getC F e_X10_readLine_154 fl_X10_110 h16200 (yd16227) ?_
          refine m_iconst F (v := 3) (by decide) e_X10_readLine_157 ?_
          refine m_icmp_eq F e_X10_readLine_158 (fun q => absurd q (by decide)) (fun _ => ?_)
          refine m_aload_n F rfl e_X10_readLine_161 ?_
          refine m_iconst F (v := 1) (by decide) e_X10_readLine_162 ?_
          refine r_callV F e_X10_readLine_163 (q_X10_wrongE (x_l X) V c T Z u h P16201 L _ _ 1 n j1 2 (nI w3) ln3 fp3 h16200.1 (hob) oP16201 (by omega) ⟨(yd16224), (yd16225), (yd16226), (yd16227), (yd16228), (yd16229), (yd16230)⟩ (by decide)) cb_X10_wrong ml_X10_150 im_X10_wrong se_X10_wrong h16200 rfl rfl (rest := []) rfl (Nat.le_of_ble_eq_true rfl) ⟨Nat.le_of_ble_eq_true rfl, Nat.le_of_ble_eq_true rfl⟩ ⟨Nat.le_of_ble_eq_true rfl, Nat.le_of_ble_eq_true rfl⟩ (fun r σ16351 hp => ?_)
          obtain ⟨h16352, hp⟩ := hp
          have h16353 := HS.trans h16200 h16352 (by decide)
          have ga16354 := ga16203.of (h16352.2 (c + 1) (by rw [kC_at (k := 1) (by decide)]; decide))
          have ga16355 := hN3.of (h16352.2 (c + 2) (by rw [kC_at (k := 2) (by decide)]; decide))
          have ga16356 := hM3.of (h16352.2 (c + 3) (by rw [kC_at (k := 3) (by decide)]; decide))
          have ga16357 := hK3.of (h16352.2 (c + 7) (by rw [kC_at (k := 7) (by decide)]; decide))
          have ga16358 := hF3.of (h16352.2 (c + 8) (by rw [kC_at (k := 8) (by decide)]; decide))
          have ga16359 := hG3.of (h16352.2 (c + 9) (by rw [kC_at (k := 9) (by decide)]; decide))
          have ga16360 := hQ3.of (h16352.2 (c + 11) (by rw [kC_at (k := 11) (by decide)]; decide))
          obtain ⟨hp, rfl⟩ := hp
          have hyd16361 := hp
          obtain ⟨yd16361, yd16362, yd16363, yd16364, yd16365, yd16366, yd16367⟩ := hyd16361
          refine m_aload_n F rfl e_X10_readLine_166 ?_
          refine r_callV F e_X10_readLine_167 (q_X10_goOnG (x_l X) V c T 0 u h P16201 L _ _  1 h16353.1 (hob) oP16201  (yd16366) (by decide)) cb_X10_goOn ml_X10_154 im_X10_goOn se_X10_goOn h16353 rfl rfl (rest := []) rfl (Nat.le_of_ble_eq_true rfl) ⟨Nat.le_of_ble_eq_true rfl, Nat.le_of_ble_eq_true rfl⟩ ⟨Nat.le_of_ble_eq_true rfl, Nat.le_of_ble_eq_true rfl⟩ (fun r σ16368 hp => ?_)
          obtain ⟨h16369, hp⟩ := hp
          have h16370 := HS.trans h16353 h16369 (by decide)
          have ga16371 := ga16354.of (h16369.2 (c + 1) (by rw [kC_at (k := 1) (by decide)]; decide))
          have ga16372 := ga16355.of (h16369.2 (c + 2) (by rw [kC_at (k := 2) (by decide)]; decide))
          have ga16373 := ga16356.of (h16369.2 (c + 3) (by rw [kC_at (k := 3) (by decide)]; decide))
          have ga16374 := ga16357.of (h16369.2 (c + 7) (by rw [kC_at (k := 7) (by decide)]; decide))
          have ga16375 := ga16358.of (h16369.2 (c + 8) (by rw [kC_at (k := 8) (by decide)]; decide))
          have ga16376 := ga16359.of (h16369.2 (c + 9) (by rw [kC_at (k := 9) (by decide)]; decide))
          have ga16377 := ga16360.of (h16369.2 (c + 11) (by rw [kC_at (k := 11) (by decide)]; decide))
          obtain ⟨rfl, rfl⟩ := hp
          refine m_aload_n F rfl e_X10_readLine_170 ?_
          refine m_dup F rfl e_X10_readLine_171 ?_
          refine r_getC F e_X10_readLine_172 fl_X10_202 h16370 (yd16361) ?_
          refine m_iconst F (v := 1) (by decide) e_X10_readLine_175 ?_
          refine m_iadd F e_X10_readLine_176 ?_
          refine Wm.topE (w := nI (ln3 + 1)) (nI_add ln3 1) ?_
          refine r_put F (g' := (⟨T, 0, u, h, P16201, L⟩ : RG)) e_X10_readLine_177 fp_X10_202 h16370 (by decide) ⟨_, rfl⟩ (fun _ _ _ _ q => q) (fun _ _ _ q => q) rfl rfl (by decide) (fun σ16378 h16379 g16380 g16381 f16382 => ?_)
          have ga16383 := ga16354.of (g16380 _ (by omega))
          have ga16384 := ga16355.of (g16380 _ (by omega))
          have ga16385 := ga16356.of (g16380 _ (by omega))
          have ga16386 := ga16357.of (g16380 _ (by omega))
          have ga16387 := ga16358.of (g16380 _ (by omega))
          have ga16388 := ga16359.of (g16380 _ (by omega))
          have ga16389 := ga16360.of (g16380 _ (by omega))
          have h16390 : HS V c _ [0, 2, 17, 18, 19, 20, 21, 22, 23] _ _ := ⟨HR.mono (Z' := Z) (by intro e; first | rfl | assumption | omega) h16379.1, h16379.2⟩
          exact m_vret F hQ e_X10_readLine_180 (⟨P16201, oP16201, (by unfold RP; omega), (by rw [eo16210]; show RM _ c n _ (stopS (tok t n) (j1, 3, j3, j4) nl3 nm3 np3 nc3 lc3 no3 sd3 md3 ln3); rw [stopS_1 (by decide)]; exact RM.l ((g16381 23 (by decide)).trans yd16366) ((g16381 24 (by decide)).trans yd16367) (by omega) (by omega) (by omega)), (fun S2 hS _ => by rw [eo16210] at hS; replace hS : stopS (tok t n) (j1, 3, j3, j4) nl3 nm3 np3 nc3 lc3 no3 sd3 md3 ln3 = .inr S2 := hS; rw [stopS_1 (by decide)] at hS; cases hS), h16390, rfl⟩)
        · refine r_getC F e_X10_readLine_154 fl_X10_110 h16200 (yd16227) ?_
          refine m_iconst F (v := 3) (by decide) e_X10_readLine_157 ?_
          refine m_icmp_eq F e_X10_readLine_158 (fun _ => ?_) (fun q => absurd (by decide) q)
          refine m_aload_n F rfl e_X10_readLine_166 ?_
          refine r_callV F e_X10_readLine_167 (q_X10_goOnE (x_l X) V c T Z u h P16201 L _ _  n j1 3 va3 ln3 fp3 t h16200.1 (hob) oP16201  ⟨(yd16224), (yd16225), (yd16226), (yd16227), (yd16228), (yd16229), (yd16230)⟩ ga16203 hn7 (by omega)) cb_X10_goOn ml_X10_154 im_X10_goOn se_X10_goOn h16200 rfl rfl (rest := []) rfl (Nat.le_of_ble_eq_true rfl) ⟨Nat.le_of_ble_eq_true rfl, Nat.le_of_ble_eq_true rfl⟩ ⟨Nat.le_of_ble_eq_true rfl, Nat.le_of_ble_eq_true rfl⟩ (fun r σ16391 hp => ?_)
          obtain ⟨P16394, oP16394, rP16394, pr16395, pr16396, h16392, hp⟩ := hp
          have h16393 := HS.trans h16200 h16392 (by decide)
          have xP16394 := oP16394
          unfold OKP at xP16394
          unfold RA at rP16394
          have ga16397 := ga16203.of (h16392.2 (c + 1) (by rw [kC_at (k := 1) (by decide)]; decide))
          have ga16398 := hN3.of (h16392.2 (c + 2) (by rw [kC_at (k := 2) (by decide)]; decide))
          have ga16399 := hM3.of (h16392.2 (c + 3) (by rw [kC_at (k := 3) (by decide)]; decide))
          have ga16400 := hK3.of (h16392.2 (c + 7) (by rw [kC_at (k := 7) (by decide)]; decide))
          have ga16401 := hF3.of (h16392.2 (c + 8) (by rw [kC_at (k := 8) (by decide)]; decide))
          have ga16402 := hG3.of (h16392.2 (c + 9) (by rw [kC_at (k := 9) (by decide)]; decide))
          have ga16403 := hQ3.of (h16392.2 (c + 11) (by rw [kC_at (k := 11) (by decide)]; decide))
          obtain rfl := hp
          rw [pa3] at pr16395 pr16396
          have b8 := tok_ok (t := t) (n := n) j4 c1
          obtain ⟨so16404, va16405, mt16406, yd16407⟩ := pr16396
          have hyd16408 := yd16407
          obtain ⟨yd16408, yd16409, yd16410, yd16411, yd16412, yd16413, yd16414⟩ := hyd16408
          refine m_aload_n F rfl e_X10_readLine_170 ?_
          refine m_dup F rfl e_X10_readLine_171 ?_
          refine r_getC F e_X10_readLine_172 fl_X10_202 h16393 (yd16408) ?_
          refine m_iconst F (v := 1) (by decide) e_X10_readLine_175 ?_
          refine m_iadd F e_X10_readLine_176 ?_
          refine Wm.topE (w := nI (ln3 + 1)) (nI_add ln3 1) ?_
          refine r_put F (g' := (⟨T, Z, u, h, P16394, L⟩ : RG)) e_X10_readLine_177 fp_X10_202 h16393 (by decide) ⟨_, rfl⟩ (fun _ _ _ _ q => q) (fun _ _ _ q => q) rfl rfl (by decide) (fun σ16415 h16416 g16417 g16418 f16419 => ?_)
          have ga16420 := ga16397.of (g16417 _ (by omega))
          have ga16421 := ga16398.of (g16417 _ (by omega))
          have ga16422 := ga16399.of (g16417 _ (by omega))
          have ga16423 := ga16400.of (g16417 _ (by omega))
          have ga16424 := ga16401.of (g16417 _ (by omega))
          have ga16425 := ga16402.of (g16417 _ (by omega))
          have ga16426 := ga16403.of (g16417 _ (by omega))
          exact m_vret F hQ e_X10_readLine_180 (⟨P16394, oP16394, (by unfold RP; omega), (by rw [eo16210]; show RM _ c n _ (stopS (tok t n) (j1, 4, j3, j4) nl3 nm3 np3 nc3 lc3 no3 sd3 md3 ln3); rw [stopS_ok]; exact RM.r mt16406 ⟨(f16419), ((g16418 18 (by decide)).trans yd16409), ((g16418 20 (by decide)).trans yd16410), ((g16418 21 (by decide)).trans yd16411), ((g16418 22 (by decide)).trans yd16412), ((g16418 23 (by decide)).trans yd16413), ((g16418 24 (by decide)).trans yd16414)⟩ (by omega) (by omega) (by omega) ga16421 ga16422 ga16423 ga16424 ga16425 ga16426 (by omega) (by omega) (by omega) (by omega) (by omega)), (fun S2 hS hz => by rw [eo16210] at hS; replace hS : stopS (tok t n) (j1, 4, j3, j4) nl3 nm3 np3 nc3 lc3 no3 sd3 md3 ln3 = .inr S2 := hS; rw [stopS_ok] at hS; cases hS; replace hz : (tok t n j4).2.1 ≠ 0 := hz; have h8 := b8.2.2.2 hz; omega), h16416, rfl⟩)
        · refine r_getC F e_X10_readLine_154 fl_X10_110 h16200 (yd16227) ?_
          refine m_iconst F (v := 3) (by decide) e_X10_readLine_157 ?_
          refine m_icmp_eq F e_X10_readLine_158 (fun q => absurd q (by decide)) (fun _ => ?_)
          refine m_aload_n F rfl e_X10_readLine_161 ?_
          refine m_iconst F (v := 1) (by decide) e_X10_readLine_162 ?_
          refine r_callV F e_X10_readLine_163 (q_X10_wrongE (x_l X) V c T Z u h P16201 L _ _ 1 n j1 5 va3 ln3 fp3 h16200.1 (hob) oP16201 (by omega) ⟨(yd16224), (yd16225), (yd16226), (yd16227), (yd16228), (yd16229), (yd16230)⟩ (by decide)) cb_X10_wrong ml_X10_150 im_X10_wrong se_X10_wrong h16200 rfl rfl (rest := []) rfl (Nat.le_of_ble_eq_true rfl) ⟨Nat.le_of_ble_eq_true rfl, Nat.le_of_ble_eq_true rfl⟩ ⟨Nat.le_of_ble_eq_true rfl, Nat.le_of_ble_eq_true rfl⟩ (fun r σ16427 hp => ?_)
          obtain ⟨h16428, hp⟩ := hp
          have h16429 := HS.trans h16200 h16428 (by decide)
          have ga16430 := ga16203.of (h16428.2 (c + 1) (by rw [kC_at (k := 1) (by decide)]; decide))
          have ga16431 := hN3.of (h16428.2 (c + 2) (by rw [kC_at (k := 2) (by decide)]; decide))
          have ga16432 := hM3.of (h16428.2 (c + 3) (by rw [kC_at (k := 3) (by decide)]; decide))
          have ga16433 := hK3.of (h16428.2 (c + 7) (by rw [kC_at (k := 7) (by decide)]; decide))
          have ga16434 := hF3.of (h16428.2 (c + 8) (by rw [kC_at (k := 8) (by decide)]; decide))
          have ga16435 := hG3.of (h16428.2 (c + 9) (by rw [kC_at (k := 9) (by decide)]; decide))
          have ga16436 := hQ3.of (h16428.2 (c + 11) (by rw [kC_at (k := 11) (by decide)]; decide))
          obtain ⟨hp, rfl⟩ := hp
          have hyd16437 := hp
          obtain ⟨yd16437, yd16438, yd16439, yd16440, yd16441, yd16442, yd16443⟩ := hyd16437
          refine m_aload_n F rfl e_X10_readLine_166 ?_
          refine r_callV F e_X10_readLine_167 (q_X10_goOnG (x_l X) V c T 0 u h P16201 L _ _  1 h16429.1 (hob) oP16201  (yd16442) (by decide)) cb_X10_goOn ml_X10_154 im_X10_goOn se_X10_goOn h16429 rfl rfl (rest := []) rfl (Nat.le_of_ble_eq_true rfl) ⟨Nat.le_of_ble_eq_true rfl, Nat.le_of_ble_eq_true rfl⟩ ⟨Nat.le_of_ble_eq_true rfl, Nat.le_of_ble_eq_true rfl⟩ (fun r σ16444 hp => ?_)
          obtain ⟨h16445, hp⟩ := hp
          have h16446 := HS.trans h16429 h16445 (by decide)
          have ga16447 := ga16430.of (h16445.2 (c + 1) (by rw [kC_at (k := 1) (by decide)]; decide))
          have ga16448 := ga16431.of (h16445.2 (c + 2) (by rw [kC_at (k := 2) (by decide)]; decide))
          have ga16449 := ga16432.of (h16445.2 (c + 3) (by rw [kC_at (k := 3) (by decide)]; decide))
          have ga16450 := ga16433.of (h16445.2 (c + 7) (by rw [kC_at (k := 7) (by decide)]; decide))
          have ga16451 := ga16434.of (h16445.2 (c + 8) (by rw [kC_at (k := 8) (by decide)]; decide))
          have ga16452 := ga16435.of (h16445.2 (c + 9) (by rw [kC_at (k := 9) (by decide)]; decide))
          have ga16453 := ga16436.of (h16445.2 (c + 11) (by rw [kC_at (k := 11) (by decide)]; decide))
          obtain ⟨rfl, rfl⟩ := hp
          refine m_aload_n F rfl e_X10_readLine_170 ?_
          refine m_dup F rfl e_X10_readLine_171 ?_
          refine r_getC F e_X10_readLine_172 fl_X10_202 h16446 (yd16437) ?_
          refine m_iconst F (v := 1) (by decide) e_X10_readLine_175 ?_
          refine m_iadd F e_X10_readLine_176 ?_
          refine Wm.topE (w := nI (ln3 + 1)) (nI_add ln3 1) ?_
          refine r_put F (g' := (⟨T, 0, u, h, P16201, L⟩ : RG)) e_X10_readLine_177 fp_X10_202 h16446 (by decide) ⟨_, rfl⟩ (fun _ _ _ _ q => q) (fun _ _ _ q => q) rfl rfl (by decide) (fun σ16454 h16455 g16456 g16457 f16458 => ?_)
          have ga16459 := ga16430.of (g16456 _ (by omega))
          have ga16460 := ga16431.of (g16456 _ (by omega))
          have ga16461 := ga16432.of (g16456 _ (by omega))
          have ga16462 := ga16433.of (g16456 _ (by omega))
          have ga16463 := ga16434.of (g16456 _ (by omega))
          have ga16464 := ga16435.of (g16456 _ (by omega))
          have ga16465 := ga16436.of (g16456 _ (by omega))
          have h16466 : HS V c _ [0, 2, 17, 18, 19, 20, 21, 22, 23] _ _ := ⟨HR.mono (Z' := Z) (by intro e; first | rfl | assumption | omega) h16455.1, h16455.2⟩
          exact m_vret F hQ e_X10_readLine_180 (⟨P16201, oP16201, (by unfold RP; omega), (by rw [eo16210]; show RM _ c n _ (stopS (tok t n) (j1, 5, j3, j4) nl3 nm3 np3 nc3 lc3 no3 sd3 md3 ln3); rw [stopS_1 (by decide)]; exact RM.l ((g16457 23 (by decide)).trans yd16442) ((g16457 24 (by decide)).trans yd16443) (by omega) (by omega) (by omega)), (fun S2 hS _ => by rw [eo16210] at hS; replace hS : stopS (tok t n) (j1, 5, j3, j4) nl3 nm3 np3 nc3 lc3 no3 sd3 md3 ln3 = .inr S2 := hS; rw [stopS_1 (by decide)] at hS; cases hS), h16466, rfl⟩)
  · refine r_getC F e_X10_readLine_1 fl_X10_110 h1 (yd14007) ?_
    refine m_if_eq F e_X10_readLine_4 (fun q => absurd q (by decide)) (fun _ => ?_)
    refine m_aload_n F rfl e_X10_readLine_7 ?_
    refine m_iconst F (v := 1) (by decide) e_X10_readLine_8 ?_
    refine r_callV F e_X10_readLine_9 (q_X10_wrongE (x_l X) V c T Z u h P L _ _ 1 n st 1 (nI v9) ln fp h1.1 (hob) hP (by omega) ⟨(yd14004), (yd14005), (yd14006), (yd14007), (yd14008), (yd14009), (yd14010)⟩ (by decide)) cb_X10_wrong ml_X10_150 im_X10_wrong se_X10_wrong h1 rfl rfl (rest := []) rfl (Nat.le_of_ble_eq_true rfl) ⟨Nat.le_of_ble_eq_true rfl, Nat.le_of_ble_eq_true rfl⟩ ⟨Nat.le_of_ble_eq_true rfl, Nat.le_of_ble_eq_true rfl⟩ (fun r σ16467 hp => ?_)
    obtain ⟨h16468, hp⟩ := hp
    have h16469 := HS.trans h1 h16468 (by decide)
    have ga16470 := hp1.of (h16468.2 (c + 1) (by rw [kC_at (k := 1) (by decide)]; decide))
    have ga16471 := hp6.of (h16468.2 (c + 2) (by rw [kC_at (k := 2) (by decide)]; decide))
    have ga16472 := hp7.of (h16468.2 (c + 3) (by rw [kC_at (k := 3) (by decide)]; decide))
    have ga16473 := hp8.of (h16468.2 (c + 7) (by rw [kC_at (k := 7) (by decide)]; decide))
    have ga16474 := hp9.of (h16468.2 (c + 8) (by rw [kC_at (k := 8) (by decide)]; decide))
    have ga16475 := hp10.of (h16468.2 (c + 9) (by rw [kC_at (k := 9) (by decide)]; decide))
    have ga16476 := hp11.of (h16468.2 (c + 11) (by rw [kC_at (k := 11) (by decide)]; decide))
    obtain ⟨hp, rfl⟩ := hp
    have hyd16477 := hp
    obtain ⟨yd16477, yd16478, yd16479, yd16480, yd16481, yd16482, yd16483⟩ := hyd16477
    refine m_goto F e_X10_readLine_12 ?_
    refine m_aload_n F rfl e_X10_readLine_146 ?_
    refine r_getC F e_X10_readLine_147 fl_X10_141 h16469 (yd16482) ?_
    refine m_if_ne F e_X10_readLine_150 (fun _ => ?_) (fun q => absurd q (by decide))
    refine m_aload_n F rfl e_X10_readLine_166 ?_
    refine r_callV F e_X10_readLine_167 (q_X10_goOnG (x_l X) V c T 0 u h P L _ _  1 h16469.1 (hob) hP  (yd16482) (by decide)) cb_X10_goOn ml_X10_154 im_X10_goOn se_X10_goOn h16469 rfl rfl (rest := []) rfl (Nat.le_of_ble_eq_true rfl) ⟨Nat.le_of_ble_eq_true rfl, Nat.le_of_ble_eq_true rfl⟩ ⟨Nat.le_of_ble_eq_true rfl, Nat.le_of_ble_eq_true rfl⟩ (fun r σ16484 hp => ?_)
    obtain ⟨h16485, hp⟩ := hp
    have h16486 := HS.trans h16469 h16485 (by decide)
    have ga16487 := ga16470.of (h16485.2 (c + 1) (by rw [kC_at (k := 1) (by decide)]; decide))
    have ga16488 := ga16471.of (h16485.2 (c + 2) (by rw [kC_at (k := 2) (by decide)]; decide))
    have ga16489 := ga16472.of (h16485.2 (c + 3) (by rw [kC_at (k := 3) (by decide)]; decide))
    have ga16490 := ga16473.of (h16485.2 (c + 7) (by rw [kC_at (k := 7) (by decide)]; decide))
    have ga16491 := ga16474.of (h16485.2 (c + 8) (by rw [kC_at (k := 8) (by decide)]; decide))
    have ga16492 := ga16475.of (h16485.2 (c + 9) (by rw [kC_at (k := 9) (by decide)]; decide))
    have ga16493 := ga16476.of (h16485.2 (c + 11) (by rw [kC_at (k := 11) (by decide)]; decide))
    obtain ⟨rfl, rfl⟩ := hp
    refine m_aload_n F rfl e_X10_readLine_170 ?_
    refine m_dup F rfl e_X10_readLine_171 ?_
    refine r_getC F e_X10_readLine_172 fl_X10_202 h16486 (yd16477) ?_
    refine m_iconst F (v := 1) (by decide) e_X10_readLine_175 ?_
    refine m_iadd F e_X10_readLine_176 ?_
    refine Wm.topE (w := nI (ln + 1)) (nI_add ln 1) ?_
    refine r_put F (g' := (⟨T, 0, u, h, P, L⟩ : RG)) e_X10_readLine_177 fp_X10_202 h16486 (by decide) ⟨_, rfl⟩ (fun _ _ _ _ q => q) (fun _ _ _ q => q) rfl rfl (by decide) (fun σ16494 h16495 g16496 g16497 f16498 => ?_)
    have ga16499 := ga16470.of (g16496 _ (by omega))
    have ga16500 := ga16471.of (g16496 _ (by omega))
    have ga16501 := ga16472.of (g16496 _ (by omega))
    have ga16502 := ga16473.of (g16496 _ (by omega))
    have ga16503 := ga16474.of (g16496 _ (by omega))
    have ga16504 := ga16475.of (g16496 _ (by omega))
    have ga16505 := ga16476.of (g16496 _ (by omega))
    have h16506 : HS V c _ [0, 2, 17, 18, 19, 20, 21, 22, 23] _ _ := ⟨HR.mono (Z' := Z) (by intro e; first | rfl | assumption | omega) h16495.1, h16495.2⟩
    exact m_vret F hQ e_X10_readLine_180 (⟨P, hP, (by unfold RP; omega), (by rw [lineS_no (by decide)]; show RM _ c n _ (.inl (1, st)); exact RM.l ((g16497 23 (by decide)).trans yd16482) ((g16497 24 (by decide)).trans yd16483) (by omega) (by omega) (by omega)), (fun S2 hS _ => by rw [lineS_no (by decide)] at hS; cases hS), h16506, rfl⟩)
  · refine r_getC F e_X10_readLine_1 fl_X10_110 h1 (yd14007) ?_
    refine m_if_eq F e_X10_readLine_4 (fun q => absurd q (by decide)) (fun _ => ?_)
    refine m_aload_n F rfl e_X10_readLine_7 ?_
    refine m_iconst F (v := 1) (by decide) e_X10_readLine_8 ?_
    refine r_callV F e_X10_readLine_9 (q_X10_wrongE (x_l X) V c T Z u h P L _ _ 1 n st 2 (nI w9) ln fp h1.1 (hob) hP (by omega) ⟨(yd14004), (yd14005), (yd14006), (yd14007), (yd14008), (yd14009), (yd14010)⟩ (by decide)) cb_X10_wrong ml_X10_150 im_X10_wrong se_X10_wrong h1 rfl rfl (rest := []) rfl (Nat.le_of_ble_eq_true rfl) ⟨Nat.le_of_ble_eq_true rfl, Nat.le_of_ble_eq_true rfl⟩ ⟨Nat.le_of_ble_eq_true rfl, Nat.le_of_ble_eq_true rfl⟩ (fun r σ16507 hp => ?_)
    obtain ⟨h16508, hp⟩ := hp
    have h16509 := HS.trans h1 h16508 (by decide)
    have ga16510 := hp1.of (h16508.2 (c + 1) (by rw [kC_at (k := 1) (by decide)]; decide))
    have ga16511 := hp6.of (h16508.2 (c + 2) (by rw [kC_at (k := 2) (by decide)]; decide))
    have ga16512 := hp7.of (h16508.2 (c + 3) (by rw [kC_at (k := 3) (by decide)]; decide))
    have ga16513 := hp8.of (h16508.2 (c + 7) (by rw [kC_at (k := 7) (by decide)]; decide))
    have ga16514 := hp9.of (h16508.2 (c + 8) (by rw [kC_at (k := 8) (by decide)]; decide))
    have ga16515 := hp10.of (h16508.2 (c + 9) (by rw [kC_at (k := 9) (by decide)]; decide))
    have ga16516 := hp11.of (h16508.2 (c + 11) (by rw [kC_at (k := 11) (by decide)]; decide))
    obtain ⟨hp, rfl⟩ := hp
    have hyd16517 := hp
    obtain ⟨yd16517, yd16518, yd16519, yd16520, yd16521, yd16522, yd16523⟩ := hyd16517
    refine m_goto F e_X10_readLine_12 ?_
    refine m_aload_n F rfl e_X10_readLine_146 ?_
    refine r_getC F e_X10_readLine_147 fl_X10_141 h16509 (yd16522) ?_
    refine m_if_ne F e_X10_readLine_150 (fun _ => ?_) (fun q => absurd q (by decide))
    refine m_aload_n F rfl e_X10_readLine_166 ?_
    refine r_callV F e_X10_readLine_167 (q_X10_goOnG (x_l X) V c T 0 u h P L _ _  1 h16509.1 (hob) hP  (yd16522) (by decide)) cb_X10_goOn ml_X10_154 im_X10_goOn se_X10_goOn h16509 rfl rfl (rest := []) rfl (Nat.le_of_ble_eq_true rfl) ⟨Nat.le_of_ble_eq_true rfl, Nat.le_of_ble_eq_true rfl⟩ ⟨Nat.le_of_ble_eq_true rfl, Nat.le_of_ble_eq_true rfl⟩ (fun r σ16524 hp => ?_)
    obtain ⟨h16525, hp⟩ := hp
    have h16526 := HS.trans h16509 h16525 (by decide)
    have ga16527 := ga16510.of (h16525.2 (c + 1) (by rw [kC_at (k := 1) (by decide)]; decide))
    have ga16528 := ga16511.of (h16525.2 (c + 2) (by rw [kC_at (k := 2) (by decide)]; decide))
    have ga16529 := ga16512.of (h16525.2 (c + 3) (by rw [kC_at (k := 3) (by decide)]; decide))
    have ga16530 := ga16513.of (h16525.2 (c + 7) (by rw [kC_at (k := 7) (by decide)]; decide))
    have ga16531 := ga16514.of (h16525.2 (c + 8) (by rw [kC_at (k := 8) (by decide)]; decide))
    have ga16532 := ga16515.of (h16525.2 (c + 9) (by rw [kC_at (k := 9) (by decide)]; decide))
    have ga16533 := ga16516.of (h16525.2 (c + 11) (by rw [kC_at (k := 11) (by decide)]; decide))
    obtain ⟨rfl, rfl⟩ := hp
    refine m_aload_n F rfl e_X10_readLine_170 ?_
    refine m_dup F rfl e_X10_readLine_171 ?_
    refine r_getC F e_X10_readLine_172 fl_X10_202 h16526 (yd16517) ?_
    refine m_iconst F (v := 1) (by decide) e_X10_readLine_175 ?_
    refine m_iadd F e_X10_readLine_176 ?_
    refine Wm.topE (w := nI (ln + 1)) (nI_add ln 1) ?_
    refine r_put F (g' := (⟨T, 0, u, h, P, L⟩ : RG)) e_X10_readLine_177 fp_X10_202 h16526 (by decide) ⟨_, rfl⟩ (fun _ _ _ _ q => q) (fun _ _ _ q => q) rfl rfl (by decide) (fun σ16534 h16535 g16536 g16537 f16538 => ?_)
    have ga16539 := ga16510.of (g16536 _ (by omega))
    have ga16540 := ga16511.of (g16536 _ (by omega))
    have ga16541 := ga16512.of (g16536 _ (by omega))
    have ga16542 := ga16513.of (g16536 _ (by omega))
    have ga16543 := ga16514.of (g16536 _ (by omega))
    have ga16544 := ga16515.of (g16536 _ (by omega))
    have ga16545 := ga16516.of (g16536 _ (by omega))
    have h16546 : HS V c _ [0, 2, 17, 18, 19, 20, 21, 22, 23] _ _ := ⟨HR.mono (Z' := Z) (by intro e; first | rfl | assumption | omega) h16535.1, h16535.2⟩
    exact m_vret F hQ e_X10_readLine_180 (⟨P, hP, (by unfold RP; omega), (by rw [lineS_no (by decide)]; show RM _ c n _ (.inl (1, st)); exact RM.l ((g16537 23 (by decide)).trans yd16522) ((g16537 24 (by decide)).trans yd16523) (by omega) (by omega) (by omega)), (fun S2 hS _ => by rw [lineS_no (by decide)] at hS; cases hS), h16546, rfl⟩)
  · refine r_getC F e_X10_readLine_1 fl_X10_110 h1 (yd14007) ?_
    refine m_if_eq F e_X10_readLine_4 (fun q => absurd q (by decide)) (fun _ => ?_)
    refine m_aload_n F rfl e_X10_readLine_7 ?_
    refine m_iconst F (v := 1) (by decide) e_X10_readLine_8 ?_
    refine r_callV F e_X10_readLine_9 (q_X10_wrongE (x_l X) V c T Z u h P L _ _ 1 n st 3 va ln fp h1.1 (hob) hP (by omega) ⟨(yd14004), (yd14005), (yd14006), (yd14007), (yd14008), (yd14009), (yd14010)⟩ (by decide)) cb_X10_wrong ml_X10_150 im_X10_wrong se_X10_wrong h1 rfl rfl (rest := []) rfl (Nat.le_of_ble_eq_true rfl) ⟨Nat.le_of_ble_eq_true rfl, Nat.le_of_ble_eq_true rfl⟩ ⟨Nat.le_of_ble_eq_true rfl, Nat.le_of_ble_eq_true rfl⟩ (fun r σ16547 hp => ?_)
    obtain ⟨h16548, hp⟩ := hp
    have h16549 := HS.trans h1 h16548 (by decide)
    have ga16550 := hp1.of (h16548.2 (c + 1) (by rw [kC_at (k := 1) (by decide)]; decide))
    have ga16551 := hp6.of (h16548.2 (c + 2) (by rw [kC_at (k := 2) (by decide)]; decide))
    have ga16552 := hp7.of (h16548.2 (c + 3) (by rw [kC_at (k := 3) (by decide)]; decide))
    have ga16553 := hp8.of (h16548.2 (c + 7) (by rw [kC_at (k := 7) (by decide)]; decide))
    have ga16554 := hp9.of (h16548.2 (c + 8) (by rw [kC_at (k := 8) (by decide)]; decide))
    have ga16555 := hp10.of (h16548.2 (c + 9) (by rw [kC_at (k := 9) (by decide)]; decide))
    have ga16556 := hp11.of (h16548.2 (c + 11) (by rw [kC_at (k := 11) (by decide)]; decide))
    obtain ⟨hp, rfl⟩ := hp
    have hyd16557 := hp
    obtain ⟨yd16557, yd16558, yd16559, yd16560, yd16561, yd16562, yd16563⟩ := hyd16557
    refine m_goto F e_X10_readLine_12 ?_
    refine m_aload_n F rfl e_X10_readLine_146 ?_
    refine r_getC F e_X10_readLine_147 fl_X10_141 h16549 (yd16562) ?_
    refine m_if_ne F e_X10_readLine_150 (fun _ => ?_) (fun q => absurd q (by decide))
    refine m_aload_n F rfl e_X10_readLine_166 ?_
    refine r_callV F e_X10_readLine_167 (q_X10_goOnG (x_l X) V c T 0 u h P L _ _  1 h16549.1 (hob) hP  (yd16562) (by decide)) cb_X10_goOn ml_X10_154 im_X10_goOn se_X10_goOn h16549 rfl rfl (rest := []) rfl (Nat.le_of_ble_eq_true rfl) ⟨Nat.le_of_ble_eq_true rfl, Nat.le_of_ble_eq_true rfl⟩ ⟨Nat.le_of_ble_eq_true rfl, Nat.le_of_ble_eq_true rfl⟩ (fun r σ16564 hp => ?_)
    obtain ⟨h16565, hp⟩ := hp
    have h16566 := HS.trans h16549 h16565 (by decide)
    have ga16567 := ga16550.of (h16565.2 (c + 1) (by rw [kC_at (k := 1) (by decide)]; decide))
    have ga16568 := ga16551.of (h16565.2 (c + 2) (by rw [kC_at (k := 2) (by decide)]; decide))
    have ga16569 := ga16552.of (h16565.2 (c + 3) (by rw [kC_at (k := 3) (by decide)]; decide))
    have ga16570 := ga16553.of (h16565.2 (c + 7) (by rw [kC_at (k := 7) (by decide)]; decide))
    have ga16571 := ga16554.of (h16565.2 (c + 8) (by rw [kC_at (k := 8) (by decide)]; decide))
    have ga16572 := ga16555.of (h16565.2 (c + 9) (by rw [kC_at (k := 9) (by decide)]; decide))
    have ga16573 := ga16556.of (h16565.2 (c + 11) (by rw [kC_at (k := 11) (by decide)]; decide))
    obtain ⟨rfl, rfl⟩ := hp
    refine m_aload_n F rfl e_X10_readLine_170 ?_
    refine m_dup F rfl e_X10_readLine_171 ?_
    refine r_getC F e_X10_readLine_172 fl_X10_202 h16566 (yd16557) ?_
    refine m_iconst F (v := 1) (by decide) e_X10_readLine_175 ?_
    refine m_iadd F e_X10_readLine_176 ?_
    refine Wm.topE (w := nI (ln + 1)) (nI_add ln 1) ?_
    refine r_put F (g' := (⟨T, 0, u, h, P, L⟩ : RG)) e_X10_readLine_177 fp_X10_202 h16566 (by decide) ⟨_, rfl⟩ (fun _ _ _ _ q => q) (fun _ _ _ q => q) rfl rfl (by decide) (fun σ16574 h16575 g16576 g16577 f16578 => ?_)
    have ga16579 := ga16550.of (g16576 _ (by omega))
    have ga16580 := ga16551.of (g16576 _ (by omega))
    have ga16581 := ga16552.of (g16576 _ (by omega))
    have ga16582 := ga16553.of (g16576 _ (by omega))
    have ga16583 := ga16554.of (g16576 _ (by omega))
    have ga16584 := ga16555.of (g16576 _ (by omega))
    have ga16585 := ga16556.of (g16576 _ (by omega))
    have h16586 : HS V c _ [0, 2, 17, 18, 19, 20, 21, 22, 23] _ _ := ⟨HR.mono (Z' := Z) (by intro e; first | rfl | assumption | omega) h16575.1, h16575.2⟩
    exact m_vret F hQ e_X10_readLine_180 (⟨P, hP, (by unfold RP; omega), (by rw [lineS_no (by decide)]; show RM _ c n _ (.inl (1, st)); exact RM.l ((g16577 23 (by decide)).trans yd16562) ((g16577 24 (by decide)).trans yd16563) (by omega) (by omega) (by omega)), (fun S2 hS _ => by rw [lineS_no (by decide)] at hS; cases hS), h16586, rfl⟩)
  · refine r_getC F e_X10_readLine_1 fl_X10_110 h1 (yd14007) ?_
    refine m_if_eq F e_X10_readLine_4 (fun q => absurd q (by decide)) (fun _ => ?_)
    refine m_aload_n F rfl e_X10_readLine_7 ?_
    refine m_iconst F (v := 1) (by decide) e_X10_readLine_8 ?_
    refine r_callV F e_X10_readLine_9 (q_X10_wrongE (x_l X) V c T Z u h P L _ _ 1 n st 5 va ln fp h1.1 (hob) hP (by omega) ⟨(yd14004), (yd14005), (yd14006), (yd14007), (yd14008), (yd14009), (yd14010)⟩ (by decide)) cb_X10_wrong ml_X10_150 im_X10_wrong se_X10_wrong h1 rfl rfl (rest := []) rfl (Nat.le_of_ble_eq_true rfl) ⟨Nat.le_of_ble_eq_true rfl, Nat.le_of_ble_eq_true rfl⟩ ⟨Nat.le_of_ble_eq_true rfl, Nat.le_of_ble_eq_true rfl⟩ (fun r σ16587 hp => ?_)
    obtain ⟨h16588, hp⟩ := hp
    have h16589 := HS.trans h1 h16588 (by decide)
    have ga16590 := hp1.of (h16588.2 (c + 1) (by rw [kC_at (k := 1) (by decide)]; decide))
    have ga16591 := hp6.of (h16588.2 (c + 2) (by rw [kC_at (k := 2) (by decide)]; decide))
    have ga16592 := hp7.of (h16588.2 (c + 3) (by rw [kC_at (k := 3) (by decide)]; decide))
    have ga16593 := hp8.of (h16588.2 (c + 7) (by rw [kC_at (k := 7) (by decide)]; decide))
    have ga16594 := hp9.of (h16588.2 (c + 8) (by rw [kC_at (k := 8) (by decide)]; decide))
    have ga16595 := hp10.of (h16588.2 (c + 9) (by rw [kC_at (k := 9) (by decide)]; decide))
    have ga16596 := hp11.of (h16588.2 (c + 11) (by rw [kC_at (k := 11) (by decide)]; decide))
    obtain ⟨hp, rfl⟩ := hp
    have hyd16597 := hp
    obtain ⟨yd16597, yd16598, yd16599, yd16600, yd16601, yd16602, yd16603⟩ := hyd16597
    refine m_goto F e_X10_readLine_12 ?_
    refine m_aload_n F rfl e_X10_readLine_146 ?_
    refine r_getC F e_X10_readLine_147 fl_X10_141 h16589 (yd16602) ?_
    refine m_if_ne F e_X10_readLine_150 (fun _ => ?_) (fun q => absurd q (by decide))
    refine m_aload_n F rfl e_X10_readLine_166 ?_
    refine r_callV F e_X10_readLine_167 (q_X10_goOnG (x_l X) V c T 0 u h P L _ _  1 h16589.1 (hob) hP  (yd16602) (by decide)) cb_X10_goOn ml_X10_154 im_X10_goOn se_X10_goOn h16589 rfl rfl (rest := []) rfl (Nat.le_of_ble_eq_true rfl) ⟨Nat.le_of_ble_eq_true rfl, Nat.le_of_ble_eq_true rfl⟩ ⟨Nat.le_of_ble_eq_true rfl, Nat.le_of_ble_eq_true rfl⟩ (fun r σ16604 hp => ?_)
    obtain ⟨h16605, hp⟩ := hp
    have h16606 := HS.trans h16589 h16605 (by decide)
    have ga16607 := ga16590.of (h16605.2 (c + 1) (by rw [kC_at (k := 1) (by decide)]; decide))
    have ga16608 := ga16591.of (h16605.2 (c + 2) (by rw [kC_at (k := 2) (by decide)]; decide))
    have ga16609 := ga16592.of (h16605.2 (c + 3) (by rw [kC_at (k := 3) (by decide)]; decide))
    have ga16610 := ga16593.of (h16605.2 (c + 7) (by rw [kC_at (k := 7) (by decide)]; decide))
    have ga16611 := ga16594.of (h16605.2 (c + 8) (by rw [kC_at (k := 8) (by decide)]; decide))
    have ga16612 := ga16595.of (h16605.2 (c + 9) (by rw [kC_at (k := 9) (by decide)]; decide))
    have ga16613 := ga16596.of (h16605.2 (c + 11) (by rw [kC_at (k := 11) (by decide)]; decide))
    obtain ⟨rfl, rfl⟩ := hp
    refine m_aload_n F rfl e_X10_readLine_170 ?_
    refine m_dup F rfl e_X10_readLine_171 ?_
    refine r_getC F e_X10_readLine_172 fl_X10_202 h16606 (yd16597) ?_
    refine m_iconst F (v := 1) (by decide) e_X10_readLine_175 ?_
    refine m_iadd F e_X10_readLine_176 ?_
    refine Wm.topE (w := nI (ln + 1)) (nI_add ln 1) ?_
    refine r_put F (g' := (⟨T, 0, u, h, P, L⟩ : RG)) e_X10_readLine_177 fp_X10_202 h16606 (by decide) ⟨_, rfl⟩ (fun _ _ _ _ q => q) (fun _ _ _ q => q) rfl rfl (by decide) (fun σ16614 h16615 g16616 g16617 f16618 => ?_)
    have ga16619 := ga16590.of (g16616 _ (by omega))
    have ga16620 := ga16591.of (g16616 _ (by omega))
    have ga16621 := ga16592.of (g16616 _ (by omega))
    have ga16622 := ga16593.of (g16616 _ (by omega))
    have ga16623 := ga16594.of (g16616 _ (by omega))
    have ga16624 := ga16595.of (g16616 _ (by omega))
    have ga16625 := ga16596.of (g16616 _ (by omega))
    have h16626 : HS V c _ [0, 2, 17, 18, 19, 20, 21, 22, 23] _ _ := ⟨HR.mono (Z' := Z) (by intro e; first | rfl | assumption | omega) h16615.1, h16615.2⟩
    exact m_vret F hQ e_X10_readLine_180 (⟨P, hP, (by unfold RP; omega), (by rw [lineS_no (by decide)]; show RM _ c n _ (.inl (1, st)); exact RM.l ((g16617 23 (by decide)).trans yd16602) ((g16617 24 (by decide)).trans yd16603) (by omega) (by omega) (by omega)), (fun S2 hS _ => by rw [lineS_no (by decide)] at hS; cases hS), h16626, rfl⟩)
