set_option maxRecDepth 20000 in
theorem q_X10_freshTextE (l : Launch) (V : VX) (c T Z u h : Nat) (P : NP) (L : Nat → LQ) (N : Nat) (σ : Mem)  (h0 : HR V c ⟨T, Z, u, h, P, L⟩ σ) (hob : OKB L) (hP : OKP P)  : Ct l V yX10_freshText cX10_freshText 2 none 1 0 0 N σ [.ref c] (fun r τ => ∃ P9 : NP, OKP P9 ∧ RP P P9 ∧ (P9.n5 = 0 ∧ P9.n7 = 0 ∧ P9.a = P.a) ∧ NR τ c 0 0 0 ∧ HS V c (⟨T, Z, u, h, P9, L⟩ : RG) [0, 1, 2, 4, 5, 6, 7, 8, 9, 10, 11, 12, 13, 14, 15, 16, 17, 18, 19, 20, 21, 22, 23] σ τ ∧ r = none) := by
  refine Ct.of (by decide) (Nat.le_of_ble_eq_true rfl) [(0, .ref c)] rfl (fun X hX F hQ => ?_)
  have hPP := hP
  unfold OKP at hPP
  have h1 : HS V c ⟨T, Z, u, h, P, L⟩ [0, 1, 2, 4, 5, 6, 7, 8, 9, 10, 11, 12, 13, 14, 15, 16, 17, 18, 19, 20, 21, 22, 23] σ σ := HS.start h0
  refine m_iconst F (v := 0) (by decide) e_X10_freshText_0 ?_
  refine m_istore_n F (lv' := [(1, .int 0), (0, .ref c)]) e_X10_freshText_1 (by decide) rfl ?_
  refine m_iload_n F rfl e_X10_freshText_2 ?_
  refine m_iconst F (v := 5) (by decide) e_X10_freshText_3 ?_
  refine m_icmp_ge F e_X10_freshText_4 (fun q => absurd q (by decide)) (fun _ => ?_)
  refine m_aload_n F rfl e_X10_freshText_7 ?_
  refine m_iload_n F rfl e_X10_freshText_8 ?_
  refine m_iconst F (v := 0) (by decide) e_X10_freshText_9 ?_
  refine r_callV F e_X10_freshText_10 (q_X10_reads0E (x_l X) V c T Z u h P L _ _ 0  h1.1 (hob) hP (by omega) (by omega)) cb_X10_reads ml_X10_170 im_X10_reads se_X10_reads h1 rfl rfl (rest := []) rfl (Nat.le_of_ble_eq_true rfl) ⟨Nat.le_of_ble_eq_true rfl, Nat.le_of_ble_eq_true rfl⟩ ⟨Nat.le_of_ble_eq_true rfl, Nat.le_of_ble_eq_true rfl⟩ (fun r σ16627 hp => ?_)
  obtain ⟨h16628, hp⟩ := hp
  have h16629 := HS.trans h1 h16628 (by decide)
  obtain ⟨ea16630, eb16631, rfl⟩ := hp
  obtain ⟨P16632, eP16632⟩ : ∃ P9, P9 = (mkP P.n0 P.n2 0 P.n7 P.m0 P.m5 P.w2 P.w7 P.kk P.a P.b0 P.b1 P.b2 P.b3) := ⟨_, rfl⟩
  rw [← eP16632] at h16629
  have fP16632 : P16632.n0 = P.n0 ∧ P16632.n2 = P.n2 ∧ P16632.n5 = 0 ∧ P16632.n7 = P.n7 ∧ P16632.m0 = P.m0 ∧ P16632.m5 = P.m5 ∧ P16632.w2 = P.w2 ∧ P16632.w7 = P.w7 ∧ P16632.kk = P.kk ∧ P16632.a = P.a ∧ P16632.b0 = P.b0 ∧ P16632.b1 = P.b1 ∧ P16632.b2 = P.b2 ∧ P16632.b3 = P.b3 := by rw [eP16632]; exact ⟨rfl, rfl, rfl, rfl, rfl, rfl, rfl, rfl, rfl, rfl, rfl, rfl, rfl, rfl⟩
  refine m_iinc F (v := 1) (lv' := [(1, .int 1), (0, .ref c)]) e_X10_freshText_13 rfl (by decide) (by decide) rfl ?_
  refine m_goto F e_X10_freshText_16 ?_
  refine m_iload_n F rfl e_X10_freshText_2 ?_
  refine m_iconst F (v := 5) (by decide) e_X10_freshText_3 ?_
  refine m_icmp_ge F e_X10_freshText_4 (fun q => absurd q (by decide)) (fun _ => ?_)
  refine m_aload_n F rfl e_X10_freshText_7 ?_
  refine m_iload_n F rfl e_X10_freshText_8 ?_
  refine m_iconst F (v := 0) (by decide) e_X10_freshText_9 ?_
  have oP16636 : OKP P16632 := by unfold OKP; omega
  refine r_callV F e_X10_freshText_10 (q_X10_reads1E (x_l X) V c T Z u h P16632 L _ _ 0  h16629.1 (hob) oP16636 (by omega) ) cb_X10_reads ml_X10_170 im_X10_reads se_X10_reads h16629 rfl rfl (rest := []) rfl (Nat.le_of_ble_eq_true rfl) ⟨Nat.le_of_ble_eq_true rfl, Nat.le_of_ble_eq_true rfl⟩ ⟨Nat.le_of_ble_eq_true rfl, Nat.le_of_ble_eq_true rfl⟩ (fun r σ16633 hp => ?_)
  obtain ⟨h16634, hp⟩ := hp
  have h16635 := HS.trans h16629 h16634 (by decide)
  obtain ⟨ea16637, eb16638, rfl⟩ := hp
  refine m_iinc F (v := 2) (lv' := [(1, .int 2), (0, .ref c)]) e_X10_freshText_13 rfl (by decide) (by decide) rfl ?_
  refine m_goto F e_X10_freshText_16 ?_
  refine m_iload_n F rfl e_X10_freshText_2 ?_
  refine m_iconst F (v := 5) (by decide) e_X10_freshText_3 ?_
  refine m_icmp_ge F e_X10_freshText_4 (fun q => absurd q (by decide)) (fun _ => ?_)
  refine m_aload_n F rfl e_X10_freshText_7 ?_
  refine m_iload_n F rfl e_X10_freshText_8 ?_
  refine m_iconst F (v := 0) (by decide) e_X10_freshText_9 ?_
  refine r_callV F e_X10_freshText_10 (q_X10_reads2E (x_l X) V c T Z u h P16632 L _ _ 0  h16635.1 (hob) oP16636 (by omega) (by omega)) cb_X10_reads ml_X10_170 im_X10_reads se_X10_reads h16635 rfl rfl (rest := []) rfl (Nat.le_of_ble_eq_true rfl) ⟨Nat.le_of_ble_eq_true rfl, Nat.le_of_ble_eq_true rfl⟩ ⟨Nat.le_of_ble_eq_true rfl, Nat.le_of_ble_eq_true rfl⟩ (fun r σ16639 hp => ?_)
  obtain ⟨h16640, hp⟩ := hp
  have h16641 := HS.trans h16635 h16640 (by decide)
  obtain ⟨ea16642, eb16643, rfl⟩ := hp
  obtain ⟨P16644, eP16644⟩ : ∃ P9, P9 = (mkP P16632.n0 P16632.n2 P16632.n5 0 P16632.m0 P16632.m5 P16632.w2 P16632.w7 P16632.kk P16632.a P16632.b0 P16632.b1 P16632.b2 P16632.b3) := ⟨_, rfl⟩
  rw [← eP16644] at h16641
  have fP16644 : P16644.n0 = P16632.n0 ∧ P16644.n2 = P16632.n2 ∧ P16644.n5 = P16632.n5 ∧ P16644.n7 = 0 ∧ P16644.m0 = P16632.m0 ∧ P16644.m5 = P16632.m5 ∧ P16644.w2 = P16632.w2 ∧ P16644.w7 = P16632.w7 ∧ P16644.kk = P16632.kk ∧ P16644.a = P16632.a ∧ P16644.b0 = P16632.b0 ∧ P16644.b1 = P16632.b1 ∧ P16644.b2 = P16632.b2 ∧ P16644.b3 = P16632.b3 := by rw [eP16644]; exact ⟨rfl, rfl, rfl, rfl, rfl, rfl, rfl, rfl, rfl, rfl, rfl, rfl, rfl, rfl⟩
  refine m_iinc F (v := 3) (lv' := [(1, .int 3), (0, .ref c)]) e_X10_freshText_13 rfl (by decide) (by decide) rfl ?_
  refine m_goto F e_X10_freshText_16 ?_
  refine m_iload_n F rfl e_X10_freshText_2 ?_
  refine m_iconst F (v := 5) (by decide) e_X10_freshText_3 ?_
  refine m_icmp_ge F e_X10_freshText_4 (fun q => absurd q (by decide)) (fun _ => ?_)
  refine m_aload_n F rfl e_X10_freshText_7 ?_
  refine m_iload_n F rfl e_X10_freshText_8 ?_
  refine m_iconst F (v := 0) (by decide) e_X10_freshText_9 ?_
  have oP16648 : OKP P16644 := by unfold OKP; omega
  refine r_callV F e_X10_freshText_10 (q_X10_reads3E (x_l X) V c T Z u h P16644 L _ _ 0  h16641.1 (hob) oP16648 (by omega) ) cb_X10_reads ml_X10_170 im_X10_reads se_X10_reads h16641 rfl rfl (rest := []) rfl (Nat.le_of_ble_eq_true rfl) ⟨Nat.le_of_ble_eq_true rfl, Nat.le_of_ble_eq_true rfl⟩ ⟨Nat.le_of_ble_eq_true rfl, Nat.le_of_ble_eq_true rfl⟩ (fun r σ16645 hp => ?_)
  obtain ⟨h16646, hp⟩ := hp
  have h16647 := HS.trans h16641 h16646 (by decide)
  obtain ⟨ea16649, eb16650, rfl⟩ := hp
  refine m_iinc F (v := 4) (lv' := [(1, .int 4), (0, .ref c)]) e_X10_freshText_13 rfl (by decide) (by decide) rfl ?_
  refine m_goto F e_X10_freshText_16 ?_
  refine m_iload_n F rfl e_X10_freshText_2 ?_
  refine m_iconst F (v := 5) (by decide) e_X10_freshText_3 ?_
  refine m_icmp_ge F e_X10_freshText_4 (fun q => absurd q (by decide)) (fun _ => ?_)
  refine m_aload_n F rfl e_X10_freshText_7 ?_
  refine m_iload_n F rfl e_X10_freshText_8 ?_
  refine m_iconst F (v := 0) (by decide) e_X10_freshText_9 ?_
  refine r_callV F e_X10_freshText_10 (q_X10_reads4E (x_l X) V c T Z u h P16644 L _ _ 0  h16647.1 (hob) oP16648 (by omega) ) cb_X10_reads ml_X10_170 im_X10_reads se_X10_reads h16647 rfl rfl (rest := []) rfl (Nat.le_of_ble_eq_true rfl) ⟨Nat.le_of_ble_eq_true rfl, Nat.le_of_ble_eq_true rfl⟩ ⟨Nat.le_of_ble_eq_true rfl, Nat.le_of_ble_eq_true rfl⟩ (fun r σ16651 hp => ?_)
  obtain ⟨h16652, hp⟩ := hp
  have h16653 := HS.trans h16647 h16652 (by decide)
  obtain ⟨ea16654, eb16655, rfl⟩ := hp
  refine m_iinc F (v := 5) (lv' := [(1, .int 5), (0, .ref c)]) e_X10_freshText_13 rfl (by decide) (by decide) rfl ?_
  refine m_goto F e_X10_freshText_16 ?_
  refine m_iload_n F rfl e_X10_freshText_2 ?_
  refine m_iconst F (v := 5) (by decide) e_X10_freshText_3 ?_
  refine m_icmp_ge F e_X10_freshText_4 (fun _ => ?_) (fun q => absurd (by decide) q)
  exact m_vret F hQ e_X10_freshText_19 (⟨P16644, oP16648, (by unfold RP; omega), (by omega), ⟨(eb16655 6 (by decide)).trans ((eb16650 6 (by decide)).trans ((eb16643 6 (by decide)).trans ea16637)), (eb16655 8 (by decide)).trans ea16649, 0, by decide, ea16654, by decide⟩, h16653, rfl⟩)
set_option maxRecDepth 20000 in
theorem lq_X10_readTextE_28 {V : VX} {X : MX} {N : Nat} {σ : Mem} {c T Z u h : Nat} {P : NP} {L : Nat → LQ}  {n901 : Nat} {t : Nat → Nat} (F : Fx V X yX10_readText cX10_readText 2 none (rmd 10 0 0)) (hQ : Rt V X 0 0 N (fun r τ => ∃ P9 : NP, OKP P9 ∧ RQ P P9 ∧ RM τ c n901 P9 (textS (tok t n901) 700 (S0 (tok t n901))) ∧ HS V c (⟨T, 1, u, h, P9, L⟩ : RG) [0, 2, 17, 18, 19, 20, 21, 22, 23] σ τ ∧ r = none)) (hob : OKB L) (hP : OKP P) (hn901 : n901 ≤ 700) (hp0 : BR σ c n901 t)  : ∀ (fuel : Nat) (f : Nat) (P1 : NP) (τ : Mem), HS V c (⟨T, 1, u, h, P1, L⟩ : RG) [0, 2, 17, 18, 19, 20, 21, 22, 23] σ τ → OKP P1 → RQ P P1 → ((∃ e : Nat × Nat, (textS (tok t n901) 700 (S0 (tok t n901))) = .inl e ∧ FM τ c e.1 e.2 ∧ 1 ≤ e.1 ∧ e.1 ≤ 4 ∧ e.2 ≤ n901) ∨ (∃ S : SS, MS τ c n901 P1 S ∧ (textS (tok t n901) 700 (S0 (tok t n901))) = textS (tok t n901) f S ∧ (S.1.2.1 ≠ 0 → 701 ≤ f + S.1.2.2.2))) → f < fuel → Wm V X 2 N τ 0 0 28 [(0, .ref c)] [] := by
  intro fuel
  induction fuel with
  | zero => intros; rename_i hm; exact absurd hm (Nat.not_lt_zero _)
  | succ fuel ih =>
    intro f P1 τ h1 hP1 hR1 hi hm
    have hPP := hP
    unfold OKP at hPP
    have hPP1 := hP1
    unfold OKP at hPP1
    unfold RQ at hR1
    refine m_aload_n F rfl e_X10_readText_28 ?_
    rcases hi with ⟨e, e1, ⟨fa16656, fb16657⟩, b1, b2, b3⟩ | ⟨⟨⟨k1, k2, k3, k4⟩, nl, nm, np, nc, lc, no, sd2, md, ln2⟩, ⟨so2, va2, fp2, mt2, yd2, ⟨pa2, p52, p72⟩, hN2, hM2, hK2, hF2, hG2, hQ2, c1, c2, c3, c4, c5⟩, e1, e2⟩
    · have nz8 : nI e.1 ≠ 0 := fun e9 => absurd (nI_inj9 (b := 0) (by omega) (by omega) e9) (by omega)
      refine r_getC F e_X10_readText_29 fl_X10_141 h1 (fa16656) ?_
      refine m_if_ne F e_X10_readText_32 (fun q32 => ?_) (fun q32 => ?_)
      · have c32 : e.1 ≠ 0 := by have hh := mt (nI_eq (a := e.1) (b := 0) (by omega) (by omega)).mpr q32; omega
        exact m_vret F hQ e_X10_readText_50 (⟨P1, hP1, (by unfold RQ; omega), (by rw [e1]; exact ⟨⟨fa16656, fb16657⟩, b1, b2, b3⟩), h1, rfl⟩)
      · have c32 : e.1 = 0 := (nI_eq (a := e.1) (b := 0) (by omega) (by omega)).mp q32
        exact absurd q32 nz8
    · replace pa2 : P1.a = k4 := pa2
      replace c1 : k4 ≤ n901 := c1
      replace c2 : k1 ≤ n901 := c2
      replace e2 : k2 ≠ 0 → 701 ≤ f + k4 := e2
      subst p52
      subst p72
      have hyd16658 := yd2
      obtain ⟨yd16658, yd16659, yd16660, yd16661, yd16662, yd16663, yd16664⟩ := hyd16658
      refine r_getC F e_X10_readText_29 fl_X10_141 h1 (yd16663) ?_
      refine m_if_ne F e_X10_readText_32 (fun q => absurd (by decide) q) (fun _ => ?_)
      refine m_aload_n F rfl e_X10_readText_35 ?_
      refine r_getC F e_X10_readText_36 fl_X10_110 h1 (yd16661) ?_
      refine m_iconst F (v := 4) (by decide) e_X10_readText_39 ?_
      refine m_icmp_eq F e_X10_readText_40 (fun q40 => ?_) (fun q40 => ?_)
      · have ez : k2 = 0 := mt2.z.mp q40
        exact m_vret F hQ e_X10_readText_50 (⟨P1, hP1, (by unfold RQ; omega), (by rw [e1, textS_end (S := ((k1, k2, k3, k4), P1.n5, nm, np, P1.n7, lc, no, sd2, md, ln2)) ez]; exact RM.r (k := (k1, k2, k3, k4)) mt2 ⟨(yd16658), (yd16659), (yd16660), (yd16661), (yd16662), (yd16663), (yd16664)⟩ pa2 rfl rfl hN2 hM2 hK2 hF2 hG2 hQ2 c1 c2 c3 c4 c5), h1, rfl⟩)
      · have ez : k2 ≠ 0 := fun e => q40 (mt2.z.mpr e)
        refine m_aload_n F rfl e_X10_readText_43 ?_
        have hB1 := hp0.of (h1.2 (c + 1) (by rw [kC_at (k := 1) (by decide)]; decide))
        refine r_callV F e_X10_readText_44 (q_X10_readLineE (x_l X) V c T 1 u h P1 L _ _  n901 k1 so2 va2 ln2 fp2 t k2 k3 nm np lc no sd2 md h1.1 (hob) hP1  ⟨(yd16658), (yd16659), (yd16660), (yd16661), (yd16662), (yd16663), (yd16664)⟩ hB1 hn901 (by omega) mt2 c2 hN2 hM2 hK2 hF2 hG2 hQ2 c3 c4 c5) cb_X10_readLine ml_X10_205 im_X10_readLine se_X10_readLine h1 rfl rfl (rest := []) rfl (Nat.le_of_ble_eq_true rfl) ⟨Nat.le_of_ble_eq_true rfl, Nat.le_of_ble_eq_true rfl⟩ ⟨Nat.le_of_ble_eq_true rfl, Nat.le_of_ble_eq_true rfl⟩ (fun r σ16665 hp => ?_)
        obtain ⟨P16668, oP16668, rP16668, pr16669, pr16670, h16666, hp⟩ := hp
        have h16667 := HS.trans h1 h16666 (by decide)
        have xP16668 := oP16668
        unfold OKP at xP16668
        unfold RP at rP16668
        obtain rfl := hp
        rw [pa2] at pr16669 pr16670
        obtain ⟨f, rfl⟩ : ∃ f9, f = f9 + 1 := ⟨f - 1, by have h9 := e2 ez; omega⟩
        cases eo16671 : thenS (lineS (tok t n901) (k1, k2, k3, k4) P1.n5 nm np P1.n7 lc no sd2 md ln2) (stopT (tok t n901)) with
        | inl e8 =>
          rw [eo16671] at pr16669
          refine m_goto F e_X10_readText_47 ?_
          exact ih f P16668 _ h16667 oP16668 (by unfold RQ; omega) (Or.inl ⟨e8, e1.trans (textS_L (S := ((k1, k2, k3, k4), P1.n5, nm, np, P1.n7, lc, no, sd2, md, ln2)) ez eo16671), pr16669⟩) (by omega)
        | inr S2 =>
          rw [eo16671] at pr16669
          have hpr := pr16670 S2 eo16671
          obtain ⟨⟨l1, l2, l3, l4⟩, S3⟩ := S2
          have hal : P16668.a = l4 := by obtain ⟨nl9, nm9, np9, nc9, lc9, no9, sd9, md9, ln9⟩ := S3; obtain ⟨_, _, _, _, _, ⟨h9, _⟩, _⟩ := pr16669; exact h9
          refine m_goto F e_X10_readText_47 ?_
          exact ih f P16668 _ h16667 oP16668 (by unfold RQ; omega) (Or.inr ⟨((l1, l2, l3, l4), S3), pr16669, e1.trans (textS_R (S := ((k1, k2, k3, k4), P1.n5, nm, np, P1.n7, lc, no, sd2, md, ln2)) ez eo16671), fun hz => by have h9 := hpr hz; have h8 := e2 ez; show 701 ≤ f + l4; omega⟩) (by omega)
set_option maxRecDepth 20000 in
theorem q_X10_readTextE (l : Launch) (V : VX) (c T Z u h : Nat) (P : NP) (L : Nat → LQ) (N : Nat) (σ : Mem) (n901 : Nat) (t : Nat → Nat) (h0 : HR V c ⟨T, Z, u, h, P, L⟩ σ) (hob : OKB L) (hP : OKP P) (hn901 : n901 ≤ 700) (hp0 : BR σ c n901 t) : Ct l V yX10_readText cX10_readText 2 none 10 0 0 N σ [.ref c, .int (nI n901)] (fun r τ => ∃ P9 : NP, OKP P9 ∧ RQ P P9 ∧ RM τ c n901 P9 (textS (tok t n901) 700 (S0 (tok t n901))) ∧ HS V c (⟨T, 1, u, h, P9, L⟩ : RG) [0, 2, 17, 18, 19, 20, 21, 22, 23] σ τ ∧ r = none) := by
  refine Ct.of (by decide) (Nat.le_of_ble_eq_true rfl) [(0, .ref c), (1, .int (nI n901))] rfl (fun X hX F hQ => ?_)
  have hPP := hP
  unfold OKP at hPP
  have h1 : HS V c ⟨T, Z, u, h, P, L⟩ [0, 2, 17, 18, 19, 20, 21, 22, 23] σ σ := HS.start h0
  refine m_aload_n F rfl e_X10_readText_0 ?_
  refine m_iload_n F rfl e_X10_readText_1 ?_
  refine r_put F (g' := (⟨T, Z, u, h, P, L⟩ : RG)) e_X10_readText_2 fp_X10_100 h1 (by decide) ⟨n901, (show n901 ≤ 700 by omega), rfl⟩ (fun _ _ _ _ q => q) (fun _ _ _ q => q) rfl rfl (by decide) (fun σ16672 h16673 g16674 g16675 f16676 => ?_)
  have ga16677 := hp0.of (g16674 _ (by omega))
  refine m_aload_n F rfl e_X10_readText_5 ?_
  refine m_iconst F (v := 0) (by decide) e_X10_readText_6 ?_
  refine r_put F (g' := (⟨T, Z, u, h, (mkP P.n0 P.n2 P.n5 P.n7 P.m0 P.m5 P.w2 P.w7 P.kk 0 P.b0 P.b1 P.b2 P.b3), L⟩ : RG)) e_X10_readText_7 fp_X10_97 h16673 (by decide) rfl ctl_a CR.setA rfl rfl (by decide) (fun σ16678 h16679 g16680 g16681 f16682 => ?_)
  have ga16683 := ga16677.of (g16680 _ (by omega))
  obtain ⟨P16684, eP16684⟩ : ∃ P9, P9 = (mkP P.n0 P.n2 P.n5 P.n7 P.m0 P.m5 P.w2 P.w7 P.kk 0 P.b0 P.b1 P.b2 P.b3) := ⟨_, rfl⟩
  rw [← eP16684] at h16679
  have fP16684 : P16684.n0 = P.n0 ∧ P16684.n2 = P.n2 ∧ P16684.n5 = P.n5 ∧ P16684.n7 = P.n7 ∧ P16684.m0 = P.m0 ∧ P16684.m5 = P.m5 ∧ P16684.w2 = P.w2 ∧ P16684.w7 = P.w7 ∧ P16684.kk = P.kk ∧ P16684.a = 0 ∧ P16684.b0 = P.b0 ∧ P16684.b1 = P.b1 ∧ P16684.b2 = P.b2 ∧ P16684.b3 = P.b3 := by rw [eP16684]; exact ⟨rfl, rfl, rfl, rfl, rfl, rfl, rfl, rfl, rfl, rfl, rfl, rfl, rfl, rfl⟩
  refine m_aload_n F rfl e_X10_readText_10 ?_
  refine m_iconst F (v := 0) (by decide) e_X10_readText_11 ?_
  refine r_put F (g' := (⟨T, 1, u, h, P16684, L⟩ : RG)) e_X10_readText_12 fp_X10_141 h16679 (by decide) ⟨_, (fun e => absurd e (show ¬ (1 : Nat) = 0 by decide)), rfl⟩ ctl_Z CR.ctl rfl rfl (by decide) (fun σ16685 h16686 g16687 g16688 f16689 => ?_)
  have ga16690 := ga16683.of (g16687 _ (by omega))
  refine m_aload_n F rfl e_X10_readText_15 ?_
  refine m_iconst F (v := 0) (by decide) e_X10_readText_16 ?_
  refine r_put F (g' := (⟨T, 1, u, h, P16684, L⟩ : RG)) e_X10_readText_17 fp_X10_202 h16686 (by decide) ⟨_, rfl⟩ (fun _ _ _ _ q => q) (fun _ _ _ q => q) rfl rfl (by decide) (fun σ16691 h16692 g16693 g16694 f16695 => ?_)
  have ga16696 := ga16690.of (g16693 _ (by omega))
  refine m_aload_n F rfl e_X10_readText_20 ?_
  have oP16700 : OKP P16684 := by unfold OKP; omega
  refine r_callV F e_X10_readText_21 (q_X10_freshTextE (x_l X) V c T 1 u h P16684 L _ _   h16692.1 (hob) oP16700  ) cb_X10_freshText ml_X10_82 im_X10_freshText se_X10_freshText h16692 rfl rfl (rest := []) rfl (Nat.le_of_ble_eq_true rfl) ⟨Nat.le_of_ble_eq_true rfl, Nat.le_of_ble_eq_true rfl⟩ ⟨Nat.le_of_ble_eq_true rfl, Nat.le_of_ble_eq_true rfl⟩ (fun r σ16697 hp => ?_)
  obtain ⟨P16701, oP16701, rP16701, pr16702, pr16703, h16698, hp⟩ := hp
  have h16699 := HS.trans h16692 h16698 (by decide)
  have xP16701 := oP16701
  unfold OKP at xP16701
  unfold RP at rP16701
  have ga16704 := ga16696.of (h16698.2 (c + 1) (by rw [kC_at (k := 1) (by decide)]; decide))
  obtain rfl := hp
  have hpf := pr16702
  refine m_aload_n F rfl e_X10_readText_24 ?_
  obtain ⟨y20, hy20, f20⟩ := h16699.1.f20
  obtain ⟨y21, f21⟩ := h16699.1.fw (j := 21) rfl
  obtain ⟨y22, f22⟩ := h16699.1.fw (j := 22) rfl
  obtain ⟨y24, f24⟩ := h16699.1.fw (j := 24) rfl
  have ha0 : P16701.a = 0 := by omega
  refine r_callV F e_X10_readText_25 (q_X10_tokenE (x_l X) V c T 1 u h P16701 L _ _  n901 y20 y21 y22 0 0 y24 t h16699.1 (hob) oP16701  ⟨((fld_eq (h16698.2 c (by rw [show kC c c = 1 from kC_at (k := 0) (by decide)]; decide))).trans f16695), ((fld_eq (h16698.2 c (by rw [show kC c c = 1 from kC_at (k := 0) (by decide)]; decide))).trans ((g16694 18 (by decide)).trans ((g16688 18 (by decide)).trans ((g16681 18 (by decide)).trans f16676)))), (f20), (f21), (f22), ((fld_eq (h16698.2 c (by rw [show kC c c = 1 from kC_at (k := 0) (by decide)]; decide))).trans ((g16694 23 (by decide)).trans f16689)), (f24)⟩ ga16704 hn901 (by omega)) cb_X10_token ml_X10_147 im_X10_token se_X10_token h16699 rfl rfl (rest := []) rfl (Nat.le_of_ble_eq_true rfl) ⟨Nat.le_of_ble_eq_true rfl, Nat.le_of_ble_eq_true rfl⟩ ⟨Nat.le_of_ble_eq_true rfl, Nat.le_of_ble_eq_true rfl⟩ (fun r σ16705 hp => ?_)
  obtain ⟨P16708, oP16708, rP16708, pr16709, pr16710, h16706, hp⟩ := hp
  have h16707 := HS.trans h16699 h16706 (by decide)
  have xP16708 := oP16708
  unfold OKP at xP16708
  unfold RA at rP16708
  have ga16711 := ga16704.of (h16706.2 (c + 1) (by rw [kC_at (k := 1) (by decide)]; decide))
  have ga16712 := pr16703.of (h16706.2 (c + 2) (by rw [kC_at (k := 2) (by decide)]; decide))
  obtain rfl := hp
  rw [ha0] at pr16709 pr16710
  obtain ⟨so16713, va16714, mt16715, yd16716⟩ := pr16710
  have hyd16717 := yd16716
  obtain ⟨yd16717, yd16718, yd16719, yd16720, yd16721, yd16722, yd16723⟩ := hyd16717
  refine Wm.lvsub (lv' := [(0, .ref c)]) ?_ [0] rfl
  have b8 := tok_ok (t := t) (n := n901) 0 (by omega)
  exact lq_X10_readTextE_28 (Z := Z) F hQ hob hP hn901 hp0 (700 + 1) 700 P16708 _ h16707 oP16708 (by unfold RQ; omega) (Or.inr ⟨S0 (tok t n901), RM.r (k := tok t n901 0) mt16715 ⟨(yd16717), (yd16718), (yd16719), (yd16720), (yd16721), (yd16722), (yd16723)⟩ (by omega) (by omega) (by omega) ga16712 (fun _ h9 => absurd h9 (Nat.not_lt_zero _)) (fun _ h9 => absurd h9 (Nat.not_lt_zero _)) (fun _ h9 => absurd h9 (Nat.not_lt_zero _)) (fun _ h9 => absurd h9 (Nat.not_lt_zero _)) (Or.inl ⟨rfl, rfl⟩) (by omega) (by omega) (by omega) (by omega) (by omega), rfl, fun hz => by replace hz : (tok t n901 0).2.1 ≠ 0 := hz; have h9 := b8.2.2.2 hz; show 701 ≤ 700 + (tok t n901 0).2.2.2; omega⟩) (Nat.lt_succ_self _)
