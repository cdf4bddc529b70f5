set_option maxRecDepth 20000 in
theorem q_X10_freshTextE (l : Launch) (V : VX) (c T Z u h : Nat) (P : NP) (L : Nat → LQ) (N : Nat) (σ : Mem)  (h0 : HR V c ⟨T, Z, u, h, P, L⟩ σ) (hob : OKB L) (hP : OKP P)  : Ct l V yX10_freshText cX10_freshText 2 none 1 0 0 N σ [.ref c] (fun r τ => ∃ P9 : NP, OKP P9 ∧ RP P P9 ∧ (P9.n5 = 0 ∧ P9.n7 = 0 ∧ P9.a = P.a) ∧ NR τ c 0 0 0 ∧ HS V c (⟨T, Z, u, h, P9, L⟩ : RG) [0, 1, 2, 4, 5, 6, 7, 8, 9, 10, 11, 12, 13, 14, 15, 16, 17, 18, 19, 20, 21, 22, 23] σ τ ∧ r = none) := by
  refine Ct.of (by decide) (Nat.le_of_ble_eq_true rfl) [(0, .ref c)] rfl (fun X hX F hQ => ?_)
  have hPP := hP
  unfold OKP at hPP
  have h1 : HS V c ⟨T, Z, u, h, P, L⟩ [0, 1, 2, 4, 5, 6, 7, 8, 9, 10, 11, 12, 13, 14, 15, 16, 17, 18, 19, 20, 21, 22, 23] σ σ := HS.start h0
  refine m_iconst F (v := 0) (by decide) e_X10_freshText_0 ?_
  refine m_istore_n F (lv' := [(1, .int 0), (0, .ref c)]) e_X10_freshText_1 (by decide) rfl ?_
  refine m_iload_n F rfl e_X10_freshText_2 ?_
  refine m_iconst F (v := 5) (by decide) e_X10_freshText_3 ?_
  refine m_icmp_ge F e_X10_freshText_4 (fun q => absurd q (by decide)) (fun _ => ?_)
  refine m_aload_n F rfl e_X10_freshText_7 ?_
  refine m_iload_n F rfl e_X10_freshText_8 ?_
  refine m_iconst F (v := 0) (by decide) e_X10_freshText_9 ?_
  refine r_callV F e_X10_freshText_10 (q_X10_reads0E (x_l X) V c T Z u h P L _ _ 0  h1.1 (hob) hP (by omega) (by omega)) cb_X10_reads ml_X10_170 im_X10_reads se_X10_reads h1 rfl rfl (rest := []) rfl (Nat.le_of_ble_eq_true rfl) ⟨Nat.le_of_ble_eq_true rfl, Nat.le_of_ble_eq_true rfl⟩ ⟨Nat.le_of_ble_eq_true rfl, Nat.le_of_ble_eq_true rfl⟩ (fun r σ16729 hp => ?_)
  obtain ⟨h16730, hp⟩ := hp
  have h16731 := HS.trans h1 h16730 (by decide)
  obtain ⟨ea16732, eb16733, rfl⟩ := hp
  obtain ⟨P16734, eP16734⟩ : ∃ P9, P9 = (mkP P.n0 P.n2 0 P.n7 P.m0 P.m5 P.w2 P.w7 P.kk P.a P.f P.p) := ⟨_, rfl⟩
  rw [← eP16734] at h16731
  have fP16734 : P16734.n0 = P.n0 ∧ P16734.n2 = P.n2 ∧ P16734.n5 = 0 ∧ P16734.n7 = P.n7 ∧ P16734.m0 = P.m0 ∧ P16734.m5 = P.m5 ∧ P16734.w2 = P.w2 ∧ P16734.w7 = P.w7 ∧ P16734.kk = P.kk ∧ P16734.a = P.a ∧ P16734.f = P.f ∧ P16734.p = P.p := by rw [eP16734]; exact ⟨rfl, rfl, rfl, rfl, rfl, rfl, rfl, rfl, rfl, rfl, rfl, rfl⟩
  refine m_iinc F (v := 1) (lv' := [(1, .int 1), (0, .ref c)]) e_X10_freshText_13 rfl (by decide) (by decide) rfl ?_
  refine m_goto F e_X10_freshText_16 ?_
  refine m_iload_n F rfl e_X10_freshText_2 ?_
  refine m_iconst F (v := 5) (by decide) e_X10_freshText_3 ?_
  refine m_icmp_ge F e_X10_freshText_4 (fun q => absurd q (by decide)) (fun _ => ?_)
  refine m_aload_n F rfl e_X10_freshText_7 ?_
  refine m_iload_n F rfl e_X10_freshText_8 ?_
  refine m_iconst F (v := 0) (by decide) e_X10_freshText_9 ?_
  have oP16738 : OKP P16734 := by unfold OKP; omega
  refine r_callV F e_X10_freshText_10 (q_X10_reads1E (x_l X) V c T Z u h P16734 L _ _ 0  h16731.1 (hob) oP16738 (by omega) ) cb_X10_reads ml_X10_170 im_X10_reads se_X10_reads h16731 rfl rfl (rest := []) rfl (Nat.le_of_ble_eq_true rfl) ⟨Nat.le_of_ble_eq_true rfl, Nat.le_of_ble_eq_true rfl⟩ ⟨Nat.le_of_ble_eq_true rfl, Nat.le_of_ble_eq_true rfl⟩ (fun r σ16735 hp => ?_)
  obtain ⟨h16736, hp⟩ := hp
  have h16737 := HS.trans h16731 h16736 (by decide)
  obtain ⟨ea16739, eb16740, rfl⟩ := hp
  refine m_iinc F (v := 2) (lv' := [(1, .int 2), (0, .ref c)]) e_X10_freshText_13 rfl (by decide) (by decide) rfl ?_
  refine m_goto F e_X10_freshText_16 ?_
  refine m_iload_n F rfl e_X10_freshText_2 ?_
  refine m_iconst F (v := 5) (by decide) e_X10_freshText_3 ?_
  refine m_icmp_ge F e_X10_freshText_4 (fun q => absurd q (by decide)) (fun _ => ?_)
  refine m_aload_n F rfl e_X10_freshText_7 ?_
  refine m_iload_n F rfl e_X10_freshText_8 ?_
  refine m_iconst F (v := 0) (by decide) e_X10_freshText_9 ?_
  refine r_callV F e_X10_freshText_10 (q_X10_reads2E (x_l X) V c T Z u h P16734 L _ _ 0  h16737.1 (hob) oP16738 (by omega) (by omega)) cb_X10_reads ml_X10_170 im_X10_reads se_X10_reads h16737 rfl rfl (rest := []) rfl (Nat.le_of_ble_eq_true rfl) ⟨Nat.le_of_ble_eq_true rfl, Nat.le_of_ble_eq_true rfl⟩ ⟨Nat.le_of_ble_eq_true rfl, Nat.le_of_ble_eq_true rfl⟩ (fun r σ16741 hp => ?_)
  obtain ⟨h16742, hp⟩ := hp
  have h16743 := HS.trans h16737 h16742 (by decide)
  obtain ⟨ea16744, eb16745, rfl⟩ := hp
  obtain ⟨P16746, eP16746⟩ : ∃ P9, P9 = (mkP P16734.n0 P16734.n2 P16734.n5 0 P16734.m0 P16734.m5 P16734.w2 P16734.w7 P16734.kk P16734.a P16734.f P16734.p) := ⟨_, rfl⟩
  rw [← eP16746] at h16743
  have fP16746 : P16746.n0 = P16734.n0 ∧ P16746.n2 = P16734.n2 ∧ P16746.n5 = P16734.n5 ∧ P16746.n7 = 0 ∧ P16746.m0 = P16734.m0 ∧ P16746.m5 = P16734.m5 ∧ P16746.w2 = P16734.w2 ∧ P16746.w7 = P16734.w7 ∧ P16746.kk = P16734.kk ∧ P16746.a = P16734.a ∧ P16746.f = P16734.f ∧ P16746.p = P16734.p := by rw [eP16746]; exact ⟨rfl, rfl, rfl, rfl, rfl, rfl, rfl, rfl, rfl, rfl, rfl, rfl⟩
  refine m_iinc F (v := 3) (lv' := [(1, .int 3), (0, .ref c)]) e_X10_freshText_13 rfl (by decide) (by decide) rfl ?_
  refine m_goto F e_X10_freshText_16 ?_
  refine m_iload_n F rfl e_X10_freshText_2 ?_
  refine m_iconst F (v := 5) (by decide) e_X10_freshText_3 ?_
  refine m_icmp_ge F e_X10_freshText_4 (fun q => absurd q (by decide)) (fun _ => ?_)
  refine m_aload_n F rfl e_X10_freshText_7 ?_
  refine m_iload_n F rfl e_X10_freshText_8 ?_
  refine m_iconst F (v := 0) (by decide) e_X10_freshText_9 ?_
  have oP16750 : OKP P16746 := by unfold OKP; omega
  refine r_callV F e_X10_freshText_10 (q_X10_reads3E (x_l X) V c T Z u h P16746 L _ _ 0  h16743.1 (hob) oP16750 (by omega) ) cb_X10_reads ml_X10_170 im_X10_reads se_X10_reads h16743 rfl rfl (rest := []) rfl (Nat.le_of_ble_eq_true rfl) ⟨Nat.le_of_ble_eq_true rfl, Nat.le_of_ble_eq_true rfl⟩ ⟨Nat.le_of_ble_eq_true rfl, Nat.le_of_ble_eq_true rfl⟩ (fun r σ16747 hp => ?_)
  obtain ⟨h16748, hp⟩ := hp
  have h16749 := HS.trans h16743 h16748 (by decide)
  obtain ⟨ea16751, eb16752, rfl⟩ := hp
  refine m_iinc F (v := 4) (lv' := [(1, .int 4), (0, .ref c)]) e_X10_freshText_13 rfl (by decide) (by decide) rfl ?_
  refine m_goto F e_X10_freshText_16 ?_
  refine m_iload_n F rfl e_X10_freshText_2 ?_
  refine m_iconst F (v := 5) (by decide) e_X10_freshText_3 ?_
  refine m_icmp_ge F e_X10_freshText_4 (fun q => absurd q (by decide)) (fun _ => ?_)
  refine m_aload_n F rfl e_X10_freshText_7 ?_
  refine m_iload_n F rfl e_X10_freshText_8 ?_
  refine m_iconst F (v := 0) (by decide) e_X10_freshText_9 ?_
  refine r_callV F e_X10_freshText_10 (q_X10_reads4E (x_l X) V c T Z u h P16746 L _ _ 0  h16749.1 (hob) oP16750 (by omega) ) cb_X10_reads ml_X10_170 im_X10_reads se_X10_reads h16749 rfl rfl (rest := []) rfl (Nat.le_of_ble_eq_true rfl) ⟨Nat.le_of_ble_eq_true rfl, Nat.le_of_ble_eq_true rfl⟩ ⟨Nat.le_of_ble_eq_true rfl, Nat.le_of_ble_eq_true rfl⟩ (fun r σ16753 hp => ?_)
  obtain ⟨h16754, hp⟩ := hp
  have h16755 := HS.trans h16749 h16754 (by decide)
  obtain ⟨ea16756, eb16757, rfl⟩ := hp
  refine m_iinc F (v := 5) (lv' := [(1, .int 5), (0, .ref c)]) e_X10_freshText_13 rfl (by decide) (by decide) rfl ?_
  refine m_goto F e_X10_freshText_16 ?_
  refine m_iload_n F rfl e_X10_freshText_2 ?_
  refine m_iconst F (v := 5) (by decide) e_X10_freshText_3 ?_
  refine m_icmp_ge F e_X10_freshText_4 (fun _ => ?_) (fun q => absurd (by decide) q)
  exact m_vret F hQ e_X10_freshText_19 (⟨P16746, oP16750, (by unfold RP; omega), (by omega), ⟨(eb16757 6 (by decide)).trans ((eb16752 6 (by decide)).trans ((eb16745 6 (by decide)).trans ea16739)), (eb16757 8 (by decide)).trans ea16751, 0, by decide, ea16756, by decide⟩, h16755, rfl⟩)
set_option maxRecDepth 20000 in
theorem lq_X10_readTextE_28 {V : VX} {X : MX} {N : Nat} {σ : Mem} {c T Z u h : Nat} {P : NP} {L : Nat → LQ}  {n901 : Nat} {t : Nat → Nat} (F : Fx V X yX10_readText cX10_readText 2 none (rmd 10 0 0)) (hQ : Rt V X 0 0 N (fun r τ => ∃ P9 : NP, OKP P9 ∧ RQ P P9 ∧ RM τ c n901 P9 (textS (tok t n901) 700 (S0 (tok t n901))) ∧ HS V c (⟨T, 1, u, h, P9, L⟩ : RG) [0, 2, 17, 18, 19, 20, 21, 22, 23] σ τ ∧ r = none)) (hob : OKB L) (hP : OKP P) (hn901 : n901 ≤ 700) (hp0 : BR σ c n901 t)  : ∀ (fuel : Nat) (f : Nat) (P1 : NP) (τ : Mem), HS V c (⟨T, 1, u, h, P1, L⟩ : RG) [0, 2, 17, 18, 19, 20, 21, 22, 23] σ τ → OKP P1 → RQ P P1 → ((∃ e : Nat × Nat, (textS (tok t n901) 700 (S0 (tok t n901))) = .inl e ∧ FM τ c e.1 e.2 ∧ 1 ≤ e.1 ∧ e.1 ≤ 4 ∧ e.2 ≤ n901) ∨ (∃ S : SS, MS τ c n901 P1 S ∧ (textS (tok t n901) 700 (S0 (tok t n901))) = textS (tok t n901) f S ∧ (S.1.2.1 ≠ 0 → 701 ≤ f + S.1.2.2.2))) → f < fuel → Wm V X 2 N τ 0 0 28 [(0, .ref c)] [] := by
  intro fuel
  induction fuel with
  | zero => intros; rename_i hm; exact absurd hm (Nat.not_lt_zero _)
  | succ fuel ih =>
    intro f P1 τ h1 hP1 hR1 hi hm
    have hPP := hP
    unfold OKP at hPP
    have hPP1 := hP1
    unfold OKP at hPP1
    unfold RQ at hR1
    refine m_aload_n F rfl e_X10_readText_28 ?_
    rcases hi with ⟨e, e1, ⟨fa16758, fb16759⟩, b1, b2, b3⟩ | ⟨⟨⟨k1, k2, k3, k4⟩, nl, nm, np, nc, lc, no, sd2, md, ln2⟩, ⟨so2, va2, fp2, mt2, yd2, ⟨pa2, p52, p72⟩, hN2, hM2, hK2, hF2, hG2, hQ2, c1, c2, c3, c4, c5⟩, e1, e2⟩
    · have nz8 : nI e.1 ≠ 0 := fun e9 => absurd (nI_inj9 (b := 0) (by omega) (by omega) e9) (by omega)
      refine r_getC F e_X10_readText_29 fl_X10_141 h1 (fa16758) ?_
      refine m_if_ne F e_X10_readText_32 (fun q32 => ?_) (fun q32 => ?_)
      · have c32 : e.1 ≠ 0 := by have hh := mt (nI_eq (a := e.1) (b := 0) (by omega) (by omega)).mpr q32; omega
        exact m_vret F hQ e_X10_readText_50 (⟨P1, hP1, (by unfold RQ; omega), (by rw [e1]; exact ⟨⟨fa16758, fb16759⟩, b1, b2, b3⟩), h1, rfl⟩)
      · have c32 : e.1 = 0 := (nI_eq (a := e.1) (b := 0) (by omega) (by omega)).mp q32
        exact absurd q32 nz8
    · replace pa2 : P1.a = k4 := pa2
      replace c1 : k4 ≤ n901 := c1
      replace c2 : k1 ≤ n901 := c2
      replace e2 : k2 ≠ 0 → 701 ≤ f + k4 := e2
      subst p52
      subst p72
      have hyd16760 := yd2
      obtain ⟨yd16760, yd16761, yd16762, yd16763, yd16764, yd16765, yd16766⟩ := hyd16760
      refine r_getC F e_X10_readText_29 fl_X10_141 h1 (yd16765) ?_
      refine m_if_ne F e_X10_readText_32 (fun q => absurd (by decide) q) (fun _ => ?_)
      refine m_aload_n F rfl e_X10_readText_35 ?_
      refine r_getC F e_X10_readText_36 fl_X10_110 h1 (yd16763) ?_
      refine m_iconst F (v := 4) (by decide) e_X10_readText_39 ?_
      refine m_icmp_eq F e_X10_readText_40 (fun q40 => ?_) (fun q40 => ?_)
      · have ez : k2 = 0 := mt2.z.mp q40
        exact m_vret F hQ e_X10_readText_50 (⟨P1, hP1, (by unfold RQ; omega), (by rw [e1, textS_end (S := ((k1, k2, k3, k4), P1.n5, nm, np, P1.n7, lc, no, sd2, md, ln2)) ez]; exact RM.r (k := (k1, k2, k3, k4)) mt2 ⟨(yd16760), (yd16761), (yd16762), (yd16763), (yd16764), (yd16765), (yd16766)⟩ pa2 rfl rfl hN2 hM2 hK2 hF2 hG2 hQ2 c1 c2 c3 c4 c5), h1, rfl⟩)
      · have ez : k2 ≠ 0 := fun e => q40 (mt2.z.mpr e)
        refine m_aload_n F rfl e_X10_readText_43 ?_
        have hB1 := hp0.of (h1.2 (c + 1) (by rw [kC_at (k := 1) (by decide)]; decide))
        refine r_callV F e_X10_readText_44 (q_X10_readLineE (x_l X) V c T 1 u h P1 L _ _  n901 k1 so2 va2 ln2 fp2 t k2 k3 nm np lc no sd2 md h1.1 (hob) hP1  ⟨(yd16760), (yd16761), (yd16762), (yd16763), (yd16764), (yd16765), (yd16766)⟩ hB1 hn901 (by omega) mt2 c2 hN2 hM2 hK2 hF2 hG2 hQ2 c3 c4 c5) cb_X10_readLine ml_X10_205 im_X10_readLine se_X10_readLine h1 rfl rfl (rest := []) rfl (Nat.le_of_ble_eq_true rfl) ⟨Nat.le_of_ble_eq_true rfl, Nat.le_of_ble_eq_true rfl⟩ ⟨Nat.le_of_ble_eq_true rfl, Nat.le_of_ble_eq_true rfl⟩ (fun r σ16767 hp => ?_)
        obtain ⟨P16770, oP16770, rP16770, pr16771, pr16772, h16768, hp⟩ := hp
        have h16769 := HS.trans h1 h16768 (by decide)
        have xP16770 := oP16770
        unfold OKP at xP16770
        unfold RP at rP16770
        obtain rfl := hp
        rw [pa2] at pr16771 pr16772
        obtain ⟨f, rfl⟩ : ∃ f9, f = f9 + 1 := ⟨f - 1, by have h9 := e2 ez; omega⟩
        cases eo16773 : thenS (lineS (tok t n901) (k1, k2, k3, k4) P1.n5 nm np P1.n7 lc no sd2 md ln2) (stopT (tok t n901)) with
        | inl e8 =>
          rw [eo16773] at pr16771
          refine m_goto F e_X10_readText_47 ?_
          exact ih f P16770 _ h16769 oP16770 (by unfold RQ; omega) (Or.inl ⟨e8, e1.trans (textS_L (S := ((k1, k2, k3, k4), P1.n5, nm, np, P1.n7, lc, no, sd2, md, ln2)) ez eo16773), pr16771⟩) (by omega)
        | inr S2 =>
          rw [eo16773] at pr16771
          have hpr := pr16772 S2 eo16773
          obtain ⟨⟨l1, l2, l3, l4⟩, S3⟩ := S2
          have hal : P16770.a = l4 := by obtain ⟨nl9, nm9, np9, nc9, lc9, no9, sd9, md9, ln9⟩ := S3; obtain ⟨_, _, _, _, _, ⟨h9, _⟩, _⟩ := pr16771; exact h9
          refine m_goto F e_X10_readText_47 ?_
          exact ih f P16770 _ h16769 oP16770 (by unfold RQ; omega) (Or.inr ⟨((l1, l2, l3, l4), S3), pr16771, e1.trans (textS_R (S := ((k1, k2, k3, k4), P1.n5, nm, np, P1.n7, lc, no, sd2, md, ln2)) ez eo16773), fun hz => by have h9 := hpr hz; have h8 := e2 ez; show 701 ≤ f + l4; omega⟩) (by omega)
set_option maxRecDepth 20000 in
theorem q_X10_readTextE (l : Launch) (V : VX) (c T Z u h : Nat) (P : NP) (L : Nat → LQ) (N : Nat) (σ : Mem) (n901 : Nat) (t : Nat → Nat) (h0 : HR V c ⟨T, Z, u, h, P, L⟩ σ) (hob : OKB L) (hP : OKP P) (hn901 : n901 ≤ 700) (hp0 : BR σ c n901 t) : Ct l V yX10_readText cX10_readText 2 none 10 0 0 N σ [.ref c, .int (nI n901)] (fun r τ => ∃ P9 : NP, OKP P9 ∧ RQ P P9 ∧ RM τ c n901 P9 (textS (tok t n901) 700 (S0 (tok t n901))) ∧ HS V c (⟨T, 1, u, h, P9, L⟩ : RG) [0, 2, 17, 18, 19, 20, 21, 22, 23] σ τ ∧ r = none) := by
  refine Ct.of (by decide) (Nat.le_of_ble_eq_true rfl) [(0, .ref c), (1, .int (nI n901))] rfl (fun X hX F hQ => ?_)
  have hPP := hP
  unfold OKP at hPP
  have h1 : HS V c ⟨T, Z, u, h, P, L⟩ [0, 2, 17, 18, 19, 20, 21, 22, 23] σ σ := HS.start h0
  refine m_aload_n F rfl e_X10_readText_0 ?_
  refine m_iload_n F rfl e_X10_readText_1 ?_
  refine r_put F (g' := (⟨T, Z, u, h, P, L⟩ : RG)) e_X10_readText_2 fp_X10_100 h1 (by decide) ⟨n901, (show n901 ≤ 700 by omega), rfl⟩ (fun _ _ _ _ q => q) (fun _ _ _ q => q) rfl rfl (by decide) (fun σ16774 h16775 g16776 g16777 f16778 => ?_)
  have ga16779 := hp0.of (g16776 _ (by omega))
  refine m_aload_n F rfl e_X10_readText_5 ?_
  refine m_iconst F (v := 0) (by decide) e_X10_readText_6 ?_
  refine r_put F (g' := (⟨T, Z, u, h, (mkP P.n0 P.n2 P.n5 P.n7 P.m0 P.m5 P.w2 P.w7 P.kk 0 P.f P.p), L⟩ : RG)) e_X10_readText_7 fp_X10_97 h16775 (by decide) rfl ctl_a CR.setA rfl rfl (by decide) (fun σ16780 h16781 g16782 g16783 f16784 => ?_)
  have ga16785 := ga16779.of (g16782 _ (by omega))
  obtain ⟨P16786, eP16786⟩ : ∃ P9, P9 = (mkP P.n0 P.n2 P.n5 P.n7 P.m0 P.m5 P.w2 P.w7 P.kk 0 P.f P.p) := ⟨_, rfl⟩
  rw [← eP16786] at h16781
  have fP16786 : P16786.n0 = P.n0 ∧ P16786.n2 = P.n2 ∧ P16786.n5 = P.n5 ∧ P16786.n7 = P.n7 ∧ P16786.m0 = P.m0 ∧ P16786.m5 = P.m5 ∧ P16786.w2 = P.w2 ∧ P16786.w7 = P.w7 ∧ P16786.kk = P.kk ∧ P16786.a = 0 ∧ P16786.f = P.f ∧ P16786.p = P.p := by rw [eP16786]; exact ⟨rfl, rfl, rfl, rfl, rfl, rfl, rfl, rfl, rfl, rfl, rfl, rfl⟩
  refine m_aload_n F rfl e_X10_readText_10 ?_
  refine m_iconst F (v := 0) (by decide) e_X10_readText_11 ?_
  refine r_put F (g' := (⟨T, 1, u, h, P16786, L⟩ : RG)) e_X10_readText_12 fp_X10_141 h16781 (by decide) ⟨_, (fun e => absurd e (show ¬ (1 : Nat) = 0 by decide)), rfl⟩ ctl_Z CR.ctl rfl rfl (by decide) (fun σ16787 h16788 g16789 g16790 f16791 => ?_)
  have ga16792 := ga16785.of (g16789 _ (by omega))
  refine m_aload_n F rfl e_X10_readText_15 ?_
  refine m_iconst F (v := 0) (by decide) e_X10_readText_16 ?_
  refine r_put F (g' := (⟨T, 1, u, h, P16786, L⟩ : RG)) e_X10_readText_17 fp_X10_202 h16788 (by decide) ⟨_, rfl⟩ (fun _ _ _ _ q => q) (fun _ _ _ q => q) rfl rfl (by decide) (fun σ16793 h16794 g16795 g16796 f16797 => ?_)
  have ga16798 := ga16792.of (g16795 _ (by omega))
  refine m_aload_n F rfl e_X10_readText_20 ?_
  have oP16802 : OKP P16786 := by unfold OKP; omega
  refine r_callV F e_X10_readText_21 (q_X10_freshTextE (x_l X) V c T 1 u h P16786 L _ _   h16794.1 (hob) oP16802  ) cb_X10_freshText ml_X10_82 im_X10_freshText se_X10_freshText h16794 rfl rfl (rest := []) rfl (Nat.le_of_ble_eq_true rfl) ⟨Nat.le_of_ble_eq_true rfl, Nat.le_of_ble_eq_true rfl⟩ ⟨Nat.le_of_ble_eq_true rfl, Nat.le_of_ble_eq_true rfl⟩ (fun r σ16799 hp => ?_)
  obtain ⟨P16803, oP16803, rP16803, pr16804, pr16805, h16800, hp⟩ := hp
  have h16801 := HS.trans h16794 h16800 (by decide)
  have xP16803 := oP16803
  unfold OKP at xP16803
  unfold RP at rP16803
  have ga16806 := ga16798.of (h16800.2 (c + 1) (by rw [kC_at (k := 1) (by decide)]; decide))
  obtain rfl := hp
  have hpf := pr16804
  refine m_aload_n F rfl e_X10_readText_24 ?_
  obtain ⟨y20, hy20, f20⟩ := h16801.1.f20
  obtain ⟨y21, f21⟩ := h16801.1.fw (j := 21) rfl
  obtain ⟨y22, f22⟩ := h16801.1.fw (j := 22) rfl
  obtain ⟨y24, f24⟩ := h16801.1.fw (j := 24) rfl
  have ha0 : P16803.a = 0 := by omega
  refine r_callV F e_X10_readText_25 (q_X10_tokenE (x_l X) V c T 1 u h P16803 L _ _  n901 y20 y21 y22 0 0 y24 t h16801.1 (hob) oP16803  ⟨((fld_eq (h16800.2 c (by rw [show kC c c = 1 from kC_at (k := 0) (by decide)]; decide))).trans f16797), ((fld_eq (h16800.2 c (by rw [show kC c c = 1 from kC_at (k := 0) (by decide)]; decide))).trans ((g16796 18 (by decide)).trans ((g16790 18 (by decide)).trans ((g16783 18 (by decide)).trans f16778)))), (f20), (f21), (f22), ((fld_eq (h16800.2 c (by rw [show kC c c = 1 from kC_at (k := 0) (by decide)]; decide))).trans ((g16796 23 (by decide)).trans f16791)), (f24)⟩ ga16806 hn901 (by omega)) cb_X10_token ml_X10_147 im_X10_token se_X10_token h16801 rfl rfl (rest := []) rfl (Nat.le_of_ble_eq_true rfl) ⟨Nat.le_of_ble_eq_true rfl, Nat.le_of_ble_eq_true rfl⟩ ⟨Nat.le_of_ble_eq_true rfl, Nat.le_of_ble_eq_true rfl⟩ (fun r σ16807 hp => ?_)
  obtain ⟨P16810, oP16810, rP16810, pr16811, pr16812, h16808, hp⟩ := hp
  have h16809 := HS.trans h16801 h16808 (by decide)
  have xP16810 := oP16810
  unfold OKP at xP16810
  unfold RA at rP16810
  have ga16813 := ga16806.of (h16808.2 (c + 1) (by rw [kC_at (k := 1) (by decide)]; decide))
  have ga16814 := pr16805.of (h16808.2 (c + 2) (by rw [kC_at (k := 2) (by decide)]; decide))
  obtain rfl := hp
  rw [ha0] at pr16811 pr16812
  obtain ⟨so16815, va16816, mt16817, yd16818⟩ := pr16812
  have hyd16819 := yd16818
  obtain ⟨yd16819, yd16820, yd16821, yd16822, yd16823, yd16824, yd16825⟩ := hyd16819
  refine Wm.lvsub (lv' := [(0, .ref c)]) ?_ [0] rfl
  have b8 := tok_ok (t := t) (n := n901) 0 (by omega)
  exact lq_X10_readTextE_28 (Z := Z) F hQ hob hP hn901 hp0 (700 + 1) 700 P16810 _ h16809 oP16810 (by unfold RQ; omega) (Or.inr ⟨S0 (tok t n901), RM.r (k := tok t n901 0) mt16817 ⟨(yd16819), (yd16820), (yd16821), (yd16822), (yd16823), (yd16824), (yd16825)⟩ (by omega) (by omega) (by omega) ga16814 (fun _ h9 => absurd h9 (Nat.not_lt_zero _)) (fun _ h9 => absurd h9 (Nat.not_lt_zero _)) (fun _ h9 => absurd h9 (Nat.not_lt_zero _)) (fun _ h9 => absurd h9 (Nat.not_lt_zero _)) (Or.inl ⟨rfl, rfl⟩) (by omega) (by omega) (by omega) (by omega) (by omega), rfl, fun hz => by replace hz : (tok t n901 0).2.1 ≠ 0 := hz; have h9 := b8.2.2.2 hz; show 701 ≤ 700 + (tok t n901 0).2.2.2; omega⟩) (Nat.lt_succ_self _)
