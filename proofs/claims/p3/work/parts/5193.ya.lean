set_option maxRecDepth 20000 in
theorem q_X10_freshTextE (l : Launch) (V : VX) (c T Z u h : Nat) (P : NP) (L : Nat → LQ) (N : Nat) (σ : Mem)  (h0 : HR V c ⟨T, Z, u, h, P, L⟩ σ) (hob : OKB L) (hP : OKP P)  : Ct l V yX10_freshText cX10_freshText 2 none 1 0 0 N σ [.ref c] (fun r τ => ∃ P9 : NP, OKP P9 ∧ RP P P9 ∧ (P9.n5 = 0 ∧ P9.n7 = 0 ∧ P9.a = P.a) ∧ NR τ c 0 0 0 ∧ HS V c (⟨T, Z, u, h, P9, L⟩ : RG) [0, 1, 2, 4, 5, 6, 7, 8, 9, 10, 11, 12, 13, 14, 15, 16, 17, 18, 19, 20, 21, 22, 23] σ τ ∧ r = none) := by
  refine Ct.of (by decide) (Nat.le_of_ble_eq_true rfl) [(0, .ref c)] rfl (fun X hX F hQ => ?_)
  have hPP := hP
  unfold OKP at hPP
  have h1 : HS V c ⟨T, Z, u, h, P, L⟩ [0, 1, 2, 4, 5, 6, 7, 8, 9, 10, 11, 12, 13, 14, 15, 16, 17, 18, 19, 20, 21, 22, 23] σ σ := HS.start h0
  refine m_iconst F (v := 0) (by decide) e_X10_freshText_0 ?_
  refine m_istore_n F (lv' := [(1, .int 0), (0, .ref c)]) e_X10_freshText_1 (by decide) rfl ?_
  refine m_iload_n F rfl e_X10_freshText_2 ?_
  refine m_iconst F (v := 5) (by decide) e_X10_freshText_3 ?_
  refine m_icmp_ge F e_X10_freshText_4 (fun q => absurd q (by decide)) (fun _ => ?_)
  refine m_aload_n F rfl e_X10_freshText_7 ?_
  refine m_iload_n F rfl e_X10_freshText_8 ?_
  refine m_iconst F (v := 0) (by decide) e_X10_freshText_9 ?_
  refine r_callV F e_X10_freshText_10 (q_X10_reads0E (x_l X) V c T Z u h P L _ _ 0  h1.1 (hob) hP (by omega) (by omega)) cb_X10_reads ml_X10_170 im_X10_reads se_X10_reads h1 rfl rfl (rest := []) rfl (Nat.le_of_ble_eq_true rfl) ⟨Nat.le_of_ble_eq_true rfl, Nat.le_of_ble_eq_true rfl⟩ ⟨Nat.le_of_ble_eq_true rfl, Nat.le_of_ble_eq_true rfl⟩ (fun r σ16724 hp => ?_)
  obtain ⟨h16725, hp⟩ := hp
  have h16726 := HS.trans h1 h16725 (by decide)
  obtain ⟨ea16727, eb16728, rfl⟩ := hp
  obtain ⟨P16729, eP16729⟩ : ∃ P9, P9 = (mkP P.n0 P.n2 0 P.n7 P.m0 P.m5 P.w2 P.w7 P.kk P.a) := ⟨_, rfl⟩
  rw [← eP16729] at h16726
  have fP16729 : P16729.n0 = P.n0 ∧ P16729.n2 = P.n2 ∧ P16729.n5 = 0 ∧ P16729.n7 = P.n7 ∧ P16729.m0 = P.m0 ∧ P16729.m5 = P.m5 ∧ P16729.w2 = P.w2 ∧ P16729.w7 = P.w7 ∧ P16729.kk = P.kk ∧ P16729.a = P.a := by rw [eP16729]; exact ⟨rfl, rfl, rfl, rfl, rfl, rfl, rfl, rfl, rfl, rfl⟩
  refine m_iinc F (v := 1) (lv' := [(1, .int 1), (0, .ref c)]) e_X10_freshText_13 rfl (by decide) (by decide) rfl ?_
  refine m_goto F e_X10_freshText_16 ?_
  refine m_iload_n F rfl e_X10_freshText_2 ?_
  refine m_iconst F (v := 5) (by decide) e_X10_freshText_3 ?_
  refine m_icmp_ge F e_X10_freshText_4 (fun q => absurd q (by decide)) (fun _ => ?_)
  refine m_aload_n F rfl e_X10_freshText_7 ?_
  refine m_iload_n F rfl e_X10_freshText_8 ?_
  refine m_iconst F (v := 0) (by decide) e_X10_freshText_9 ?_
  have oP16733 : OKP P16729 := by unfold OKP; omega
  refine r_callV F e_X10_freshText_10 (q_X10_reads1E (x_l X) V c T Z u h P16729 L _ _ 0  h16726.1 (hob) oP16733 (by omega) ) cb_X10_reads ml_X10_170 im_X10_reads se_X10_reads h16726 rfl rfl (rest := []) rfl (Nat.le_of_ble_eq_true rfl) ⟨Nat.le_of_ble_eq_true rfl, Nat.le_of_ble_eq_true rfl⟩ ⟨Nat.le_of_ble_eq_true rfl, Nat.le_of_ble_eq_true rfl⟩ (fun r σ16730 hp => ?_)
  obtain ⟨h16731, hp⟩ := hp
  have h16732 := HS.trans h16726 h16731 (by decide)
  obtain ⟨ea16734, eb16735, rfl⟩ := hp
  refine m_iinc F (v := 2) (lv' := [(1, .int 2), (0, .ref c)]) e_X10_freshText_13 rfl (by decide) (by decide) rfl ?_
  refine m_goto F e_X10_freshText_16 ?_
  refine m_iload_n F rfl e_X10_freshText_2 ?_
  refine m_iconst F (v := 5) (by decide) e_X10_freshText_3 ?_
  refine m_icmp_ge F e_X10_freshText_4 (fun q => absurd q (by decide)) (fun _ => ?_)
  refine m_aload_n F rfl e_X10_freshText_7 ?_
  refine m_iload_n F rfl e_X10_freshText_8 ?_
  refine m_iconst F (v := 0) (by decide) e_X10_freshText_9 ?_
  refine r_callV F e_X10_freshText_10 (q_X10_reads2E (x_l X) V c T Z u h P16729 L _ _ 0  h16732.1 (hob) oP16733 (by omega) (by omega)) cb_X10_reads ml_X10_170 im_X10_reads se_X10_reads h16732 rfl rfl (rest := []) rfl (Nat.le_of_ble_eq_true rfl) ⟨Nat.le_of_ble_eq_true rfl, Nat.le_of_ble_eq_true rfl⟩ ⟨Nat.le_of_ble_eq_true rfl, Nat.le_of_ble_eq_true rfl⟩ (fun r σ16736 hp => ?_)
  obtain ⟨h16737, hp⟩ := hp
  have h16738 := HS.trans h16732 h16737 (by decide)
  obtain ⟨ea16739, eb16740, rfl⟩ := hp
  obtain ⟨P16741, eP16741⟩ : ∃ P9, P9 = (mkP P16729.n0 P16729.n2 P16729.n5 0 P16729.m0 P16729.m5 P16729.w2 P16729.w7 P16729.kk P16729.a) := ⟨_, rfl⟩
  rw [← eP16741] at h16738
  have fP16741 : P16741.n0 = P16729.n0 ∧ P16741.n2 = P16729.n2 ∧ P16741.n5 = P16729.n5 ∧ P16741.n7 = 0 ∧ P16741.m0 = P16729.m0 ∧ P16741.m5 = P16729.m5 ∧ P16741.w2 = P16729.w2 ∧ P16741.w7 = P16729.w7 ∧ P16741.kk = P16729.kk ∧ P16741.a = P16729.a := by rw [eP16741]; exact ⟨rfl, rfl, rfl, rfl, rfl, rfl, rfl, rfl, rfl, rfl⟩
  refine m_iinc F (v := 3) (lv' := [(1, .int 3), (0, .ref c)]) e_X10_freshText_13 rfl (by decide) (by decide) rfl ?_
  refine m_goto F e_X10_freshText_16 ?_
  refine m_iload_n F rfl e_X10_freshText_2 ?_
  refine m_iconst F (v := 5) (by decide) e_X10_freshText_3 ?_
  refine m_icmp_ge F e_X10_freshText_4 (fun q => absurd q (by decide)) (fun _ => ?_)
  refine m_aload_n F rfl e_X10_freshText_7 ?_
  refine m_iload_n F rfl e_X10_freshText_8 ?_
  refine m_iconst F (v := 0) (by decide) e_X10_freshText_9 ?_
  have oP16745 : OKP P16741 := by unfold OKP; omega
  refine r_callV F e_X10_freshText_10 (q_X10_reads3E (x_l X) V c T Z u h P16741 L _ _ 0  h16738.1 (hob) oP16745 (by omega) ) cb_X10_reads ml_X10_170 im_X10_reads se_X10_reads h16738 rfl rfl (rest := []) rfl (Nat.le_of_ble_eq_true rfl) ⟨Nat.le_of_ble_eq_true rfl, Nat.le_of_ble_eq_true rfl⟩ ⟨Nat.le_of_ble_eq_true rfl, Nat.le_of_ble_eq_true rfl⟩ (fun r σ16742 hp => ?_)
  obtain ⟨h16743, hp⟩ := hp
  have h16744 := HS.trans h16738 h16743 (by decide)
  obtain ⟨ea16746, eb16747, rfl⟩ := hp
  refine m_iinc F (v := 4) (lv' := [(1, .int 4), (0, .ref c)]) e_X10_freshText_13 rfl (by decide) (by decide) rfl ?_
  refine m_goto F e_X10_freshText_16 ?_
  refine m_iload_n F rfl e_X10_freshText_2 ?_
  refine m_iconst F (v := 5) (by decide) e_X10_freshText_3 ?_
  refine m_icmp_ge F e_X10_freshText_4 (fun q => absurd q (by decide)) (fun _ => ?_)
  refine m_aload_n F rfl e_X10_freshText_7 ?_
  refine m_iload_n F rfl e_X10_freshText_8 ?_
  refine m_iconst F (v := 0) (by decide) e_X10_freshText_9 ?_
  refine r_callV F e_X10_freshText_10 (q_X10_reads4E (x_l X) V c T Z u h P16741 L _ _ 0  h16744.1 (hob) oP16745 (by omega) ) cb_X10_reads ml_X10_170 im_X10_reads se_X10_reads h16744 rfl rfl (rest := []) rfl (Nat.le_of_ble_eq_true rfl) ⟨Nat.le_of_ble_eq_true rfl, Nat.le_of_ble_eq_true rfl⟩ ⟨Nat.le_of_ble_eq_true rfl, Nat.le_of_ble_eq_true rfl⟩ (fun r σ16748 hp => ?_)
  obtain ⟨h16749, hp⟩ := hp
  have h16750 := HS.trans h16744 h16749 (by decide)
  obtain ⟨ea16751, eb16752, rfl⟩ := hp
  refine m_iinc F (v := 5) (lv' := [(1, .int 5), (0, .ref c)]) e_X10_freshText_13 rfl (by decide) (by decide) rfl ?_
  refine m_goto F e_X10_freshText_16 ?_
  refine m_iload_n F rfl e_X10_freshText_2 ?_
  refine m_iconst F (v := 5) (by decide) e_X10_freshText_3 ?_
  refine m_icmp_ge F e_X10_freshText_4 (fun _ => ?_) (fun q => absurd (by decide) q)
  exact m_vret F hQ e_X10_freshText_19 (⟨P16741, oP16745, (by unfold RP; omega), (by omega), ⟨(eb16752 6 (by decide)).trans ((eb16747 6 (by decide)).trans ((eb16740 6 (by decide)).trans ea16734)), (eb16752 8 (by decide)).trans ea16746, 0, by decide, ea16751, by decide⟩, h16750, rfl⟩)
set_option maxRecDepth 20000 in
theorem lq_X10_readTextE_28 {V : VX} {X : MX} {N : Nat} {σ : Mem} {c T Z u h : Nat} {P : NP} {L : Nat → LQ}  {n901 : Nat} {t : Nat → Nat} (F : Fx V X yX10_readText cX10_readText 2 none (rmd 10 0 0)) (hQ : Rt V X 0 0 N (fun r τ => ∃ P9 : NP, OKP P9 ∧ RQ P P9 ∧ RM τ c n901 P9 (textS (tok t n901) 700 (S0 (tok t n901))) ∧ HS V c (⟨T, 1, u, h, P9, L⟩ : RG) [0, 2, 17, 18, 19, 20, 21, 22, 23] σ τ ∧ r = none)) (hob : OKB L) (hP : OKP P) (hn901 : n901 ≤ 700) (hp0 : BR σ c n901 t)  : ∀ (fuel : Nat) (f : Nat) (P1 : NP) (τ : Mem), HS V c (⟨T, 1, u, h, P1, L⟩ : RG) [0, 2, 17, 18, 19, 20, 21, 22, 23] σ τ → OKP P1 → RQ P P1 → ((∃ e : Nat × Nat, (textS (tok t n901) 700 (S0 (tok t n901))) = .inl e ∧ FM τ c e.1 e.2 ∧ 1 ≤ e.1 ∧ e.1 ≤ 4 ∧ e.2 ≤ n901) ∨ (∃ S : SS, MS τ c n901 P1 S ∧ (textS (tok t n901) 700 (S0 (tok t n901))) = textS (tok t n901) f S ∧ (S.1.2.1 ≠ 0 → 701 ≤ f + S.1.2.2.2))) → f < fuel → Wm V X 2 N τ 0 0 28 [(0, .ref c)] [] := by
  intro fuel
  induction fuel with
  | zero => intros; rename_i hm; exact absurd hm (Nat.not_lt_zero _)
  | succ fuel ih =>
    intro f P1 τ h1 hP1 hR1 hi hm
    have hPP := hP
    unfold OKP at hPP
    have hPP1 := hP1
    unfold OKP at hPP1
    unfold RQ at hR1
    refine m_aload_n F rfl e_X10_readText_28 ?_
    rcases hi with ⟨e, e1, ⟨fa16753, fb16754⟩, b1, b2, b3⟩ | ⟨⟨⟨k1, k2, k3, k4⟩, nl, nm, np, nc, lc, no, sd2, md, ln2⟩, ⟨so2, va2, fp2, mt2, yd2, ⟨pa2, p52, p72⟩, hN2, hM2, hK2, hF2, hG2, hQ2, c1, c2, c3, c4, c5⟩, e1, e2⟩
    · have nz8 : nI e.1 ≠ 0 := fun e9 => absurd (nI_inj9 (b := 0) (by omega) (by omega) e9) (by omega)
      refine r_getC F e_X10_readText_29 fl_X10_141 h1 (fa16753) ?_
      refine m_if_ne F e_X10_readText_32 (fun q32 => ?_) (fun q32 => ?_)
      · have c32 : e.1 ≠ 0 := by have hh := mt (nI_eq (a := e.1) (b := 0) (by omega) (by omega)).mpr q32; omega
        exact m_vret F hQ e_X10_readText_50 (⟨P1, hP1, (by unfold RQ; omega), (by rw [e1]; exact ⟨⟨fa16753, fb16754⟩, b1, b2, b3⟩), h1, rfl⟩)
      · have c32 : e.1 = 0 := (nI_eq (a := e.1) (b := 0) (by omega) (by omega)).mp q32
        exact absurd q32 nz8
    · replace pa2 : P1.a = k4 := pa2
      replace c1 : k4 ≤ n901 := c1
      replace c2 : k1 ≤ n901 := c2
      replace e2 : k2 ≠ 0 → 701 ≤ f + k4 := e2
      subst p52
      subst p72
      have hyd16755 := yd2
      obtain ⟨yd16755, yd16756, yd16757, yd16758, yd16759, yd16760, yd16761⟩ := hyd16755
      refine r_getC F e_X10_readText_29 fl_X10_141 h1 (yd16760) ?_
      refine m_if_ne F e_X10_readText_32 (fun q => absurd (by decide) q) (fun _ => ?_)
      refine m_aload_n F rfl e_X10_readText_35 ?_
      refine r_getC F e_X10_readText_36 fl_X10_110 h1 (yd16758) ?_
      refine m_iconst F (v := 4) (by decide) e_X10_readText_39 ?_
      refine m_icmp_eq F e_X10_readText_40 (fun q40 => ?_) (fun q40 => ?_)
      · have ez : k2 = 0 := mt2.z.mp q40
        exact m_vret F hQ e_X10_readText_50 (⟨P1, hP1, (by unfold RQ; omega), (by rw [e1, textS_end (S := ((k1, k2, k3, k4), P1.n5, nm, np, P1.n7, lc, no, sd2, md, ln2)) ez]; exact RM.r (k := (k1, k2, k3, k4)) mt2 ⟨(yd16755), (yd16756), (yd16757), (yd16758), (yd16759), (yd16760), (yd16761)⟩ pa2 rfl rfl hN2 hM2 hK2 hF2 hG2 hQ2 c1 c2 c3 c4 c5), h1, rfl⟩)
      · have ez : k2 ≠ 0 := fun e => q40 (mt2.z.mpr e)
        refine m_aload_n F rfl e_X10_readText_43 ?_
        have hB1 := hp0.of (h1.2 (c + 1) (by rw [kC_at (k := 1) (by decide)]; decide))
        refine r_callV F e_X10_readText_44 (q_X10_readLineE (x_l X) V c T 1 u h P1 L _ _  n901 k1 so2 va2 ln2 fp2 t k2 k3 nm np lc no sd2 md h1.1 (hob) hP1  ⟨(yd16755), (yd16756), (yd16757), (yd16758), (yd16759), (yd16760), (yd16761)⟩ hB1 hn901 (by omega) mt2 c2 hN2 hM2 hK2 hF2 hG2 hQ2 c3 c4 c5) cb_X10_readLine ml_X10_205 im_X10_readLine se_X10_readLine h1 rfl rfl (rest := []) rfl (Nat.le_of_ble_eq_true rfl) ⟨Nat.le_of_ble_eq_true rfl, Nat.le_of_ble_eq_true rfl⟩ ⟨Nat.le_of_ble_eq_true rfl, Nat.le_of_ble_eq_true rfl⟩ (fun r σ16762 hp => ?_)
        obtain ⟨P16765, oP16765, rP16765, pr16766, pr16767, h16763, hp⟩ := hp
        have h16764 := HS.trans h1 h16763 (by decide)
        have xP16765 := oP16765
        unfold OKP at xP16765
        unfold RP at rP16765
        obtain rfl := hp
        rw [pa2] at pr16766 pr16767
        obtain ⟨f, rfl⟩ : ∃ f9, f = f9 + 1 := ⟨f - 1, by have h9 := e2 ez; omega⟩
        cases eo16768 : thenS (lineS (tok t n901) (k1, k2, k3, k4) P1.n5 nm np P1.n7 lc no sd2 md ln2) (stopT (tok t n901)) with
        | inl e8 =>
          rw [eo16768] at pr16766
          refine m_goto F e_X10_readText_47 ?_
          exact ih f P16765 _ h16764 oP16765 (by unfold RQ; omega) (Or.inl ⟨e8, e1.trans (textS_L (S := ((k1, k2, k3, k4), P1.n5, nm, np, P1.n7, lc, no, sd2, md, ln2)) ez eo16768), pr16766⟩) (by omega)
        | inr S2 =>
          rw [eo16768] at pr16766
          have hpr := pr16767 S2 eo16768
          obtain ⟨⟨l1, l2, l3, l4⟩, S3⟩ := S2
          have hal : P16765.a = l4 := by obtain ⟨nl9, nm9, np9, nc9, lc9, no9, sd9, md9, ln9⟩ := S3; obtain ⟨_, _, _, _, _, ⟨h9, _⟩, _⟩ := pr16766; exact h9
          refine m_goto F e_X10_readText_47 ?_
          exact ih f P16765 _ h16764 oP16765 (by unfold RQ; omega) (Or.inr ⟨((l1, l2, l3, l4), S3), pr16766, e1.trans (textS_R (S := ((k1, k2, k3, k4), P1.n5, nm, np, P1.n7, lc, no, sd2, md, ln2)) ez eo16768), fun hz => by have h9 := hpr hz; have h8 := e2 ez; show 701 ≤ f + l4; omega⟩) (by omega)
set_option maxRecDepth 20000 in
theorem q_X10_readTextE (l : Launch) (V : VX) (c T Z u h : Nat) (P : NP) (L : Nat → LQ) (N : Nat) (σ : Mem) (n901 : Nat) (t : Nat → Nat) (h0 : HR V c ⟨T, Z, u, h, P, L⟩ σ) (hob : OKB L) (hP : OKP P) (hn901 : n901 ≤ 700) (hp0 : BR σ c n901 t) : Ct l V yX10_readText cX10_readText 2 none 10 0 0 N σ [.ref c, .int (nI n901)] (fun r τ => ∃ P9 : NP, OKP P9 ∧ RQ P P9 ∧ RM τ c n901 P9 (textS (tok t n901) 700 (S0 (tok t n901))) ∧ HS V c (⟨T, 1, u, h, P9, L⟩ : RG) [0, 2, 17, 18, 19, 20, 21, 22, 23] σ τ ∧ r = none) := by
  refine Ct.of (by decide) (Nat.le_of_ble_eq_true rfl) [(0, .ref c), (1, .int (nI n901))] rfl (fun X hX F hQ => ?_)
  have hPP := hP
  unfold OKP at hPP
  have h1 : HS V c ⟨T, Z, u, h, P, L⟩ [0, 2, 17, 18, 19, 20, 21, 22, 23] σ σ := HS.start h0
  refine m_aload_n F rfl e_X10_readText_0 ?_
  refine m_iload_n F rfl e_X10_readText_1 ?_
  refine r_put F (g' := (⟨T, Z, u, h, P, L⟩ : RG)) e_X10_readText_2 fp_X10_100 h1 (by decide) ⟨n901, (show n901 ≤ 700 by omega), rfl⟩ (fun _ _ _ _ q => q) (fun _ _ _ q => q) rfl rfl (by decide) (fun σ16769 h16770 g16771 g16772 f16773 => ?_)
  have ga16774 := hp0.of (g16771 _ (by omega))
  refine m_aload_n F rfl e_X10_readText_5 ?_
  refine m_iconst F (v := 0) (by decide) e_X10_readText_6 ?_
  refine r_put F (g' := (⟨T, Z, u, h, (mkP P.n0 P.n2 P.n5 P.n7 P.m0 P.m5 P.w2 P.w7 P.kk 0), L⟩ : RG)) e_X10_readText_7 fp_X10_97 h16770 (by decide) rfl ctl_a CR.setA rfl rfl (by decide) (fun σ16775 h16776 g16777 g16778 f16779 => ?_)
  have ga16780 := ga16774.of (g16777 _ (by omega))
  obtain ⟨P16781, eP16781⟩ : ∃ P9, P9 = (mkP P.n0 P.n2 P.n5 P.n7 P.m0 P.m5 P.w2 P.w7 P.kk 0) := ⟨_, rfl⟩
  rw [← eP16781] at h16776
  have fP16781 : P16781.n0 = P.n0 ∧ P16781.n2 = P.n2 ∧ P16781.n5 = P.n5 ∧ P16781.n7 = P.n7 ∧ P16781.m0 = P.m0 ∧ P16781.m5 = P.m5 ∧ P16781.w2 = P.w2 ∧ P16781.w7 = P.w7 ∧ P16781.kk = P.kk ∧ P16781.a = 0 := by rw [eP16781]; exact ⟨rfl, rfl, rfl, rfl, rfl, rfl, rfl, rfl, rfl, rfl⟩
  refine m_aload_n F rfl e_X10_readText_10 ?_
  refine m_iconst F (v := 0) (by decide) e_X10_readText_11 ?_
  refine r_put F (g' := (⟨T, 1, u, h, P16781, L⟩ : RG)) e_X10_readText_12 fp_X10_141 h16776 (by decide) ⟨_, (fun e => absurd e (show ¬ (1 : Nat) = 0 by decide)), rfl⟩ ctl_Z CR.ctl rfl rfl (by decide) (fun σ16782 h16783 g16784 g16785 f16786 => ?_)
  have ga16787 := ga16780.of (g16784 _ (by omega))
  refine m_aload_n F rfl e_X10_readText_15 ?_
  refine m_iconst F (v := 0) (by decide) e_X10_readText_16 ?_
  refine r_put F (g' := (⟨T, 1, u, h, P16781, L⟩ : RG)) e_X10_readText_17 fp_X10_202 h16783 (by decide) ⟨_, rfl⟩ (fun _ _ _ _ q => q) (fun _ _ _ q => q) rfl rfl (by decide) (fun σ16788 h16789 g16790 g16791 f16792 => ?_)
  have ga16793 := ga16787.of (g16790 _ (by omega))
  refine m_aload_n F rfl e_X10_readText_20 ?_
  have oP16797 : OKP P16781 := by unfold OKP; omega
  refine r_callV F e_X10_readText_21 (q_X10_freshTextE (x_l X) V c T 1 u h P16781 L _ _   h16789.1 (hob) oP16797  ) cb_X10_freshText ml_X10_82 im_X10_freshText se_X10_freshText h16789 rfl rfl (rest := []) rfl (Nat.le_of_ble_eq_true rfl) ⟨Nat.le_of_ble_eq_true rfl, Nat.le_of_ble_eq_true rfl⟩ ⟨Nat.le_of_ble_eq_true rfl, Nat.le_of_ble_eq_true rfl⟩ (fun r σ16794 hp => ?_)
  obtain ⟨P16798, oP16798, rP16798, pr16799, pr16800, h16795, hp⟩ := hp
  have h16796 := HS.trans h16789 h16795 (by decide)
  have xP16798 := oP16798
  unfold OKP at xP16798
  unfold RP at rP16798
  have ga16801 := ga16793.of (h16795.2 (c + 1) (by rw [kC_at (k := 1) (by decide)]; decide))
  obtain rfl := hp
  have hpf := pr16799
  refine m_aload_n F rfl e_X10_readText_24 ?_
  obtain ⟨y20, hy20, f20⟩ := h16796.1.f20
  obtain ⟨y21, f21⟩ := h16796.1.fw (j := 21) rfl
  obtain ⟨y22, f22⟩ := h16796.1.fw (j := 22) rfl
  obtain ⟨y24, f24⟩ := h16796.1.fw (j := 24) rfl
  have ha0 : P16798.a = 0 := by omega
  refine r_callV F e_X10_readText_25 (q_X10_tokenE (x_l X) V c T 1 u h P16798 L _ _  n901 y20 y21 y22 0 0 y24 t h16796.1 (hob) oP16798  ⟨((fld_eq (h16795.2 c (by rw [show kC c c = 1 from kC_at (k := 0) (by decide)]; decide))).trans f16792), ((fld_eq (h16795.2 c (by rw [show kC c c = 1 from kC_at (k := 0) (by decide)]; decide))).trans ((g16791 18 (by decide)).trans ((g16785 18 (by decide)).trans ((g16778 18 (by decide)).trans f16773)))), (f20), (f21), (f22), ((fld_eq (h16795.2 c (by rw [show kC c c = 1 from kC_at (k := 0) (by decide)]; decide))).trans ((g16791 23 (by decide)).trans f16786)), (f24)⟩ ga16801 hn901 (by omega)) cb_X10_token ml_X10_147 im_X10_token se_X10_token h16796 rfl rfl (rest := []) rfl (Nat.le_of_ble_eq_true rfl) ⟨Nat.le_of_ble_eq_true rfl, Nat.le_of_ble_eq_true rfl⟩ ⟨Nat.le_of_ble_eq_true rfl, Nat.le_of_ble_eq_true rfl⟩ (fun r σ16802 hp => ?_)
  obtain ⟨P16805, oP16805, rP16805, pr16806, pr16807, h16803, hp⟩ := hp
  have h16804 := HS.trans h16796 h16803 (by decide)
  have xP16805 := oP16805
  unfold OKP at xP16805
  unfold RA at rP16805
  have ga16808 := ga16801.of (h16803.2 (c + 1) (by rw [kC_at (k := 1) (by decide)]; decide))
  have ga16809 := pr16800.of (h16803.2 (c + 2) (by rw [kC_at (k := 2) (by decide)]; decide))
  obtain rfl := hp
  rw [ha0] at pr16806 pr16807
  obtain ⟨so16810, va16811, mt16812, yd16813⟩ := pr16807
  have hyd16814 := yd16813
  obtain ⟨yd16814, yd16815, yd16816, yd16817, yd16818, yd16819, yd16820⟩ := hyd16814
  refine Wm.lvsub (lv' := [(0, .ref c)]) ?_ [0] rfl
  have b8 := tok_ok (t := t) (n := n901) 0 (by omega)
  exact lq_X10_readTextE_28 (Z := Z) F hQ hob hP hn901 hp0 (700 + 1) 700 P16805 _ h16804 oP16805 (by unfold RQ; omega) (Or.inr ⟨S0 (tok t n901), RM.r (k := tok t n901 0) mt16812 ⟨(yd16814), (yd16815), (yd16816), (yd16817), (yd16818), (yd16819), (yd16820)⟩ (by omega) (by omega) (by omega) ga16809 (fun _ h9 => absurd h9 (Nat.not_lt_zero _)) (fun _ h9 => absurd h9 (Nat.not_lt_zero _)) (fun _ h9 => absurd h9 (Nat.not_lt_zero _)) (fun _ h9 => absurd h9 (Nat.not_lt_zero _)) (Or.inl ⟨rfl, rfl⟩) (by omega) (by omega) (by omega) (by omega) (by omega), rfl, fun hz => by replace hz : (tok t n901 0).2.1 ≠ 0 := hz; have h9 := b8.2.2.2 hz; show 701 ≤ 700 + (tok t n901 0).2.2.2; omega⟩) (Nat.lt_succ_self _)
