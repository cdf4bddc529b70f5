set_option maxRecDepth 20000 in
theorem s_X7_beginE (l : Launch) (V : VX) (G : GH) (b M Z T N : Nat) (σ : Mem) (a : Nat) (n901 : Nat) (r902 : Nat) (h0 : HT V G (b, M, Z, T) σ) (hk : kA b a = 3) (hn901 : n901 ≤ 700) (k902 : kA b r902 = 7) (hM : M + 0 ≤ 1000000000) : Ct l V yX7_begin cX7_begin 3 none 1 0 0 N σ [.ref a, .int (nI n901), .ref r902] (fun r τ => HK V G (b, M, 1, T) [0, 1, 2, 5, 6, 7, 8, 9, 10, 11, 12, 13, 14, 15, 16, 17, 18, 19] σ τ ∧ ∃ (tp td st : Nat) (tk vl : Int32), kA b tp = 2 ∧ kA b td = 4 ∧ RD τ a tp td n901 r902 0 st tk vl 0 0 0 0 (-1) ∧ TD V τ td 0 (fun _ _ => false) ∧ r = none) := by
  refine Ct.of (by decide) (Nat.le_of_ble_eq_true rfl) [(0, .ref a), (1, .int (nI n901)), (2, .ref r902)] rfl (fun X hX F hQ => ?_)
  have h1 : HK V G (b, M, Z, T) [0, 1, 2, 5, 6, 7, 8, 9, 10, 11, 12, 13, 14, 15, 16, 17, 18, 19] σ σ := HK.start h0
  have h2 := h1.mono (M' := M) (Z' := 1) (Nat.le_refl _) (fun e => absurd e (by decide))
  refine m_aload_n F rfl e_X7_begin_0 ?_
  refine m_iload_n F rfl e_X7_begin_1 ?_
  refine m_aload_n F rfl e_X7_begin_2 ?_
  refine t_get F e_X7_begin_3 fl_X7_19 (fun _ => o3) h2 hk rfl (fun v hv f7638 => ?_)
  obtain ⟨r7639, k7640, rfl⟩ := hv
  refine t_alenB F (len := 700) e_X7_begin_6 (fun _ => o2) h2 k7640 (v := 700) (by decide) ?_
  refine m_min F e_X7_begin_7 ml_X7_27 sm_min ini_math co_min (Nat.le_of_ble_eq_true rfl) (Nat.le_of_ble_eq_true rfl) (Nat.le_of_ble_eq_true rfl) (Nat.le_of_ble_eq_true rfl) ?_
  refine Wm.topE (w := nI n901) ((minN (a := n901) (b := 700) (by omega) (by omega)).trans (congrArg nI (Nat.min_eq_left (by omega)))) ?_
  refine t_put F e_X7_begin_10 fp_X7_33 (fun _ => o3) h2 hk rfl ⟨n901, (show n901 ≤ 700 by omega), rfl⟩ rfl rfl (by decide) (fun σ7641 h7642 g7643 g7644 f7645 => ?_)
  refine m_aload_n F rfl e_X7_begin_13 ?_
  refine m_aload_n F rfl e_X7_begin_14 ?_
  refine t_put F e_X7_begin_15 fp_X7_23 (fun _ => o3) h7642 hk rfl ⟨_, k902, rfl⟩ rfl rfl (by decide) (fun σ7646 h7647 g7648 g7649 f7650 => ?_)
  refine m_aload_n F rfl e_X7_begin_18 ?_
  refine t_get F e_X7_begin_19 fl_X7_9 (fun _ => o3) h7647 hk rfl (fun v hv f7651 => ?_)
  obtain ⟨r7652, k7653, rfl⟩ := hv
  refine m_iconst F (v := 0) (by decide) e_X7_begin_22 ?_
  refine m_callS F e_X7_begin_23 (s_J7_fill_53178_4E (x_l X) V G b M 1 T _ _ r7652 0 h7647.1 k7653 (by omega)) cb_J7_fill_53178 ml_X7_36 sm_J7_fill_53178 rfl (rest := []) rfl (Nat.le_of_ble_eq_true rfl) ⟨Nat.le_of_ble_eq_true rfl, Nat.le_of_ble_eq_true rfl⟩ ⟨Nat.le_of_ble_eq_true rfl, Nat.le_of_ble_eq_true rfl⟩ (k' := 0) (z' := 0) (N' := N) rfl rfl rfl (fun r σ7654 hp => ?_)
  obtain ⟨h7655, tz7657, rfl⟩ := hp
  have tz7657 := TD.zero tz7657
  have h7656 := HK.trans h7647 h7655 (by decide)
  refine m_aload_n F rfl e_X7_begin_26 ?_
  refine m_iconst F (v := 0) (by decide) e_X7_begin_27 ?_
  refine t_putC F e_X7_begin_28 fp_X7_42 (fun _ => o3) h7656 hk rfl ⟨0, (show 0 ≤ 700 by omega), rfl⟩ rfl rfl (by decide) (fun σ7658 h7659 g7660 g7661 f7662 => ?_)
  have tq7663 := tz7657.keep (g7660 r7652 (kdn k7653 hk (by decide)))
  refine m_aload_n F rfl e_X7_begin_31 ?_
  refine m_iconst F (v := 0) (by decide) e_X7_begin_32 ?_
  refine t_putC F e_X7_begin_33 fp_X7_45 (fun _ => o3) h7659 hk rfl ⟨_, rfl⟩ rfl rfl (by decide) (fun σ7664 h7665 g7666 g7667 f7668 => ?_)
  have tq7669 := tq7663.keep (g7666 r7652 (kdn k7653 hk (by decide)))
  refine m_aload_n F rfl e_X7_begin_36 ?_
  refine m_iconst F (v := 0) (by decide) e_X7_begin_37 ?_
  refine t_putC F e_X7_begin_38 fp_X7_48 (fun _ => o3) h7665 hk rfl ⟨0, (show 0 ≤ 1 by omega), rfl⟩ (by decide) rfl (by decide) (fun σ7670 h7671 g7672 g7673 f7674 => ?_)
  have tq7675 := tq7669.keep (g7672 r7652 (kdn k7653 hk (by decide)))
  refine m_aload_n F rfl e_X7_begin_41 ?_
  refine m_iconst F (v := 0) (by decide) e_X7_begin_42 ?_
  refine t_putC F e_X7_begin_43 fp_X7_52 (fun _ => o3) h7671 hk rfl ⟨_, rfl⟩ rfl rfl (by decide) (fun σ7676 h7677 g7678 g7679 f7680 => ?_)
  have tq7681 := tq7675.keep (g7678 r7652 (kdn k7653 hk (by decide)))
  refine m_aload_n F rfl e_X7_begin_46 ?_
  refine m_iconst F (v := 0) (by decide) e_X7_begin_47 ?_
  refine t_putC F e_X7_begin_48 fp_X7_55 (fun _ => o3) h7677 hk rfl ⟨_, (fun e => absurd e (show ¬ (1 : Nat) = 0 by decide)), rfl⟩ rfl rfl (by decide) (fun σ7682 h7683 g7684 g7685 f7686 => ?_)
  have tq7687 := tq7681.keep (g7684 r7652 (kdn k7653 hk (by decide)))
  refine m_aload_n F rfl e_X7_begin_51 ?_
  refine m_iconst F (v := (-1)) (by decide) e_X7_begin_52 ?_
  refine t_putC F e_X7_begin_53 fp_X7_15 (fun _ => o3) h7683 hk rfl ⟨_, rfl⟩ rfl rfl (by decide) (fun σ7688 h7689 g7690 g7691 f7692 => ?_)
  have tq7693 := tq7687.keep (g7690 r7652 (kdn k7653 hk (by decide)))
  obtain ⟨_, ⟨y5, rfl⟩, fy5⟩ := HK.f (j := 5) h7689 (fun _ => o3) hk rfl
  obtain ⟨_, ⟨y6, rfl⟩, fy6⟩ := HK.f (j := 6) h7689 (fun _ => o3) hk rfl
  obtain ⟨_, ⟨y7, rfl⟩, fy7⟩ := HK.f (j := 7) h7689 (fun _ => o3) hk rfl
  obtain ⟨s5, rfl⟩ := nI_surj y5
  exact m_vret F hQ e_X7_begin_56 (⟨h7689, r7639, r7652, s5, y6, y7, k7640, k7653, ⟨((g7691 0 (by decide)).trans ((g7685 0 (by decide)).trans ((g7679 0 (by decide)).trans ((g7673 0 (by decide)).trans ((g7667 0 (by decide)).trans ((g7661 0 (by decide)).trans ((fld_eq (h7655.2 a (by rw [show kA _ a = 3 from hk]; decide))).trans ((g7649 0 (by decide)).trans ((g7644 0 (by decide)).trans f7638))))))))), ((g7691 1 (by decide)).trans ((g7685 1 (by decide)).trans ((g7679 1 (by decide)).trans ((g7673 1 (by decide)).trans ((g7667 1 (by decide)).trans ((g7661 1 (by decide)).trans ((fld_eq (h7655.2 a (by rw [show kA _ a = 3 from hk]; decide))).trans ((g7649 1 (by decide)).trans f7645)))))))), ((g7691 2 (by decide)).trans ((g7685 2 (by decide)).trans ((g7679 2 (by decide)).trans ((g7673 2 (by decide)).trans ((g7667 2 (by decide)).trans ((g7661 2 (by decide)).trans ((fld_eq (h7655.2 a (by rw [show kA _ a = 3 from hk]; decide))).trans f7650))))))), ((g7691 3 (by decide)).trans ((g7685 3 (by decide)).trans ((g7679 3 (by decide)).trans ((g7673 3 (by decide)).trans ((g7667 3 (by decide)).trans ((g7661 3 (by decide)).trans ((fld_eq (h7655.2 a (by rw [show kA _ a = 3 from hk]; decide))).trans f7651))))))), ((g7691 4 (by decide)).trans ((g7685 4 (by decide)).trans ((g7679 4 (by decide)).trans ((g7673 4 (by decide)).trans ((g7667 4 (by decide)).trans f7662))))), fy5, fy6, fy7, ((g7691 8 (by decide)).trans ((g7685 8 (by decide)).trans ((g7679 8 (by decide)).trans ((g7673 8 (by decide)).trans f7668)))), ((g7691 9 (by decide)).trans ((g7685 9 (by decide)).trans ((g7679 9 (by decide)).trans f7674))), ((g7691 10 (by decide)).trans ((g7685 10 (by decide)).trans f7680)), ((g7691 11 (by decide)).trans f7686), (f7692)⟩, tq7693, rfl⟩)
theorem okG_text {G : GH} {nl : Nat} {nm : Nat → Int32} (h : okG G) (hn : nl ≤ 4) : okG (mkG (fun k => if k = G.sp then 1 else 0) nl nm G.sp G.bk 0 0 0) := by
  obtain ⟨a1, a2, a3, a4, a5, a6, a7, a8, a9⟩ := h
  refine ⟨hn, by show G.sp ≤ 1; omega, by show G.bk = 1 - G.sp; omega, if_pos rfl, ?_, fun e => absurd e (by show ¬ (0 : Nat) = 1; decide), Nat.zero_le _, Nat.zero_le _, Or.inr ⟨rfl, fun p hp => absurd hp (Nat.not_lt_zero _)⟩⟩
  show ¬ (if G.bk = G.sp then 1 else 0) = 1
  rw [if_neg (by omega)]; decide
set_option maxRecDepth 20000 in
theorem s_X9_textE (l : Launch) (V : VX) (G : GH) (b M Z T N : Nat) (σ : Mem) (a : Nat) (x901 : Int32) (t : Nat → Nat) (h0 : HT V G (b, M, Z, T) σ) (hk : kA b a = 1) (hp0 : T ≤ 700) (hG : okG G) (hBy : BY V σ (b + 1) T t) (hM : M + 0 ≤ 1000000000) : Ct l V yX9_text cX9_text 3 (some .int) 9 0 0 N σ [.ref a, .int x901] (fun r τ => ((x901 < 0 ∨ ∃ n : Nat, n ≤ 2147483647 ∧ x901 = nI n ∧ T < n) ∧ HK V G (b, M, 1, T) [0, 2, 5, 8, 9, 13, 16] σ τ ∧ τ = σ ∧ r = some (.int (-2))) ∨ ∃ n : Nat, x901 = nI n ∧ n ≤ T ∧ r = some (.int (ansO (textS (tok t n) 700 (S0 (tok t n)))).1) ∧ ((∃ e, textS (tok t n) 700 (S0 (tok t n)) = .inl e ∧ HK V G (b, M, 1, 0) [0, 2, 5, 8, 9, 13, 16] σ τ) ∨ ∃ S : SS, textS (tok t n) 700 (S0 (tok t n)) = .inr S ∧ ∃ G9 : GH, okG G9 ∧ G9.n0 = S.2.1 ∧ (∀ i, G9.nm i = nI (S.2.2.1 i)) ∧ HK V G9 (b, M, 1, 0) [0, 2, 5, 8, 9, 13, 16] σ τ)) := by
  refine Ct.of (by decide) (Nat.le_of_ble_eq_true rfl) [(0, .ref a), (1, .int x901)] rfl (fun X hX F hQ => ?_)
  have h1 : HK V G (b, M, Z, T) [0, 2, 5, 8, 9, 13, 16] σ σ := HK.start h0
  refine m_iload_n F rfl e_X9_text_0 ?_
  refine m_if_lt F e_X9_text_1 (fun q1 => ?_) (fun q1 => ?_)
  · refine m_bipush F (v := (-2)) (by decide) e_X9_text_12 ?_
    exact m_iret F hQ e_X9_text_14 (Or.inl ⟨Or.inl q1, (h1.mono (M' := M) (Z' := 1) (Nat.le_refl _) (fun e => absurd e (by decide))), rfl, rfl⟩)
  · obtain ⟨n7694, hn7694, rfl⟩ := nI_nn (x := x901) (fun e => q1 (Int32.lt_of_lt_of_le e (by decide)))
    have c1 : n7694 ≥ 0 := by have hh := mt (nI_ltI (a := n7694) (b := 0) (by omega) (by omega)).mpr q1; omega
    refine m_iload_n F rfl e_X9_text_4 ?_
    refine m_aload_n F rfl e_X9_text_5 ?_
    refine t_get F e_X9_text_6 fl_X9_52 (fun _ => o1) h1 hk rfl (fun v hv f7695 => ?_)
    obtain rfl : v = .int (nI (T)) := hv
    refine m_icmp_le F e_X9_text_9 (fun q9 => ?_) (fun q9 => ?_)
    · have c9 : n7694 ≤ T := (nI_leI (a := n7694) (b := T) (by omega) (by omega)).mp q9
      refine m_aload_n F rfl e_X9_text_15 ?_
      refine t_get F e_X9_text_16 fl_X9_20 (fun _ => o1) h1 hk rfl (fun v hv f7696 => ?_)
      obtain ⟨r7697, ⟨k7698, er7697⟩, rfl⟩ := hv
      replace er7697 : r7697 = b + 2 + 63 * G.sp := er7697
      refine m_astore_n F (lv' := [(2, .ref r7697), (0, .ref a), (1, .int (nI n7694))]) e_X9_text_19 (by decide) rfl ?_
      refine m_aload_n F rfl e_X9_text_20 ?_
      refine t_callV F e_X9_text_21 (s_X2_clearE (x_l X) V G b M Z T _ _ r7697 h1.1 k7698 (gd_sp hG er7697) (by omega)) cb_X2_clear ml_X9_60 im_X2_clear se_X2_clear (fun _ => o7) h1 k7698 rfl rfl (rest := []) rfl (Nat.le_of_ble_eq_true rfl) ⟨Nat.le_of_ble_eq_true rfl, Nat.le_of_ble_eq_true rfl⟩ ⟨Nat.le_of_ble_eq_true rfl, Nat.le_of_ble_eq_true rfl⟩ (fun r σ7699 hp => ?_)
      obtain ⟨h7700, bx7702, rfl⟩ := hp
      have h7701 := HK.trans h1 h7700 (by decide)
      refine m_aload_n F rfl e_X9_text_24 ?_
      refine t_get F e_X9_text_25 fl_X9_28 (fun _ => o1) h7701 hk rfl (fun v hv f7703 => ?_)
      obtain ⟨r7704, k7705, rfl⟩ := hv
      refine m_iload_n F rfl e_X9_text_28 ?_
      refine m_aload_n F rfl e_X9_text_29 ?_
      refine t_callV F e_X9_text_30 (s_X7_beginE (x_l X) V G b M Z T _ _ r7704 n7694 r7697 h7701.1 k7705 (by omega) k7698 (by omega)) cb_X7_begin ml_X9_63 im_X7_begin se_X7_begin (fun _ => o3) h7701 k7705 rfl rfl (rest := []) rfl (Nat.le_of_ble_eq_true rfl) ⟨Nat.le_of_ble_eq_true rfl, Nat.le_of_ble_eq_true rfl⟩ ⟨Nat.le_of_ble_eq_true rfl, Nat.le_of_ble_eq_true rfl⟩ (fun r σ7706 hp => ?_)
      obtain ⟨h7707, tp, td, st, tk, vl, htp, htd, hR, hTD, rfl⟩ := hp
      have bx7709 := bx7702.hk k7698 h7707 (by decide) (by decide) (by decide)
      have h7708 := HK.trans h7701 h7707 (by decide)
      refine m_aload_n F rfl e_X9_text_33 ?_
      refine t_getC F e_X9_text_34 fl_X9_28 (fun _ => o1) h7708 hk ((fld_eq (h7707.2 a (by rw [show kA _ a = 1 from hk]; decide))).trans f7703) ?_
      obtain rfl : tp = b + 1 := kA_2 htp
      refine t_callV F e_X9_text_37 (s_X7_readE (x_l X) V G b M 1 T _ _ r7704 (b + 1) td n7694 r7697 0 st tk vl 0 0 0 0 (-1) t h7708.1 k7705 rfl rfl rfl rfl rfl rfl bx7709 hTD hR ((hBy.to (m2 := n7694) (by omega)).keep (h7708.2 (b + 1) (by rw [show kA _ (b + 1) = 2 from htp]; decide))) (by omega) (by omega) htp htd k7698 (gd_sp hG er7697) (by omega)) cb_X7_read ml_X9_67 im_X7_read se_X7_read (fun _ => o3) h7708 k7705 rfl rfl (rest := []) rfl (Nat.le_of_ble_eq_true rfl) ⟨Nat.le_of_ble_eq_true rfl, Nat.le_of_ble_eq_true rfl⟩ ⟨Nat.le_of_ble_eq_true rfl, Nat.le_of_ble_eq_true rfl⟩ (fun r σ7710 hp => ?_)
      obtain ⟨h7711, rs7713, rfl⟩ := hp
      have h7712 := HK.trans h7708 h7711 (by decide)
      cases eo7714 : textS (tok t n7694) 700 (S0 (tok t n7694)) with
      | inl e8 =>
        rw [eo7714] at rs7713
        obtain ⟨⟨f11, f12⟩, c1, c2, c3⟩ := rs7713
        refine m_aload_n F rfl e_X9_text_40 ?_
        refine m_iconst F (v := 0) (by decide) e_X9_text_41 ?_
        refine t_putT F (T' := 0) e_X9_text_42 fp_X9_52 h7712 hk (by decide) (fun σ7715 h7716 g7717 g7718 f7719 => ?_)
        refine m_aload_n F rfl e_X9_text_45 ?_
        refine t_getC F e_X9_text_46 fl_X9_28 (fun _ => o1) h7716 hk ((g7718 4 (by decide)).trans ((fld_eq (h7711.2 a (by rw [show kA _ a = 1 from hk]; decide))).trans ((fld_eq (h7707.2 a (by rw [show kA _ a = 1 from hk]; decide))).trans f7703))) ?_
        refine t_getC F e_X9_text_49 fl_X9_70 (fun _ => o3) h7716 k7705 ((g7717 r7704 11 (fun e => absurd ((k7705).symm.trans e) (by decide))).trans f11) ?_
        refine m_if_eq F e_X9_text_52 (fun q52 => ?_) (fun q52 => ?_)
        · have c52 : e8.1 = 0 := (nI_eq (a := e8.1) (b := 0) (by omega) (by omega)).mp q52
          exfalso; omega
        · have c52 : e8.1 ≠ 0 := by have hh := mt (nI_eq (a := e8.1) (b := 0) (by omega) (by omega)).mpr q52; omega
          refine m_iconst F (v := (-1)) (by decide) e_X9_text_55 ?_
          exact m_iret F hQ e_X9_text_56 (Or.inr ⟨n7694, rfl, by omega, (by rw [eo7714]; rfl), Or.inl ⟨_, eo7714, h7716⟩⟩)
      | inr S8 =>
        rw [eo7714] at rs7713
        obtain ⟨k8, nl8, nm8, np8, nc8, lc8, no8, sd8, md8, ln8⟩ := S8
        obtain ⟨tk8, vl8, ct8, ⟨rd7720, rd7721, rd7722, rd7723, rd7724, rd7725, rd7726, rd7727, rd7728, rd7729, rd7730, rd7731, rd7732⟩, bx8, td8, c1, c2, c3, c4⟩ := rs7713
        obtain ⟨G7734, eG7734⟩ : ∃ g9 : GH, g9 = mkG (fun k => if k = G.sp then 1 else 0) nl8 (fun i => nI (nm8 i)) G.bk G.sp G.ik G.pf G.pc := ⟨_, rfl⟩
        have h7733 : HK V G7734 (b, M, 1, T) [0, 2, 5, 8, 9, 13, 16] _ _ := ⟨HT.chG h7712.1 (by rw [eG7734]; exact bx8.2.2.2.2.2.1) (fun r9 hr9 hg9 => by
          rw [eG7734] at hg9 ⊢
          have e8 : blk (r9 - b) = G.sp := by
            replace hg9 : (if blk (r9 - b) = G.sp then 1 else 0) = 1 := hg9
            by_cases e7 : blk (r9 - b) = G.sp
            · exact e7
            · rw [if_neg e7] at hg9; exact absurd hg9 (by decide)
          have e6 : r9 = r7697 := blk_inj hr9 k7698 (by rw [e8, er7697]; exact (blk_bk (by have h9 := hG.2.1; have h8 := hG.2.2.1; omega)).symm)
          rw [e6]
          exact ⟨bx8.1, fun i hi => (bx8.2.2.2.1 i hi).2⟩) (by rw [eG7734]) (by rw [eG7734]) (by rw [eG7734]) (by rw [eG7734]) (by rw [eG7734]), h7712.2⟩
        refine m_aload_n F rfl e_X9_text_40 ?_
        refine m_iconst F (v := 0) (by decide) e_X9_text_41 ?_
        refine t_putT F (T' := 0) e_X9_text_42 fp_X9_52 h7733 hk (by decide) (fun σ7735 h7736 g7737 g7738 f7739 => ?_)
        refine m_aload_n F rfl e_X9_text_45 ?_
        refine t_getC F e_X9_text_46 fl_X9_28 (fun _ => o1) h7736 hk ((g7738 4 (by decide)).trans ((fld_eq (h7711.2 a (by rw [show kA _ a = 1 from hk]; decide))).trans ((fld_eq (h7707.2 a (by rw [show kA _ a = 1 from hk]; decide))).trans f7703))) ?_
        refine t_getC F e_X9_text_49 fl_X9_70 (fun _ => o3) h7736 k7705 ((g7737 r7704 11 (fun e => absurd ((k7705).symm.trans e) (by decide))).trans rd7731) ?_
        refine m_if_eq F e_X9_text_52 (fun _ => ?_) (fun q => absurd (by decide) q)
        refine m_aload_n F rfl e_X9_text_57 ?_
        refine m_aload_n F rfl e_X9_text_58 ?_
        refine t_get F e_X9_text_59 fl_X9_42 (fun _ => o1) h7736 hk rfl (fun v hv f7740 => ?_)
        obtain ⟨r7741, k7742, rfl⟩ := hv
        refine t_callV F e_X9_text_62 (s_X2_findRates (x_l X) V G7734 b M 1 0 _ _ r7697 r7741 h7736.1 k7698 k7742 (by omega)) cb_X2_findRates ml_X9_73 im_X2_findRates se_X2_findRates (fun _ => o7) h7736 k7698 rfl rfl (rest := []) rfl (Nat.le_of_ble_eq_true rfl) ⟨Nat.le_of_ble_eq_true rfl, Nat.le_of_ble_eq_true rfl⟩ ⟨Nat.le_of_ble_eq_true rfl, Nat.le_of_ble_eq_true rfl⟩ (fun r σ7743 hp => ?_)
        obtain ⟨h7745, rfl⟩ := hp
        have h7744 := HK.trans h7736 h7745 (by decide)
        refine m_aload_n F rfl e_X9_text_65 ?_
        refine m_aload_n F rfl e_X9_text_66 ?_
        refine t_get F e_X9_text_67 fl_X9_16 (fun _ => o1) h7744 hk rfl (fun v hv f7746 => ?_)
        obtain ⟨r7747, ⟨k7748, er7747⟩, rfl⟩ := hv
        replace er7747 : r7747 = b + 2 + 63 * G7734.bk := er7747
        refine t_putG F (G' := (mkG G7734.gd G7734.n0 G7734.nm G7734.bk G7734.bk G7734.ik G7734.pf G7734.pc)) (j := 3) e_X9_text_70 fp_X9_20 h7744 hk (by decide) rfl rfl rfl ⟨_, ⟨k7748, er7747⟩, rfl⟩ (ctlG_sp) rfl rfl (by decide) (fun σ7749 h7750 g7751 g7752 f7753 => ?_)
        obtain ⟨G7754, eG7754⟩ : ∃ g9 : GH, g9 = (mkG G7734.gd G7734.n0 G7734.nm G7734.bk G7734.bk G7734.ik G7734.pf G7734.pc) := ⟨_, rfl⟩
        rw [← eG7754] at h7750
        refine m_aload_n F rfl e_X9_text_73 ?_
        refine m_aload_n F rfl e_X9_text_74 ?_
        refine t_putG F (G' := (mkG G7754.gd G7754.n0 G7754.nm G.sp G7754.sp G7754.ik G7754.pf G7754.pc)) (j := 2) e_X9_text_75 fp_X9_16 h7750 hk (by decide) rfl rfl rfl ⟨_, ⟨k7698, er7697⟩, rfl⟩ (ctlG_bk) rfl rfl (by decide) (fun σ7755 h7756 g7757 g7758 f7759 => ?_)
        obtain ⟨G7760, eG7760⟩ : ∃ g9 : GH, g9 = (mkG G7754.gd G7754.n0 G7754.nm G.sp G7754.sp G7754.ik G7754.pf G7754.pc) := ⟨_, rfl⟩
        rw [← eG7760] at h7756
        refine m_aload_n F rfl e_X9_text_78 ?_
        refine m_iconst F (v := 0) (by decide) e_X9_text_79 ?_
        refine t_putG F (G' := (mkG G7760.gd G7760.n0 G7760.nm G7760.bk G7760.sp 0 G7760.pf G7760.pc)) (j := 6) e_X9_text_80 fp_X9_77 h7756 hk (by decide) rfl rfl rfl ⟨0, ⟨(show 0 ≤ 1 by omega), rfl⟩, rfl⟩ (ctlG_ik) (by decide) rfl (by decide) (fun σ7761 h7762 g7763 g7764 f7765 => ?_)
        obtain ⟨G7766, eG7766⟩ : ∃ g9 : GH, g9 = (mkG G7760.gd G7760.n0 G7760.nm G7760.bk G7760.sp 0 G7760.pf G7760.pc) := ⟨_, rfl⟩
        rw [← eG7766] at h7762
        refine m_aload_n F rfl e_X9_text_83 ?_
        refine t_callV F e_X9_text_84 (s_X9_forgetPast (x_l X) V G7766 b M 1 0 _ _ a h7762.1 hk (by omega)) cb_X9_forgetPast ml_X9_81 im_X9_forgetPast se_X9_forgetPast (fun _ => o1) h7762 hk rfl rfl (rest := []) rfl (Nat.le_of_ble_eq_true rfl) ⟨Nat.le_of_ble_eq_true rfl, Nat.le_of_ble_eq_true rfl⟩ ⟨Nat.le_of_ble_eq_true rfl, Nat.le_of_ble_eq_true rfl⟩ (fun r σ7767 hp => ?_)
        obtain ⟨h7769, rfl⟩ := hp
        have h7768 := HK.trans h7762 h7769 (by decide)
        obtain ⟨G7770, eG7770⟩ : ∃ g9 : GH, g9 = (mkG G7766.gd G7766.n0 G7766.nm G7766.bk G7766.sp G7766.ik 0 0) := ⟨_, rfl⟩
        rw [← eG7770] at h7768
        refine m_aload_n F rfl e_X9_text_87 ?_
        refine t_get F e_X9_text_88 fl_X9_28 (fun _ => o1) h7768 hk rfl (fun v hv f7771 => ?_)
        obtain ⟨r7772, k7773, rfl⟩ := hv
        obtain rfl : r7704 = r7772 := (kA_3 k7705).trans (kA_3 k7773).symm
        refine t_getC F e_X9_text_91 fl_X9_84 (fun _ => o3) h7768 k7705 ((fld_eq (h7769.2 r7704 (by rw [show kA _ r7704 = 3 from k7705]; decide))).trans ((g7763 r7704 10 (fun e => absurd ((k7705).symm.trans e) (by decide))).trans ((g7757 r7704 10 (fun e => absurd ((k7705).symm.trans e) (by decide))).trans ((g7751 r7704 10 (fun e => absurd ((k7705).symm.trans e) (by decide))).trans ((fld_eq (h7745.2 r7704 (by rw [show kA _ r7704 = 3 from k7705]; decide))).trans ((g7737 r7704 10 (fun e => absurd ((k7705).symm.trans e) (by decide))).trans rd7730)))))) ?_
        have ok9 : okG G7770 := by rw [eG7770, eG7766, eG7760, eG7754, eG7734]; exact okG_text hG bx8.2.2.2.2.2.1
        exact m_iret F hQ e_X9_text_94 (Or.inr ⟨n7694, rfl, by omega, (by rw [eo7714]; rfl), Or.inr ⟨_, eo7714, G7770, ok9, (by rw [eG7770, eG7766, eG7760, eG7754, eG7734]), (fun i => by rw [eG7770, eG7766, eG7760, eG7754, eG7734]), h7768⟩⟩)
    · have c9 : n7694 > T := by have hh := mt (nI_leI (a := n7694) (b := T) (by omega) (by omega)).mpr q9; omega
      refine m_bipush F (v := (-2)) (by decide) e_X9_text_12 ?_
      exact m_iret F hQ e_X9_text_14 (Or.inl ⟨Or.inr ⟨n7694, by omega, rfl, by omega⟩, (h1.mono (M' := M) (Z' := 1) (Nat.le_refl _) (fun e => absurd e (by decide))), rfl, rfl⟩)
