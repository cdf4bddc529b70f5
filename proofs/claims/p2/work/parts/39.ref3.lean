set_option maxRecDepth 20000 in
theorem lq_X10_periodGoes_2 {V : VX} {X : MX} {N : Nat} {σ : Mem} {c T Z u h : Nat} {P : NP} {L : Nat → LQ}   (F : Fx V X yX10_periodGoes cX10_periodGoes 3 none (rmd 3 0 0)) (hQ : Rt V X 0 0 N (fun r τ => ∃ L9, OKL P.n0 L9 ∧ (L9 4).1 = (L 4).1 + 1 ∧ HS V c (⟨T, Z, u, h, P, L9⟩ : RG) [0, 1, 2, 3, 4, 5, 6, 7, 8, 9, 10, 11, 12, 13, 14, 15, 16, 18, 19, 20, 21, 22] σ τ ∧ r = none)) (hok : OKL P.n0 L) (hP : OKP P) (hp0 : (L 4).1 ≤ 98) : ∀ (fuel : Nat) (i : Nat) (L1 : Nat → LQ) (τ : Mem), HS V c (⟨T, Z, u, h, P, L1⟩ : RG) [0, 1, 2, 3, 4, 5, 6, 7, 8, 9, 10, 11, 12, 13, 14, 15, 16, 18, 19, 20, 21, 22] σ τ → OKL P.n0 L1 → i ≤ 4 ∧ (L1 4).1 = (L 4).1 → 4 - i < fuel → Wm V X 3 N τ 0 0 2 [(1, .int (nI i)), (0, .ref c)] [] := by
  intro fuel
  induction fuel with
  | zero => intros; rename_i hm; exact absurd hm (Nat.not_lt_zero _)
  | succ fuel ih =>
    intro i L1 τ h1 hok1 hi hm
    have hPP := hP
    unfold OKP at hPP
    refine m_iload_n F rfl e_X10_periodGoes_2 ?_
    refine m_aload_n F rfl e_X10_periodGoes_3 ?_
    refine r_callV F e_X10_periodGoes_4 (q_X10_leases (x_l X) V c T Z u h P L1 _ _  h1.1 (hok1.b) hP ) cb_X10_leases ml_X10_221 im_X10_leases se_X10_leases h1 rfl rfl (rest := [.int (nI i)]) rfl (Nat.le_of_ble_eq_true rfl) ⟨Nat.le_of_ble_eq_true rfl, Nat.le_of_ble_eq_true rfl⟩ ⟨Nat.le_of_ble_eq_true rfl, Nat.le_of_ble_eq_true rfl⟩ (fun r σ5608 hp => ?_)
    obtain ⟨h5609, rfl⟩ := hp
    have h5610 := HS.trans h1 h5609 (by decide)
    refine m_icmp_ge F e_X10_periodGoes_7 (fun q7 => ?_) (fun q7 => ?_)
    · have c7 : i ≥ P.n0 := (nI_leI (a := P.n0) (b := i) (by omega) (by omega)).mp q7
      refine m_aload_n F rfl e_X10_periodGoes_122 ?_
      refine r_get F e_X10_periodGoes_123 fl_X10_59 h5610 rfl (fun v hv f5611 => ?_)
      obtain rfl : v = .ref (c + 16) := hv
      refine m_sipush F (v := 744) (by decide) e_X10_periodGoes_126 ?_
      refine m_dup2_11 F rfl rfl e_X10_periodGoes_129 ?_
      refine r_sld F (j := 744) e_X10_periodGoes_130 h5610 (by decide) (by unfold vp_in; decide) (fun x5612 h5613 f5614 => ?_)
      have hl5615 := hok1.1
      obtain rfl : x5612 = lN (L1 4).1 := EJ_p.mp h5613
      refine m_lconst F (v := 1) (by decide) e_X10_periodGoes_131 ?_
      refine m_ladd F e_X10_periodGoes_132 ?_
      refine Wm.toplE (w := lN ((L1 4).1 + 1)) (lN_add ((L1 4).1) 1) ?_
      refine r_sst F (g' := (⟨T, Z, u, h, P, (updL L1 4 ((L1 4).1 + 1, 0, 0, 0))⟩ : RG)) (j := 744) e_X10_periodGoes_133 h5610 (by decide) (by decide) (by unfold vp_in; decide) (fun f q => EJ_pup q) CR.row (fun σ5616 h5617 g5618 => ?_)
      obtain ⟨L5619, eL5619⟩ : ∃ L9, L9 = (updL L1 4 ((L1 4).1 + 1, 0, 0, 0)) := ⟨_, rfl⟩
      rw [← eL5619] at h5617
      have fL56190 : (L5619 4).1 = (L1 4).1 + 1 := by rw [eL5619]; exact congrArg (fun q : LQ => q.1) (if_pos rfl)
      have oL5619 : ∀ i, i ≠ 4 → L5619 i = L1 i := fun i hi => by rw [eL5619]; exact if_neg hi
      have ok5620 : OKL P.n0 L5619 := OKL.updP hok1 (fun i hi => (oL5619 i hi)) (by have h9 := hok1.1; omega)
      exact m_vret F hQ e_X10_periodGoes_134 (⟨L5619, ok5620, (by first | omega | rfl | assumption), h5617, rfl⟩)
    · have c7 : i < P.n0 := by have hh := mt (nI_leI (a := P.n0) (b := i) (by omega) (by omega)).mpr q7; omega
      refine m_sipush F (v := 160) (by decide) e_X10_periodGoes_10 ?_
      refine m_iload_n F rfl e_X10_periodGoes_13 ?_
      refine m_imul F e_X10_periodGoes_14 ?_
      refine Wm.topE (w := nI (160 * i)) (pk_mul 160 i) ?_
      refine m_istore_n F (lv' := [(2, .int (nI (160 * i))), (1, .int (nI i)), (0, .ref c)]) e_X10_periodGoes_15 (by decide) rfl ?_
      refine m_aload_n F rfl e_X10_periodGoes_16 ?_
      refine r_get F e_X10_periodGoes_17 fl_X10_59 h5610 rfl (fun v hv f5621 => ?_)
      obtain rfl : v = .ref (c + 16) := hv
      refine m_iload_n F rfl e_X10_periodGoes_20 ?_
      refine m_iconst F (v := 0) (by decide) e_X10_periodGoes_21 ?_
      refine m_iadd F e_X10_periodGoes_22 ?_
      refine Wm.topE (w := nI (160 * i)) (nI_add (160 * i) 0) ?_
      refine r_sld F (j := 160 * i) e_X10_periodGoes_23 h5610 (nI_clamp (by omega)) (vp_in_nI (by omega) (by decide)) (fun x5622 h5623 f5624 => ?_)
      have hl5625 := hok1.2 i (by omega)
      obtain rfl : x5622 = lN (L1 i).1 := (EJ_l (l := i) (r := 0) (by omega) (by decide)).mp h5623
      refine m_lconst F (v := 0) (by decide) e_X10_periodGoes_24 ?_
      refine m_lcmp F e_X10_periodGoes_25 ?_
      refine m_if_ne F e_X10_periodGoes_26 (fun q26 => ?_) (fun q26 => ?_)
      · have c26 : ((L1 i).1) ≠ 0 := by have hh := mt (fun h9 => (lg_cmp_eq (lN ((L1 i).1)) (lN 0)).mpr ((lN_eq (a := ((L1 i).1)) (b := 0) (by omega) (by omega)).mpr h9)) q26; omega
        refine m_aload_n F rfl e_X10_periodGoes_56 ?_
        refine m_iload_n F rfl e_X10_periodGoes_57 ?_
        refine r_callV F e_X10_periodGoes_58 (q_X10_isOn (x_l X) V c T Z u h P L1 _ _ i h5610.1 (hok1.b) hP (by omega)) cb_X10_isOn ml_X10_267 im_X10_isOn se_X10_isOn h5610 rfl rfl (rest := []) rfl (Nat.le_of_ble_eq_true rfl) ⟨Nat.le_of_ble_eq_true rfl, Nat.le_of_ble_eq_true rfl⟩ ⟨Nat.le_of_ble_eq_true rfl, Nat.le_of_ble_eq_true rfl⟩ (fun r σ5626 hp => ?_)
        obtain ⟨h5627, c5629⟩ := hp
        have h5628 := HS.trans h5610 h5627 (by decide)
        rcases c5629 with ⟨g5630, rfl⟩ | ⟨g5630, rfl⟩
        · refine m_if_eq F e_X10_periodGoes_61 (fun _ => ?_) (fun q => absurd (by decide) q)
          refine m_aload_n F rfl e_X10_periodGoes_103 ?_
          refine m_iload_n F rfl e_X10_periodGoes_104 ?_
          refine r_callV F e_X10_periodGoes_105 (q_X10_isOn (x_l X) V c T Z u h P L1 _ _ i h5628.1 (hok1.b) hP (by omega)) cb_X10_isOn ml_X10_267 im_X10_isOn se_X10_isOn h5628 rfl rfl (rest := []) rfl (Nat.le_of_ble_eq_true rfl) ⟨Nat.le_of_ble_eq_true rfl, Nat.le_of_ble_eq_true rfl⟩ ⟨Nat.le_of_ble_eq_true rfl, Nat.le_of_ble_eq_true rfl⟩ (fun r σ5631 hp => ?_)
          obtain ⟨h5632, c5634⟩ := hp
          have h5633 := HS.trans h5628 h5632 (by decide)
          rcases c5634 with ⟨g5635, rfl⟩ | ⟨g5635, rfl⟩
          · refine m_if_eq F e_X10_periodGoes_108 (fun _ => ?_) (fun q => absurd (by decide) q)
            refine m_iinc F (v := nI (i + 1)) (lv' := [(1, .int (nI (i + 1))), (2, .int (nI (160 * i))), (0, .ref c)]) e_X10_periodGoes_116 rfl (nI_add i 1) (by decide) rfl ?_
            refine m_goto F e_X10_periodGoes_119 ?_
            refine Wm.lvsub (lv' := [(1, .int (nI (i + 1))), (0, .ref c)]) ?_ [0, 2] rfl
            exact ih (i + 1) L1 _ h5633 hok1 (by omega) (by omega)
          · refine m_if_eq F e_X10_periodGoes_108 (fun q => absurd q (by decide)) (fun _ => ?_)
            refine m_aload_n F rfl e_X10_periodGoes_111 ?_
            refine m_iload_n F rfl e_X10_periodGoes_112 ?_
            refine r_callV F e_X10_periodGoes_113 (q_X10_pays (x_l X) V c T Z u h P L1 _ _ i h5633.1 (hok1) hP (by omega) (by first | omega | assumption | decide)) cb_X10_pays ml_X10_281 im_X10_pays se_X10_pays h5633 rfl rfl (rest := []) rfl (Nat.le_of_ble_eq_true rfl) ⟨Nat.le_of_ble_eq_true rfl, Nat.le_of_ble_eq_true rfl⟩ ⟨Nat.le_of_ble_eq_true rfl, Nat.le_of_ble_eq_true rfl⟩ (fun r σ5636 hp => ?_)
            obtain ⟨L5639, okL5639, r5640, h5637, rfl⟩ := hp
            have h5638 := HS.trans h5633 h5637 (by decide)
            refine m_iinc F (v := nI (i + 1)) (lv' := [(1, .int (nI (i + 1))), (2, .int (nI (160 * i))), (0, .ref c)]) e_X10_periodGoes_116 rfl (nI_add i 1) (by decide) rfl ?_
            refine m_goto F e_X10_periodGoes_119 ?_
            refine Wm.lvsub (lv' := [(1, .int (nI (i + 1))), (0, .ref c)]) ?_ [0, 2] rfl
            exact ih (i + 1) L5639 _ h5638 okL5639 (by omega) (by omega)
        · refine m_if_eq F e_X10_periodGoes_61 (fun q => absurd q (by decide)) (fun _ => ?_)
          refine m_aload_n F rfl e_X10_periodGoes_64 ?_
          refine m_iload_n F rfl e_X10_periodGoes_65 ?_
          refine r_callV F e_X10_periodGoes_66 (q_X10_isTied (x_l X) V c T Z u h P L1 _ _ i h5628.1 (hok1.b) hP (by omega)) cb_X10_isTied ml_X10_270 im_X10_isTied se_X10_isTied h5628 rfl rfl (rest := []) rfl (Nat.le_of_ble_eq_true rfl) ⟨Nat.le_of_ble_eq_true rfl, Nat.le_of_ble_eq_true rfl⟩ ⟨Nat.le_of_ble_eq_true rfl, Nat.le_of_ble_eq_true rfl⟩ (fun r σ5641 hp => ?_)
          obtain ⟨h5642, n5644, hn5644, rfl⟩ := hp
          have h5643 := HS.trans h5628 h5642 (by decide)
          refine m_if_eq F e_X10_periodGoes_69 (fun q69 => ?_) (fun q69 => ?_)
          · have c69 : n5644 = 0 := (nI_eq (a := n5644) (b := 0) (by omega) (by omega)).mp q69
            refine m_aload_n F rfl e_X10_periodGoes_103 ?_
            refine m_iload_n F rfl e_X10_periodGoes_104 ?_
            refine r_callV F e_X10_periodGoes_105 (q_X10_isOn (x_l X) V c T Z u h P L1 _ _ i h5643.1 (hok1.b) hP (by omega)) cb_X10_isOn ml_X10_267 im_X10_isOn se_X10_isOn h5643 rfl rfl (rest := []) rfl (Nat.le_of_ble_eq_true rfl) ⟨Nat.le_of_ble_eq_true rfl, Nat.le_of_ble_eq_true rfl⟩ ⟨Nat.le_of_ble_eq_true rfl, Nat.le_of_ble_eq_true rfl⟩ (fun r σ5645 hp => ?_)
            obtain ⟨h5646, c5648⟩ := hp
            have h5647 := HS.trans h5643 h5646 (by decide)
            rcases c5648 with ⟨g5649, rfl⟩ | ⟨g5649, rfl⟩
            · refine m_if_eq F e_X10_periodGoes_108 (fun _ => ?_) (fun q => absurd (by decide) q)
              refine m_iinc F (v := nI (i + 1)) (lv' := [(1, .int (nI (i + 1))), (2, .int (nI (160 * i))), (0, .ref c)]) e_X10_periodGoes_116 rfl (nI_add i 1) (by decide) rfl ?_
              refine m_goto F e_X10_periodGoes_119 ?_
              refine Wm.lvsub (lv' := [(1, .int (nI (i + 1))), (0, .ref c)]) ?_ [0, 2] rfl
              exact ih (i + 1) L1 _ h5647 hok1 (by omega) (by omega)
            · refine m_if_eq F e_X10_periodGoes_108 (fun q => absurd q (by decide)) (fun _ => ?_)
              refine m_aload_n F rfl e_X10_periodGoes_111 ?_
              refine m_iload_n F rfl e_X10_periodGoes_112 ?_
              refine r_callV F e_X10_periodGoes_113 (q_X10_pays (x_l X) V c T Z u h P L1 _ _ i h5647.1 (hok1) hP (by omega) (by first | omega | assumption | decide)) cb_X10_pays ml_X10_281 im_X10_pays se_X10_pays h5647 rfl rfl (rest := []) rfl (Nat.le_of_ble_eq_true rfl) ⟨Nat.le_of_ble_eq_true rfl, Nat.le_of_ble_eq_true rfl⟩ ⟨Nat.le_of_ble_eq_true rfl, Nat.le_of_ble_eq_true rfl⟩ (fun r σ5650 hp => ?_)
              obtain ⟨L5653, okL5653, r5654, h5651, rfl⟩ := hp
              have h5652 := HS.trans h5647 h5651 (by decide)
              refine m_iinc F (v := nI (i + 1)) (lv' := [(1, .int (nI (i + 1))), (2, .int (nI (160 * i))), (0, .ref c)]) e_X10_periodGoes_116 rfl (nI_add i 1) (by decide) rfl ?_
              refine m_goto F e_X10_periodGoes_119 ?_
              refine Wm.lvsub (lv' := [(1, .int (nI (i + 1))), (0, .ref c)]) ?_ [0, 2] rfl
              exact ih (i + 1) L5653 _ h5652 okL5653 (by omega) (by omega)
          · have c69 : n5644 ≠ 0 := by have hh := mt (nI_eq (a := n5644) (b := 0) (by omega) (by omega)).mpr q69; omega
            refine m_aload_n F rfl e_X10_periodGoes_72 ?_
            refine r_callV F e_X10_periodGoes_73 (q_X10_indexNow (x_l X) V c T Z u h P L1 _ _  h5643.1 (hok1.b) hP ) cb_X10_indexNow ml_X10_260 im_X10_indexNow se_X10_indexNow h5643 rfl rfl (rest := []) rfl (Nat.le_of_ble_eq_true rfl) ⟨Nat.le_of_ble_eq_true rfl, Nat.le_of_ble_eq_true rfl⟩ ⟨Nat.le_of_ble_eq_true rfl, Nat.le_of_ble_eq_true rfl⟩ (fun r σ5655 hp => ?_)
            obtain ⟨h5656, n5658, hn5658, gn5658, rfl⟩ := hp
            have h5657 := HS.trans h5643 h5656 (by decide)
            refine m_aload_n F rfl e_X10_periodGoes_76 ?_
            refine r_getC F e_X10_periodGoes_77 fl_X10_59 h5657 ((fld_eq (h5656.2 c (by rw [show kC c c = 1 from kC_at (k := 0) (by decide)]; decide))).trans ((fld_eq (h5642.2 c (by rw [show kC c c = 1 from kC_at (k := 0) (by decide)]; decide))).trans ((fld_eq (h5627.2 c (by rw [show kC c c = 1 from kC_at (k := 0) (by decide)]; decide))).trans f5621))) ?_
            refine m_iload_n F rfl e_X10_periodGoes_80 ?_
            refine m_iconst F (v := 4) (by decide) e_X10_periodGoes_81 ?_
            refine m_iadd F e_X10_periodGoes_82 ?_
            refine Wm.topE (w := nI (160 * i + 4)) (nI_add (160 * i) 4) ?_
            refine r_sld F (j := 160 * i + 4) e_X10_periodGoes_83 h5657 (nI_clamp (by omega)) (vp_in_nI (by omega) (by decide)) (fun x5659 h5660 f5661 => ?_)
            refine m_lcmp F e_X10_periodGoes_84 ?_
            refine Wm.top (fun x5662 _ => ?_)
            refine m_if_eq F e_X10_periodGoes_85 (fun q85 => ?_) (fun q85 => ?_)
            · subst q85
              refine m_aload_n F rfl e_X10_periodGoes_103 ?_
              refine m_iload_n F rfl e_X10_periodGoes_104 ?_
              refine r_callV F e_X10_periodGoes_105 (q_X10_isOn (x_l X) V c T Z u h P L1 _ _ i h5657.1 (hok1.b) hP (by omega)) cb_X10_isOn ml_X10_267 im_X10_isOn se_X10_isOn h5657 rfl rfl (rest := []) rfl (Nat.le_of_ble_eq_true rfl) ⟨Nat.le_of_ble_eq_true rfl, Nat.le_of_ble_eq_true rfl⟩ ⟨Nat.le_of_ble_eq_true rfl, Nat.le_of_ble_eq_true rfl⟩ (fun r σ5663 hp => ?_)
              obtain ⟨h5664, c5666⟩ := hp
              have h5665 := HS.trans h5657 h5664 (by decide)
              rcases c5666 with ⟨g5667, rfl⟩ | ⟨g5667, rfl⟩
              · refine m_if_eq F e_X10_periodGoes_108 (fun _ => ?_) (fun q => absurd (by decide) q)
                refine m_iinc F (v := nI (i + 1)) (lv' := [(1, .int (nI (i + 1))), (2, .int (nI (160 * i))), (0, .ref c)]) e_X10_periodGoes_116 rfl (nI_add i 1) (by decide) rfl ?_
                refine m_goto F e_X10_periodGoes_119 ?_
                refine Wm.lvsub (lv' := [(1, .int (nI (i + 1))), (0, .ref c)]) ?_ [0, 2] rfl
                exact ih (i + 1) L1 _ h5665 hok1 (by omega) (by omega)
              · refine m_if_eq F e_X10_periodGoes_108 (fun q => absurd q (by decide)) (fun _ => ?_)
                refine m_aload_n F rfl e_X10_periodGoes_111 ?_
                refine m_iload_n F rfl e_X10_periodGoes_112 ?_
                refine r_callV F e_X10_periodGoes_113 (q_X10_pays (x_l X) V c T Z u h P L1 _ _ i h5665.1 (hok1) hP (by omega) (by first | omega | assumption | decide)) cb_X10_pays ml_X10_281 im_X10_pays se_X10_pays h5665 rfl rfl (rest := []) rfl (Nat.le_of_ble_eq_true rfl) ⟨Nat.le_of_ble_eq_true rfl, Nat.le_of_ble_eq_true rfl⟩ ⟨Nat.le_of_ble_eq_true rfl, Nat.le_of_ble_eq_true rfl⟩ (fun r σ5668 hp => ?_)
                obtain ⟨L5671, okL5671, r5672, h5669, rfl⟩ := hp
                have h5670 := HS.trans h5665 h5669 (by decide)
                refine m_iinc F (v := nI (i + 1)) (lv' := [(1, .int (nI (i + 1))), (2, .int (nI (160 * i))), (0, .ref c)]) e_X10_periodGoes_116 rfl (nI_add i 1) (by decide) rfl ?_
                refine m_goto F e_X10_periodGoes_119 ?_
                refine Wm.lvsub (lv' := [(1, .int (nI (i + 1))), (0, .ref c)]) ?_ [0, 2] rfl
                exact ih (i + 1) L5671 _ h5670 okL5671 (by omega) (by omega)
            · refine m_aload_n F rfl e_X10_periodGoes_88 ?_
              refine m_iload_n F rfl e_X10_periodGoes_89 ?_
              refine m_aload_n F rfl e_X10_periodGoes_90 ?_
              refine r_callV F e_X10_periodGoes_91 (q_X10_indexNow (x_l X) V c T Z u h P L1 _ _  h5657.1 (hok1.b) hP ) cb_X10_indexNow ml_X10_260 im_X10_indexNow se_X10_indexNow h5657 rfl rfl (rest := [.int (nI i), .ref c]) rfl (Nat.le_of_ble_eq_true rfl) ⟨Nat.le_of_ble_eq_true rfl, Nat.le_of_ble_eq_true rfl⟩ ⟨Nat.le_of_ble_eq_true rfl, Nat.le_of_ble_eq_true rfl⟩ (fun r σ5673 hp => ?_)
              obtain ⟨h5674, n5676, hn5676, gn5676, rfl⟩ := hp
              have h5675 := HS.trans h5657 h5674 (by decide)
              refine r_callV F e_X10_periodGoes_94 (q_X10_indexes (x_l X) V c T Z u h P L1 _ _ i n5676 h5675.1 (hok1.b) hP (by omega) (by omega) (by first | omega | assumption | decide)) cb_X10_indexes ml_X10_273 im_X10_indexes se_X10_indexes h5675 rfl rfl (rest := []) rfl (Nat.le_of_ble_eq_true rfl) ⟨Nat.le_of_ble_eq_true rfl, Nat.le_of_ble_eq_true rfl⟩ ⟨Nat.le_of_ble_eq_true rfl, Nat.le_of_ble_eq_true rfl⟩ (fun r σ5677 hp => ?_)
              obtain ⟨h5678, rfl⟩ := hp
              have h5679 := HS.trans h5675 h5678 (by decide)
              refine m_aload_n F rfl e_X10_periodGoes_97 ?_
              refine m_iload_n F rfl e_X10_periodGoes_98 ?_
              refine r_callV F e_X10_periodGoes_99 (q_X10_remeasures (x_l X) V c T Z u h P L1 _ _ i h5679.1 (hok1.b) hP (by omega)) cb_X10_remeasures ml_X10_277 im_X10_remeasures se_X10_remeasures h5679 rfl rfl (rest := []) rfl (Nat.le_of_ble_eq_true rfl) ⟨Nat.le_of_ble_eq_true rfl, Nat.le_of_ble_eq_true rfl⟩ ⟨Nat.le_of_ble_eq_true rfl, Nat.le_of_ble_eq_true rfl⟩ (fun r σ5680 hp => ?_)
              obtain ⟨h5681, x5683, rfl⟩ := hp
              have h5682 := HS.trans h5679 h5681 (by decide)
              refine m_pop2_2 F rfl e_X10_periodGoes_102 ?_
              refine m_aload_n F rfl e_X10_periodGoes_103 ?_
              refine m_iload_n F rfl e_X10_periodGoes_104 ?_
              refine r_callV F e_X10_periodGoes_105 (q_X10_isOn (x_l X) V c T Z u h P L1 _ _ i h5682.1 (hok1.b) hP (by omega)) cb_X10_isOn ml_X10_267 im_X10_isOn se_X10_isOn h5682 rfl rfl (rest := []) rfl (Nat.le_of_ble_eq_true rfl) ⟨Nat.le_of_ble_eq_true rfl, Nat.le_of_ble_eq_true rfl⟩ ⟨Nat.le_of_ble_eq_true rfl, Nat.le_of_ble_eq_true rfl⟩ (fun r σ5684 hp => ?_)
              obtain ⟨h5685, c5687⟩ := hp
              have h5686 := HS.trans h5682 h5685 (by decide)
              rcases c5687 with ⟨g5688, rfl⟩ | ⟨g5688, rfl⟩
              · refine m_if_eq F e_X10_periodGoes_108 (fun _ => ?_) (fun q => absurd (by decide) q)
                refine m_iinc F (v := nI (i + 1)) (lv' := [(1, .int (nI (i + 1))), (2, .int (nI (160 * i))), (0, .ref c)]) e_X10_periodGoes_116 rfl (nI_add i 1) (by decide) rfl ?_
                refine m_goto F e_X10_periodGoes_119 ?_
                refine Wm.lvsub (lv' := [(1, .int (nI (i + 1))), (0, .ref c)]) ?_ [0, 2] rfl
                exact ih (i + 1) L1 _ h5686 hok1 (by omega) (by omega)
              · refine m_if_eq F e_X10_periodGoes_108 (fun q => absurd q (by decide)) (fun _ => ?_)
                refine m_aload_n F rfl e_X10_periodGoes_111 ?_
                refine m_iload_n F rfl e_X10_periodGoes_112 ?_
                refine r_callV F e_X10_periodGoes_113 (q_X10_pays (x_l X) V c T Z u h P L1 _ _ i h5686.1 (hok1) hP (by omega) (by first | omega | assumption | decide)) cb_X10_pays ml_X10_281 im_X10_pays se_X10_pays h5686 rfl rfl (rest := []) rfl (Nat.le_of_ble_eq_true rfl) ⟨Nat.le_of_ble_eq_true rfl, Nat.le_of_ble_eq_true rfl⟩ ⟨Nat.le_of_ble_eq_true rfl, Nat.le_of_ble_eq_true rfl⟩ (fun r σ5689 hp => ?_)
                obtain ⟨L5692, okL5692, r5693, h5690, rfl⟩ := hp
                have h5691 := HS.trans h5686 h5690 (by decide)
                refine m_iinc F (v := nI (i + 1)) (lv' := [(1, .int (nI (i + 1))), (2, .int (nI (160 * i))), (0, .ref c)]) e_X10_periodGoes_116 rfl (nI_add i 1) (by decide) rfl ?_
                refine m_goto F e_X10_periodGoes_119 ?_
                refine Wm.lvsub (lv' := [(1, .int (nI (i + 1))), (0, .ref c)]) ?_ [0, 2] rfl
                exact ih (i + 1) L5692 _ h5691 okL5692 (by omega) (by omega)
      · have c26 : ((L1 i).1) = 0 := (lN_eq (a := ((L1 i).1)) (b := 0) (by omega) (by omega)).mp ((lg_cmp_eq _ _).mp q26)
        refine m_aload_n F rfl e_X10_periodGoes_29 ?_
        refine r_get F e_X10_periodGoes_30 fl_X10_19 h5610 rfl (fun v hv f5694 => ?_)
        obtain rfl : v = .ref (c + 4) := hv
        refine m_iload_n F rfl e_X10_periodGoes_33 ?_
        refine r_iald F (len := 8) (j := i) e_X10_periodGoes_34 h5610 (fun _ h => h) (by decide) (nI_clamp (by omega)) (vp_in_nI (by omega) (by decide)) (fun x5695 h5696 f5697 => ?_)
        refine m_i2l F e_X10_periodGoes_35 ?_
        refine Wm.topl (fun x5698 _ => ?_)
        refine m_aload_n F rfl e_X10_periodGoes_36 ?_
        refine r_getC F e_X10_periodGoes_37 fl_X10_59 h5610 (f5621) ?_
        refine m_sipush F (v := 744) (by decide) e_X10_periodGoes_40 ?_
        refine r_sld F (j := 744) e_X10_periodGoes_43 h5610 (by decide) (by unfold vp_in; decide) (fun x5699 h5700 f5701 => ?_)
        have hl5702 := hok1.1
        obtain rfl : x5699 = lN (L1 4).1 := EJ_p.mp h5700
        refine m_lcmp F e_X10_periodGoes_44 ?_
        refine Wm.top (fun x5703 _ => ?_)
        refine m_if_ne F e_X10_periodGoes_45 (fun q45 => ?_) (fun q45 => ?_)
        · refine m_aload_n F rfl e_X10_periodGoes_56 ?_
          refine m_iload_n F rfl e_X10_periodGoes_57 ?_
          refine r_callV F e_X10_periodGoes_58 (q_X10_isOn (x_l X) V c T Z u h P L1 _ _ i h5610.1 (hok1.b) hP (by omega)) cb_X10_isOn ml_X10_267 im_X10_isOn se_X10_isOn h5610 rfl rfl (rest := []) rfl (Nat.le_of_ble_eq_true rfl) ⟨Nat.le_of_ble_eq_true rfl, Nat.le_of_ble_eq_true rfl⟩ ⟨Nat.le_of_ble_eq_true rfl, Nat.le_of_ble_eq_true rfl⟩ (fun r σ5704 hp => ?_)
          obtain ⟨h5705, c5707⟩ := hp
          have h5706 := HS.trans h5610 h5705 (by decide)
          rcases c5707 with ⟨g5708, rfl⟩ | ⟨g5708, rfl⟩
          · refine m_if_eq F e_X10_periodGoes_61 (fun _ => ?_) (fun q => absurd (by decide) q)
            refine m_aload_n F rfl e_X10_periodGoes_103 ?_
            refine m_iload_n F rfl e_X10_periodGoes_104 ?_
            refine r_callV F e_X10_periodGoes_105 (q_X10_isOn (x_l X) V c T Z u h P L1 _ _ i h5706.1 (hok1.b) hP (by omega)) cb_X10_isOn ml_X10_267 im_X10_isOn se_X10_isOn h5706 rfl rfl (rest := []) rfl (Nat.le_of_ble_eq_true rfl) ⟨Nat.le_of_ble_eq_true rfl, Nat.le_of_ble_eq_true rfl⟩ ⟨Nat.le_of_ble_eq_true rfl, Nat.le_of_ble_eq_true rfl⟩ (fun r σ5709 hp => ?_)
            obtain ⟨h5710, c5712⟩ := hp
            have h5711 := HS.trans h5706 h5710 (by decide)
            rcases c5712 with ⟨g5713, rfl⟩ | ⟨g5713, rfl⟩
            · refine m_if_eq F e_X10_periodGoes_108 (fun _ => ?_) (fun q => absurd (by decide) q)
              refine m_iinc F (v := nI (i + 1)) (lv' := [(1, .int (nI (i + 1))), (2, .int (nI (160 * i))), (0, .ref c)]) e_X10_periodGoes_116 rfl (nI_add i 1) (by decide) rfl ?_
              refine m_goto F e_X10_periodGoes_119 ?_
              refine Wm.lvsub (lv' := [(1, .int (nI (i + 1))), (0, .ref c)]) ?_ [0, 2] rfl
              exact ih (i + 1) L1 _ h5711 hok1 (by omega) (by omega)
            · refine m_if_eq F e_X10_periodGoes_108 (fun q => absurd q (by decide)) (fun _ => ?_)
              refine m_aload_n F rfl e_X10_periodGoes_111 ?_
              refine m_iload_n F rfl e_X10_periodGoes_112 ?_
              refine r_callV F e_X10_periodGoes_113 (q_X10_pays (x_l X) V c T Z u h P L1 _ _ i h5711.1 (hok1) hP (by omega) (by first | omega | assumption | decide)) cb_X10_pays ml_X10_281 im_X10_pays se_X10_pays h5711 rfl rfl (rest := []) rfl (Nat.le_of_ble_eq_true rfl) ⟨Nat.le_of_ble_eq_true rfl, Nat.le_of_ble_eq_true rfl⟩ ⟨Nat.le_of_ble_eq_true rfl, Nat.le_of_ble_eq_true rfl⟩ (fun r σ5714 hp => ?_)
              obtain ⟨L5717, okL5717, r5718, h5715, rfl⟩ := hp
              have h5716 := HS.trans h5711 h5715 (by decide)
              refine m_iinc F (v := nI (i + 1)) (lv' := [(1, .int (nI (i + 1))), (2, .int (nI (160 * i))), (0, .ref c)]) e_X10_periodGoes_116 rfl (nI_add i 1) (by decide) rfl ?_
              refine m_goto F e_X10_periodGoes_119 ?_
              refine Wm.lvsub (lv' := [(1, .int (nI (i + 1))), (0, .ref c)]) ?_ [0, 2] rfl
              exact ih (i + 1) L5717 _ h5716 okL5717 (by omega) (by omega)
          · refine m_if_eq F e_X10_periodGoes_61 (fun q => absurd q (by decide)) (fun _ => ?_)
            refine m_aload_n F rfl e_X10_periodGoes_64 ?_
            refine m_iload_n F rfl e_X10_periodGoes_65 ?_
            refine r_callV F e_X10_periodGoes_66 (q_X10_isTied (x_l X) V c T Z u h P L1 _ _ i h5706.1 (hok1.b) hP (by omega)) cb_X10_isTied ml_X10_270 im_X10_isTied se_X10_isTied h5706 rfl rfl (rest := []) rfl (Nat.le_of_ble_eq_true rfl) ⟨Nat.le_of_ble_eq_true rfl, Nat.le_of_ble_eq_true rfl⟩ ⟨Nat.le_of_ble_eq_true rfl, Nat.le_of_ble_eq_true rfl⟩ (fun r σ5719 hp => ?_)
            obtain ⟨h5720, n5722, hn5722, rfl⟩ := hp
            have h5721 := HS.trans h5706 h5720 (by decide)
            refine m_if_eq F e_X10_periodGoes_69 (fun q69 => ?_) (fun q69 => ?_)
            · have c69 : n5722 = 0 := (nI_eq (a := n5722) (b := 0) (by omega) (by omega)).mp q69
              refine m_aload_n F rfl e_X10_periodGoes_103 ?_
              refine m_iload_n F rfl e_X10_periodGoes_104 ?_
              refine r_callV F e_X10_periodGoes_105 (q_X10_isOn (x_l X) V c T Z u h P L1 _ _ i h5721.1 (hok1.b) hP (by omega)) cb_X10_isOn ml_X10_267 im_X10_isOn se_X10_isOn h5721 rfl rfl (rest := []) rfl (Nat.le_of_ble_eq_true rfl) ⟨Nat.le_of_ble_eq_true rfl, Nat.le_of_ble_eq_true rfl⟩ ⟨Nat.le_of_ble_eq_true rfl, Nat.le_of_ble_eq_true rfl⟩ (fun r σ5723 hp => ?_)
              obtain ⟨h5724, c5726⟩ := hp
              have h5725 := HS.trans h5721 h5724 (by decide)
              rcases c5726 with ⟨g5727, rfl⟩ | ⟨g5727, rfl⟩
              · refine m_if_eq F e_X10_periodGoes_108 (fun _ => ?_) (fun q => absurd (by decide) q)
                refine m_iinc F (v := nI (i + 1)) (lv' := [(1, .int (nI (i + 1))), (2, .int (nI (160 * i))), (0, .ref c)]) e_X10_periodGoes_116 rfl (nI_add i 1) (by decide) rfl ?_
                refine m_goto F e_X10_periodGoes_119 ?_
                refine Wm.lvsub (lv' := [(1, .int (nI (i + 1))), (0, .ref c)]) ?_ [0, 2] rfl
                exact ih (i + 1) L1 _ h5725 hok1 (by omega) (by omega)
              · refine m_if_eq F e_X10_periodGoes_108 (fun q => absurd q (by decide)) (fun _ => ?_)
                refine m_aload_n F rfl e_X10_periodGoes_111 ?_
                refine m_iload_n F rfl e_X10_periodGoes_112 ?_
                refine r_callV F e_X10_periodGoes_113 (q_X10_pays (x_l X) V c T Z u h P L1 _ _ i h5725.1 (hok1) hP (by omega) (by first | omega | assumption | decide)) cb_X10_pays ml_X10_281 im_X10_pays se_X10_pays h5725 rfl rfl (rest := []) rfl (Nat.le_of_ble_eq_true rfl) ⟨Nat.le_of_ble_eq_true rfl, Nat.le_of_ble_eq_true rfl⟩ ⟨Nat.le_of_ble_eq_true rfl, Nat.le_of_ble_eq_true rfl⟩ (fun r σ5728 hp => ?_)
                obtain ⟨L5731, okL5731, r5732, h5729, rfl⟩ := hp
                have h5730 := HS.trans h5725 h5729 (by decide)
                refine m_iinc F (v := nI (i + 1)) (lv' := [(1, .int (nI (i + 1))), (2, .int (nI (160 * i))), (0, .ref c)]) e_X10_periodGoes_116 rfl (nI_add i 1) (by decide) rfl ?_
                refine m_goto F e_X10_periodGoes_119 ?_
                refine Wm.lvsub (lv' := [(1, .int (nI (i + 1))), (0, .ref c)]) ?_ [0, 2] rfl
                exact ih (i + 1) L5731 _ h5730 okL5731 (by omega) (by omega)
            · have c69 : n5722 ≠ 0 := by have hh := mt (nI_eq (a := n5722) (b := 0) (by omega) (by omega)).mpr q69; omega
              refine m_aload_n F rfl e_X10_periodGoes_72 ?_
              refine r_callV F e_X10_periodGoes_73 (q_X10_indexNow (x_l X) V c T Z u h P L1 _ _  h5721.1 (hok1.b) hP ) cb_X10_indexNow ml_X10_260 im_X10_indexNow se_X10_indexNow h5721 rfl rfl (rest := []) rfl (Nat.le_of_ble_eq_true rfl) ⟨Nat.le_of_ble_eq_true rfl, Nat.le_of_ble_eq_true rfl⟩ ⟨Nat.le_of_ble_eq_true rfl, Nat.le_of_ble_eq_true rfl⟩ (fun r σ5733 hp => ?_)
              obtain ⟨h5734, n5736, hn5736, gn5736, rfl⟩ := hp
              have h5735 := HS.trans h5721 h5734 (by decide)
              refine m_aload_n F rfl e_X10_periodGoes_76 ?_
              refine r_getC F e_X10_periodGoes_77 fl_X10_59 h5735 ((fld_eq (h5734.2 c (by rw [show kC c c = 1 from kC_at (k := 0) (by decide)]; decide))).trans ((fld_eq (h5720.2 c (by rw [show kC c c = 1 from kC_at (k := 0) (by decide)]; decide))).trans ((fld_eq (h5705.2 c (by rw [show kC c c = 1 from kC_at (k := 0) (by decide)]; decide))).trans f5621))) ?_
              refine m_iload_n F rfl e_X10_periodGoes_80 ?_
              refine m_iconst F (v := 4) (by decide) e_X10_periodGoes_81 ?_
              refine m_iadd F e_X10_periodGoes_82 ?_
              refine Wm.topE (w := nI (160 * i + 4)) (nI_add (160 * i) 4) ?_
              refine r_sld F (j := 160 * i + 4) e_X10_periodGoes_83 h5735 (nI_clamp (by omega)) (vp_in_nI (by omega) (by decide)) (fun x5737 h5738 f5739 => ?_)
              refine m_lcmp F e_X10_periodGoes_84 ?_
              refine Wm.top (fun x5740 _ => ?_)
              refine m_if_eq F e_X10_periodGoes_85 (fun q85 => ?_) (fun q85 => ?_)
              · subst q85
                refine m_aload_n F rfl e_X10_periodGoes_103 ?_
                refine m_iload_n F rfl e_X10_periodGoes_104 ?_
                refine r_callV F e_X10_periodGoes_105 (q_X10_isOn (x_l X) V c T Z u h P L1 _ _ i h5735.1 (hok1.b) hP (by omega)) cb_X10_isOn ml_X10_267 im_X10_isOn se_X10_isOn h5735 rfl rfl (rest := []) rfl (Nat.le_of_ble_eq_true rfl) ⟨Nat.le_of_ble_eq_true rfl, Nat.le_of_ble_eq_true rfl⟩ ⟨Nat.le_of_ble_eq_true rfl, Nat.le_of_ble_eq_true rfl⟩ (fun r σ5741 hp => ?_)
                obtain ⟨h5742, c5744⟩ := hp
                have h5743 := HS.trans h5735 h5742 (by decide)
                rcases c5744 with ⟨g5745, rfl⟩ | ⟨g5745, rfl⟩
                · refine m_if_eq F e_X10_periodGoes_108 (fun _ => ?_) (fun q => absurd (by decide) q)
                  refine m_iinc F (v := nI (i + 1)) (lv' := [(1, .int (nI (i + 1))), (2, .int (nI (160 * i))), (0, .ref c)]) e_X10_periodGoes_116 rfl (nI_add i 1) (by decide) rfl ?_
                  refine m_goto F e_X10_periodGoes_119 ?_
                  refine Wm.lvsub (lv' := [(1, .int (nI (i + 1))), (0, .ref c)]) ?_ [0, 2] rfl
                  exact ih (i + 1) L1 _ h5743 hok1 (by omega) (by omega)
                · refine m_if_eq F e_X10_periodGoes_108 (fun q => absurd q (by decide)) (fun _ => ?_)
                  refine m_aload_n F rfl e_X10_periodGoes_111 ?_
                  refine m_iload_n F rfl e_X10_periodGoes_112 ?_
                  refine r_callV F e_X10_periodGoes_113 (q_X10_pays (x_l X) V c T Z u h P L1 _ _ i h5743.1 (hok1) hP (by omega) (by first | omega | assumption | decide)) cb_X10_pays ml_X10_281 im_X10_pays se_X10_pays h5743 rfl rfl (rest := []) rfl (Nat.le_of_ble_eq_true rfl) ⟨Nat.le_of_ble_eq_true rfl, Nat.le_of_ble_eq_true rfl⟩ ⟨Nat.le_of_ble_eq_true rfl, Nat.le_of_ble_eq_true rfl⟩ (fun r σ5746 hp => ?_)
                  obtain ⟨L5749, okL5749, r5750, h5747, rfl⟩ := hp
                  have h5748 := HS.trans h5743 h5747 (by decide)
                  refine m_iinc F (v := nI (i + 1)) (lv' := [(1, .int (nI (i + 1))), (2, .int (nI (160 * i))), (0, .ref c)]) e_X10_periodGoes_116 rfl (nI_add i 1) (by decide) rfl ?_
                  refine m_goto F e_X10_periodGoes_119 ?_
                  refine Wm.lvsub (lv' := [(1, .int (nI (i + 1))), (0, .ref c)]) ?_ [0, 2] rfl
                  exact ih (i + 1) L5749 _ h5748 okL5749 (by omega) (by omega)
              · refine m_aload_n F rfl e_X10_periodGoes_88 ?_
                refine m_iload_n F rfl e_X10_periodGoes_89 ?_
                refine m_aload_n F rfl e_X10_periodGoes_90 ?_
                refine r_callV F e_X10_periodGoes_91 (q_X10_indexNow (x_l X) V c T Z u h P L1 _ _  h5735.1 (hok1.b) hP ) cb_X10_indexNow ml_X10_260 im_X10_indexNow se_X10_indexNow h5735 rfl rfl (rest := [.int (nI i), .ref c]) rfl (Nat.le_of_ble_eq_true rfl) ⟨Nat.le_of_ble_eq_true rfl, Nat.le_of_ble_eq_true rfl⟩ ⟨Nat.le_of_ble_eq_true rfl, Nat.le_of_ble_eq_true rfl⟩ (fun r σ5751 hp => ?_)
                obtain ⟨h5752, n5754, hn5754, gn5754, rfl⟩ := hp
                have h5753 := HS.trans h5735 h5752 (by decide)
                refine r_callV F e_X10_periodGoes_94 (q_X10_indexes (x_l X) V c T Z u h P L1 _ _ i n5754 h5753.1 (hok1.b) hP (by omega) (by omega) (by first | omega | assumption | decide)) cb_X10_indexes ml_X10_273 im_X10_indexes se_X10_indexes h5753 rfl rfl (rest := []) rfl (Nat.le_of_ble_eq_true rfl) ⟨Nat.le_of_ble_eq_true rfl, Nat.le_of_ble_eq_true rfl⟩ ⟨Nat.le_of_ble_eq_true rfl, Nat.le_of_ble_eq_true rfl⟩ (fun r σ5755 hp => ?_)
                obtain ⟨h5756, rfl⟩ := hp
                have h5757 := HS.trans h5753 h5756 (by decide)
                refine m_aload_n F rfl e_X10_periodGoes_97 ?_
                refine m_iload_n F rfl e_X10_periodGoes_98 ?_
                refine r_callV F e_X10_periodGoes_99 (q_X10_remeasures (x_l X) V c T Z u h P L1 _ _ i h5757.1 (hok1.b) hP (by omega)) cb_X10_remeasures ml_X10_277 im_X10_remeasures se_X10_remeasures h5757 rfl rfl (rest := []) rfl (Nat.le_of_ble_eq_true rfl) ⟨Nat.le_of_ble_eq_true rfl, Nat.le_of_ble_eq_true rfl⟩ ⟨Nat.le_of_ble_eq_true rfl, Nat.le_of_ble_eq_true rfl⟩ (fun r σ5758 hp => ?_)
                obtain ⟨h5759, x5761, rfl⟩ := hp
                have h5760 := HS.trans h5757 h5759 (by decide)
                refine m_pop2_2 F rfl e_X10_periodGoes_102 ?_
                refine m_aload_n F rfl e_X10_periodGoes_103 ?_
                refine m_iload_n F rfl e_X10_periodGoes_104 ?_
                refine r_callV F e_X10_periodGoes_105 (q_X10_isOn (x_l X) V c T Z u h P L1 _ _ i h5760.1 (hok1.b) hP (by omega)) cb_X10_isOn ml_X10_267 im_X10_isOn se_X10_isOn h5760 rfl rfl (rest := []) rfl (Nat.le_of_ble_eq_true rfl) ⟨Nat.le_of_ble_eq_true rfl, Nat.le_of_ble_eq_true rfl⟩ ⟨Nat.le_of_ble_eq_true rfl, Nat.le_of_ble_eq_true rfl⟩ (fun r σ5762 hp => ?_)
                obtain ⟨h5763, c5765⟩ := hp
                have h5764 := HS.trans h5760 h5763 (by decide)
                rcases c5765 with ⟨g5766, rfl⟩ | ⟨g5766, rfl⟩
                · refine m_if_eq F e_X10_periodGoes_108 (fun _ => ?_) (fun q => absurd (by decide) q)
                  refine m_iinc F (v := nI (i + 1)) (lv' := [(1, .int (nI (i + 1))), (2, .int (nI (160 * i))), (0, .ref c)]) e_X10_periodGoes_116 rfl (nI_add i 1) (by decide) rfl ?_
                  refine m_goto F e_X10_periodGoes_119 ?_
                  refine Wm.lvsub (lv' := [(1, .int (nI (i + 1))), (0, .ref c)]) ?_ [0, 2] rfl
                  exact ih (i + 1) L1 _ h5764 hok1 (by omega) (by omega)
                · refine m_if_eq F e_X10_periodGoes_108 (fun q => absurd q (by decide)) (fun _ => ?_)
                  refine m_aload_n F rfl e_X10_periodGoes_111 ?_
                  refine m_iload_n F rfl e_X10_periodGoes_112 ?_
                  refine r_callV F e_X10_periodGoes_113 (q_X10_pays (x_l X) V c T Z u h P L1 _ _ i h5764.1 (hok1) hP (by omega) (by first | omega | assumption | decide)) cb_X10_pays ml_X10_281 im_X10_pays se_X10_pays h5764 rfl rfl (rest := []) rfl (Nat.le_of_ble_eq_true rfl) ⟨Nat.le_of_ble_eq_true rfl, Nat.le_of_ble_eq_true rfl⟩ ⟨Nat.le_of_ble_eq_true rfl, Nat.le_of_ble_eq_true rfl⟩ (fun r σ5767 hp => ?_)
                  obtain ⟨L5770, okL5770, r5771, h5768, rfl⟩ := hp
                  have h5769 := HS.trans h5764 h5768 (by decide)
                  refine m_iinc F (v := nI (i + 1)) (lv' := [(1, .int (nI (i + 1))), (2, .int (nI (160 * i))), (0, .ref c)]) e_X10_periodGoes_116 rfl (nI_add i 1) (by decide) rfl ?_
                  refine m_goto F e_X10_periodGoes_119 ?_
                  refine Wm.lvsub (lv' := [(1, .int (nI (i + 1))), (0, .ref c)]) ?_ [0, 2] rfl
                  exact ih (i + 1) L5770 _ h5769 okL5770 (by omega) (by omega)
        · subst q45
          refine m_aload_n F rfl e_X10_periodGoes_48 ?_
          refine m_iload_n F rfl e_X10_periodGoes_49 ?_
          refine r_callV F e_X10_periodGoes_50 (q_X10_starts1 (x_l X) V c T Z u h P L1 _ _ i h5610.1 (hok1) hP (by omega) (by first | omega | assumption | decide) (by first | omega | assumption | decide)) cb_X10_starts1 ml_X10_264 im_X10_starts1 se_X10_starts1 h5610 rfl rfl (rest := []) rfl (Nat.le_of_ble_eq_true rfl) ⟨Nat.le_of_ble_eq_true rfl, Nat.le_of_ble_eq_true rfl⟩ ⟨Nat.le_of_ble_eq_true rfl, Nat.le_of_ble_eq_true rfl⟩ (fun r σ5772 hp => ?_)
          obtain ⟨L5775, okL5775, r5776, h5773, rfl⟩ := hp
          have h5774 := HS.trans h5610 h5773 (by decide)
          refine m_goto F e_X10_periodGoes_53 ?_
          refine m_aload_n F rfl e_X10_periodGoes_103 ?_
          refine m_iload_n F rfl e_X10_periodGoes_104 ?_
          refine r_callV F e_X10_periodGoes_105 (q_X10_isOn (x_l X) V c T Z u h P L5775 _ _ i h5774.1 (okL5775.b) hP (by omega)) cb_X10_isOn ml_X10_267 im_X10_isOn se_X10_isOn h5774 rfl rfl (rest := []) rfl (Nat.le_of_ble_eq_true rfl) ⟨Nat.le_of_ble_eq_true rfl, Nat.le_of_ble_eq_true rfl⟩ ⟨Nat.le_of_ble_eq_true rfl, Nat.le_of_ble_eq_true rfl⟩ (fun r σ5777 hp => ?_)
          obtain ⟨h5778, c5780⟩ := hp
          have h5779 := HS.trans h5774 h5778 (by decide)
          rcases c5780 with ⟨g5781, rfl⟩ | ⟨g5781, rfl⟩
          · refine m_if_eq F e_X10_periodGoes_108 (fun _ => ?_) (fun q => absurd (by decide) q)
            refine m_iinc F (v := nI (i + 1)) (lv' := [(1, .int (nI (i + 1))), (2, .int (nI (160 * i))), (0, .ref c)]) e_X10_periodGoes_116 rfl (nI_add i 1) (by decide) rfl ?_
            refine m_goto F e_X10_periodGoes_119 ?_
            refine Wm.lvsub (lv' := [(1, .int (nI (i + 1))), (0, .ref c)]) ?_ [0, 2] rfl
            exact ih (i + 1) L5775 _ h5779 okL5775 (by omega) (by omega)
          · refine m_if_eq F e_X10_periodGoes_108 (fun q => absurd q (by decide)) (fun _ => ?_)
            refine m_aload_n F rfl e_X10_periodGoes_111 ?_
            refine m_iload_n F rfl e_X10_periodGoes_112 ?_
            refine r_callV F e_X10_periodGoes_113 (q_X10_pays (x_l X) V c T Z u h P L5775 _ _ i h5779.1 (okL5775) hP (by omega) (by first | omega | assumption | decide)) cb_X10_pays ml_X10_281 im_X10_pays se_X10_pays h5779 rfl rfl (rest := []) rfl (Nat.le_of_ble_eq_true rfl) ⟨Nat.le_of_ble_eq_true rfl, Nat.le_of_ble_eq_true rfl⟩ ⟨Nat.le_of_ble_eq_true rfl, Nat.le_of_ble_eq_true rfl⟩ (fun r σ5782 hp => ?_)
            obtain ⟨L5785, okL5785, r5786, h5783, rfl⟩ := hp
            have h5784 := HS.trans h5779 h5783 (by decide)
            refine m_iinc F (v := nI (i + 1)) (lv' := [(1, .int (nI (i + 1))), (2, .int (nI (160 * i))), (0, .ref c)]) e_X10_periodGoes_116 rfl (nI_add i 1) (by decide) rfl ?_
            refine m_goto F e_X10_periodGoes_119 ?_
            refine Wm.lvsub (lv' := [(1, .int (nI (i + 1))), (0, .ref c)]) ?_ [0, 2] rfl
            exact ih (i + 1) L5785 _ h5784 okL5785 (by omega) (by omega)
set_option maxRecDepth 20000 in
theorem q_X10_periodGoes (l : Launch) (V : VX) (c T Z u h : Nat) (P : NP) (L : Nat → LQ) (N : Nat) (σ : Mem)  (h0 : HR V c ⟨T, Z, u, h, P, L⟩ σ) (hok : OKL P.n0 L) (hP : OKP P) (hp0 : (L 4).1 ≤ 98) : Ct l V yX10_periodGoes cX10_periodGoes 3 none 3 0 0 N σ [.ref c] (fun r τ => ∃ L9, OKL P.n0 L9 ∧ (L9 4).1 = (L 4).1 + 1 ∧ HS V c (⟨T, Z, u, h, P, L9⟩ : RG) [0, 1, 2, 3, 4, 5, 6, 7, 8, 9, 10, 11, 12, 13, 14, 15, 16, 18, 19, 20, 21, 22] σ τ ∧ r = none) := by
  refine Ct.of (by decide) (Nat.le_of_ble_eq_true rfl) [(0, .ref c)] rfl (fun X hX F hQ => ?_)
  have hPP := hP
  unfold OKP at hPP
  have h1 : HS V c ⟨T, Z, u, h, P, L⟩ [0, 1, 2, 3, 4, 5, 6, 7, 8, 9, 10, 11, 12, 13, 14, 15, 16, 18, 19, 20, 21, 22] σ σ := HS.start h0
  refine m_iconst F (v := 0) (by decide) e_X10_periodGoes_0 ?_
  refine m_istore_n F (lv' := [(1, .int 0), (0, .ref c)]) e_X10_periodGoes_1 (by decide) rfl ?_
  exact lq_X10_periodGoes_2 F hQ hok hP hp0 (4 - 0 + 1) 0 L _ h1 hok (by omega) (Nat.lt_succ_self _)
set_option maxRecDepth 20000 in
theorem lq_X10_adds_10 {V : VX} {X : MX} {N : Nat} {σ : Mem} {c T Z u h : Nat} {P : NP} {L : Nat → LQ}  {n901 : Nat} {n902 : Nat} {x903 : Int64} {x904 : Int64} (F : Fx V X yX10_adds cX10_adds 9 none (rmd 0 0 0)) (hQ : Rt V X 0 0 N (fun r τ => ∃ L9, OKL P.n0 L9 ∧ (L9 n901).1 = (L n901).1 ∧ (L9 n901).2.2.1 = (L n901).2.2.1 ∧ (L9 4).1 = (L 4).1 ∧ HS V c (⟨T, Z, u, h, P, L9⟩ : RG) [0, 1, 2, 3, 4, 5, 6, 7, 8, 9, 10, 11, 12, 13, 14, 15, 16, 18, 19, 20, 21, 22, 23] σ τ ∧ r = none)) (hok : OKL P.n0 L) (hP : OKP P) (hn901 : n901 ≤ 3) (hn902 : n902 ≤ 24) (hp0 : (L n901).2.1 + n902 ≤ 72) : ∀ (fuel : Nat) (i : Nat) (L1 : Nat → LQ) (τ : Mem), HS V c (⟨T, Z, u, h, P, L1⟩ : RG) [0, 1, 2, 3, 4, 5, 6, 7, 8, 9, 10, 11, 12, 13, 14, 15, 16, 18, 19, 20, 21, 22, 23] σ τ → OKL P.n0 L1 → i ≤ n902 ∧ (L1 n901).2.1 + n902 ≤ 72 + i ∧ (L1 n901).1 = (L n901).1 ∧ (L1 n901).2.2.1 = (L n901).2.2.1 ∧ (L1 4).1 = (L 4).1 → n902 - i < fuel → Wm V X 9 N τ 0 0 10 [(8, .int (nI i)), (7, .int (nI (160 * n901))), (0, .ref c), (1, .int (nI n901)), (2, .int (nI n902)), (3, .long x903), (5, .long x904)] [] := by
  intro fuel
  induction fuel with
  | zero => intros; rename_i hm; exact absurd hm (Nat.not_lt_zero _)
  | succ fuel ih =>
    intro i L1 τ h1 hok1 hi hm
    have hPP := hP
    unfold OKP at hPP
    refine m_iload F rfl e_X10_adds_10 ?_
    refine m_iload_n F rfl e_X10_adds_12 ?_
    refine m_icmp_ge F e_X10_adds_13 (fun q13 => ?_) (fun q13 => ?_)
    · have c13 : i ≥ n902 := (nI_leI (a := n902) (b := i) (by omega) (by omega)).mp q13
      exact m_vret F hQ e_X10_adds_80 (⟨L1, hok1, (by first | omega | rfl | assumption), (by first | omega | rfl | assumption), (by first | omega | rfl | assumption), h1, rfl⟩)
    · have c13 : i < n902 := by have hh := mt (nI_leI (a := n902) (b := i) (by omega) (by omega)).mpr q13; omega
      refine m_aload_n F rfl e_X10_adds_16 ?_
      refine r_get F e_X10_adds_17 fl_X10_59 h1 rfl (fun v hv f5787 => ?_)
      obtain rfl : v = .ref (c + 16) := hv
      refine m_iload F rfl e_X10_adds_20 ?_
      refine m_bipush F (v := 13) (by decide) e_X10_adds_22 ?_
      refine m_iadd F e_X10_adds_24 ?_
      refine Wm.topE (w := nI (160 * n901 + 13)) (nI_add (160 * n901) 13) ?_
      refine m_aload_n F rfl e_X10_adds_25 ?_
      refine r_getC F e_X10_adds_26 fl_X10_59 h1 (f5787) ?_
      refine m_iload F rfl e_X10_adds_29 ?_
      refine m_iconst F (v := 1) (by decide) e_X10_adds_31 ?_
      refine m_iadd F e_X10_adds_32 ?_
      refine Wm.topE (w := nI (160 * n901 + 1)) (nI_add (160 * n901) 1) ?_
      refine r_sld F (j := 160 * n901 + 1) e_X10_adds_33 h1 (nI_clamp (by omega)) (vp_in_nI (by omega) (by decide)) (fun x5788 h5789 f5790 => ?_)
      have hl5791 := hok1.2 n901 (by omega)
      obtain rfl : x5788 = lN (L1 n901).2.1 := (EJ_l (l := n901) (r := 1) (by omega) (by decide)).mp h5789
      refine m_l2i F e_X10_adds_34 ?_
      refine Wm.topE (w := nI ((L1 n901).2.1)) (lN_i ((L1 n901).2.1)) ?_
      refine m_iadd F e_X10_adds_35 ?_
      refine Wm.topE (w := nI ((160 * n901 + 13) + ((L1 n901).2.1))) (nI_add (160 * n901 + 13) ((L1 n901).2.1)) ?_
      refine m_lload_n F rfl e_X10_adds_36 ?_
      refine r_sst F (g' := (⟨T, Z, u, h, P, L1⟩ : RG)) (j := (160 * n901 + 13) + ((L1 n901).2.1)) e_X10_adds_37 h1 (by decide) (nI_clamp (by omega)) (vp_in_nI (by omega) (by decide)) (fun f q => EJ_same (EJ_lw (l := n901) (r := ((160 * n901 + 13) + ((L1 n901).2.1)) - 160 * n901) (by omega) (by omega) (by omega)) q) (fun _ _ _ q => q) (fun σ5792 h5793 g5794 => ?_)
      refine m_aload_n F rfl e_X10_adds_38 ?_
      refine r_getC F e_X10_adds_39 fl_X10_59 h5793 ((fld_eq (g5794 _ (by omega))).trans f5787) ?_
      refine m_iload F rfl e_X10_adds_42 ?_
      refine m_bipush F (v := 85) (by decide) e_X10_adds_44 ?_
      refine m_iadd F e_X10_adds_46 ?_
      refine Wm.topE (w := nI (160 * n901 + 85)) (nI_add (160 * n901) 85) ?_
      refine m_aload_n F rfl e_X10_adds_47 ?_
      refine r_getC F e_X10_adds_48 fl_X10_59 h5793 ((fld_eq (g5794 _ (by omega))).trans f5787) ?_
      refine m_iload F rfl e_X10_adds_51 ?_
      refine m_iconst F (v := 1) (by decide) e_X10_adds_53 ?_
      refine m_iadd F e_X10_adds_54 ?_
      refine Wm.topE (w := nI (160 * n901 + 1)) (nI_add (160 * n901) 1) ?_
      refine r_sld F (j := 160 * n901 + 1) e_X10_adds_55 h5793 (nI_clamp (by omega)) (vp_in_nI (by omega) (by decide)) (fun x5795 h5796 f5797 => ?_)
      have hl5798 := hok1.2 n901 (by omega)
      obtain rfl : x5795 = lN (L1 n901).2.1 := (EJ_l (l := n901) (r := 1) (by omega) (by decide)).mp h5796
      refine m_l2i F e_X10_adds_56 ?_
      refine Wm.topE (w := nI ((L1 n901).2.1)) (lN_i ((L1 n901).2.1)) ?_
      refine m_iadd F e_X10_adds_57 ?_
      refine Wm.topE (w := nI ((160 * n901 + 85) + ((L1 n901).2.1))) (nI_add (160 * n901 + 85) ((L1 n901).2.1)) ?_
      refine m_lload F rfl e_X10_adds_58 ?_
      refine r_sst F (g' := (⟨T, Z, u, h, P, L1⟩ : RG)) (j := (160 * n901 + 85) + ((L1 n901).2.1)) e_X10_adds_60 h5793 (by decide) (nI_clamp (by omega)) (vp_in_nI (by omega) (by decide)) (fun f q => EJ_same (EJ_lw (l := n901) (r := ((160 * n901 + 85) + ((L1 n901).2.1)) - 160 * n901) (by omega) (by omega) (by omega)) q) (fun _ _ _ q => q) (fun σ5799 h5800 g5801 => ?_)
      refine m_aload_n F rfl e_X10_adds_61 ?_
      refine r_getC F e_X10_adds_62 fl_X10_59 h5800 ((fld_eq (g5801 _ (by omega))).trans ((fld_eq (g5794 _ (by omega))).trans f5787)) ?_
      refine m_iload F rfl e_X10_adds_65 ?_
      refine m_iconst F (v := 1) (by decide) e_X10_adds_67 ?_
      refine m_iadd F e_X10_adds_68 ?_
      refine Wm.topE (w := nI (160 * n901 + 1)) (nI_add (160 * n901) 1) ?_
      refine m_dup2_11 F rfl rfl e_X10_adds_69 ?_
      refine r_sld F (j := 160 * n901 + 1) e_X10_adds_70 h5800 (nI_clamp (by omega)) (vp_in_nI (by omega) (by decide)) (fun x5802 h5803 f5804 => ?_)
      have hl5805 := hok1.2 n901 (by omega)
      obtain rfl : x5802 = lN (L1 n901).2.1 := (EJ_l (l := n901) (r := 1) (by omega) (by decide)).mp h5803
      refine m_lconst F (v := 1) (by decide) e_X10_adds_71 ?_
      refine m_ladd F e_X10_adds_72 ?_
      refine Wm.toplE (w := lN ((L1 n901).2.1 + 1)) (lN_add ((L1 n901).2.1) 1) ?_
      refine r_sst F (g' := (⟨T, Z, u, h, P, (updL L1 n901 ((L1 n901).1, (L1 n901).2.1 + 1, (L1 n901).2.2.1, (L1 n901).2.2.2))⟩ : RG)) (j := 160 * n901 + 1) e_X10_adds_73 h5800 (by decide) (nI_clamp (by omega)) (vp_in_nI (by omega) (by decide)) (fun f q => EJ_up (l := n901) (r := 1) (by omega) (by decide) q rfl (by intro r' h1 h2 y hy; revert hy; unfold EL; split <;> simp_all)) CR.row (fun σ5806 h5807 g5808 => ?_)
      obtain ⟨L5809, eL5809⟩ : ∃ L9, L9 = (updL L1 n901 ((L1 n901).1, (L1 n901).2.1 + 1, (L1 n901).2.2.1, (L1 n901).2.2.2)) := ⟨_, rfl⟩
      rw [← eL5809] at h5807
      have fL5809 : L5809 n901 = ((L1 n901).1, (L1 n901).2.1 + 1, (L1 n901).2.2.1, (L1 n901).2.2.2) := by rw [eL5809]; exact if_pos rfl
      have fL58090 : (L5809 n901).1 = (L1 n901).1 := by rw [fL5809]
      have fL58091 : (L5809 n901).2.1 = (L1 n901).2.1 + 1 := by rw [fL5809]
      have fL58092 : (L5809 n901).2.2.1 = (L1 n901).2.2.1 := by rw [fL5809]
      have fL58093 : (L5809 n901).2.2.2 = (L1 n901).2.2.2 := by rw [fL5809]
      have oL5809 : ∀ i, i ≠ n901 → L5809 i = L1 i := fun i hi => by rw [eL5809]; exact if_neg hi
      have pL5809 : (L5809 4).1 = (L1 4).1 := by rw [oL5809 4 (by omega)]
      refine m_iinc F (v := nI (i + 1)) (lv' := [(8, .int (nI (i + 1))), (7, .int (nI (160 * n901))), (0, .ref c), (1, .int (nI n901)), (2, .int (nI n902)), (3, .long x903), (5, .long x904)]) e_X10_adds_74 rfl (nI_add i 1) (by decide) rfl ?_
      refine m_goto F e_X10_adds_77 ?_
      have ok5810 : OKL P.n0 L5809 := OKL.upd hok1 (l := n901) (by omega) (fun i hi => (oL5809 i hi)) (by have h9 := hok1.2 n901 (by omega); omega)
      exact ih (i + 1) L5809 _ h5807 ok5810 (by omega) (by omega)
set_option maxRecDepth 20000 in
theorem q_X10_adds (l : Launch) (V : VX) (c T Z u h : Nat) (P : NP) (L : Nat → LQ) (N : Nat) (σ : Mem) (n901 : Nat) (n902 : Nat) (x903 : Int64) (x904 : Int64) (h0 : HR V c ⟨T, Z, u, h, P, L⟩ σ) (hok : OKL P.n0 L) (hP : OKP P) (hn901 : n901 ≤ 3) (hn902 : n902 ≤ 24) (hp0 : (L n901).2.1 + n902 ≤ 72) : Ct l V yX10_adds cX10_adds 9 none 0 0 0 N σ [.ref c, .int (nI n901), .int (nI n902), .long x903, .long x904] (fun r τ => ∃ L9, OKL P.n0 L9 ∧ (L9 n901).1 = (L n901).1 ∧ (L9 n901).2.2.1 = (L n901).2.2.1 ∧ (L9 4).1 = (L 4).1 ∧ HS V c (⟨T, Z, u, h, P, L9⟩ : RG) [0, 1, 2, 3, 4, 5, 6, 7, 8, 9, 10, 11, 12, 13, 14, 15, 16, 18, 19, 20, 21, 22, 23] σ τ ∧ r = none) := by
  refine Ct.of (by decide) (Nat.le_of_ble_eq_true rfl) [(0, .ref c), (1, .int (nI n901)), (2, .int (nI n902)), (3, .long x903), (5, .long x904)] rfl (fun X hX F hQ => ?_)
  have hPP := hP
  unfold OKP at hPP
  have h1 : HS V c ⟨T, Z, u, h, P, L⟩ [0, 1, 2, 3, 4, 5, 6, 7, 8, 9, 10, 11, 12, 13, 14, 15, 16, 18, 19, 20, 21, 22, 23] σ σ := HS.start h0
  refine m_sipush F (v := 160) (by decide) e_X10_adds_0 ?_
  refine m_iload_n F rfl e_X10_adds_3 ?_
  refine m_imul F e_X10_adds_4 ?_
  refine Wm.topE (w := nI (160 * n901)) (pk_mul 160 n901) ?_
  refine m_istore F (lv' := [(7, .int (nI (160 * n901))), (0, .ref c), (1, .int (nI n901)), (2, .int (nI n902)), (3, .long x903), (5, .long x904)]) e_X10_adds_5 (by decide) rfl ?_
  refine m_iconst F (v := 0) (by decide) e_X10_adds_7 ?_
  refine m_istore F (lv' := [(8, .int 0), (7, .int (nI (160 * n901))), (0, .ref c), (1, .int (nI n901)), (2, .int (nI n902)), (3, .long x903), (5, .long x904)]) e_X10_adds_8 (by decide) rfl ?_
  exact lq_X10_adds_10 F hQ hok hP hn901 hn902 hp0 (n902 - 0 + 1) 0 L _ h1 hok (by omega) (Nat.lt_succ_self _)
