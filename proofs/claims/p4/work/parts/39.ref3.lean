set_option maxRecDepth 20000 in
theorem lq_X10_periodGoes_2 {V : VX} {X : MX} {N : Nat} {σ : Mem} {c T Z u h : Nat} {P : NP} {L : Nat → LQ}   (F : Fx V X yX10_periodGoes cX10_periodGoes 3 none (rmd 3 0 0)) (hQ : Rt V X 0 0 N (fun r τ => ∃ L9, OKL P.n0 L9 ∧ (L9 4).1 = (L 4).1 + 1 ∧ HS V c (⟨T, Z, u, h, P, L9⟩ : RG) [0, 1, 2, 3, 4, 5, 6, 7, 8, 9, 10, 11, 12, 13, 14, 15, 16, 18, 19, 20, 21, 22] σ τ ∧ r = none)) (hok : OKL P.n0 L) (hP : OKP P) (hp0 : (L 4).1 ≤ 98)  : ∀ (fuel : Nat) (i : Nat) (L1 : Nat → LQ) (τ : Mem), HS V c (⟨T, Z, u, h, P, L1⟩ : RG) [0, 1, 2, 3, 4, 5, 6, 7, 8, 9, 10, 11, 12, 13, 14, 15, 16, 18, 19, 20, 21, 22] σ τ → OKL P.n0 L1 → i ≤ 4 ∧ (L1 4).1 = (L 4).1 → 4 - i < fuel → Wm V X 3 N τ 0 0 2 [(1, .int (nI i)), (0, .ref c)] [] := by
  intro fuel
  induction fuel with
  | zero => intros; rename_i hm; exact absurd hm (Nat.not_lt_zero _)
  | succ fuel ih =>
    intro i L1 τ h1 hok1 hi hm
    have hPP := hP
    unfold OKP at hPP
    refine m_iload_n F rfl e_X10_periodGoes_2 ?_
    refine m_aload_n F rfl e_X10_periodGoes_3 ?_
    refine r_callV F e_X10_periodGoes_4 (q_X10_leases (x_l X) V c T Z u h P L1 _ _  h1.1 (hok1.b) hP ) cb_X10_leases ml_X10_221 im_X10_leases se_X10_leases h1 rfl rfl (rest := [.int (nI i)]) rfl (Nat.le_of_ble_eq_true rfl) ⟨Nat.le_of_ble_eq_true rfl, Nat.le_of_ble_eq_true rfl⟩ ⟨Nat.le_of_ble_eq_true rfl, Nat.le_of_ble_eq_true rfl⟩ (fun r σ5348 hp => ?_)
    obtain ⟨h5349, rfl⟩ := hp
    have h5350 := HS.trans h1 h5349 (by decide)
    refine m_icmp_ge F e_X10_periodGoes_7 (fun q7 => ?_) (fun q7 => ?_)
    · have c7 : i ≥ P.n0 := (nI_leI (a := P.n0) (b := i) (by omega) (by omega)).mp q7
      refine m_aload_n F rfl e_X10_periodGoes_122 ?_
      refine r_get F e_X10_periodGoes_123 fl_X10_59 h5350 rfl (fun v hv f5351 => ?_)
      obtain rfl : v = .ref (c + 16) := hv
      refine m_sipush F (v := 744) (by decide) e_X10_periodGoes_126 ?_
      refine m_dup2_11 F rfl rfl e_X10_periodGoes_129 ?_
      refine r_sld F (j := 744) e_X10_periodGoes_130 h5350 (by decide) (by unfold vp_in; decide) (fun x5352 h5353 f5354 => ?_)
      have hl5355 := hok1.1
      obtain rfl : x5352 = lN (L1 4).1 := EJ_p.mp h5353
      refine m_lconst F (v := 1) (by decide) e_X10_periodGoes_131 ?_
      refine m_ladd F e_X10_periodGoes_132 ?_
      refine Wm.toplE (w := lN ((L1 4).1 + 1)) (lN_add ((L1 4).1) 1) ?_
      refine r_sst F (g' := (⟨T, Z, u, h, P, (updL L1 4 ((L1 4).1 + 1, 0, 0, 0))⟩ : RG)) (j := 744) e_X10_periodGoes_133 h5350 (by decide) (by decide) (by unfold vp_in; decide) (fun f q => EJ_pup q) CR.row (fun σ5356 h5357 g5358 => ?_)
      obtain ⟨L5359, eL5359⟩ : ∃ L9, L9 = (updL L1 4 ((L1 4).1 + 1, 0, 0, 0)) := ⟨_, rfl⟩
      rw [← eL5359] at h5357
      have fL53590 : (L5359 4).1 = (L1 4).1 + 1 := by rw [eL5359]; exact congrArg (fun q : LQ => q.1) (if_pos rfl)
      have oL5359 : ∀ i, i ≠ 4 → L5359 i = L1 i := fun i hi => by rw [eL5359]; exact if_neg hi
      have ok5360 : OKL P.n0 L5359 := OKL.updP hok1 (fun i hi => (oL5359 i hi)) (by have h9 := hok1.1; omega)
      exact m_vret F hQ e_X10_periodGoes_134 (⟨L5359, ok5360, (by first | omega | rfl | assumption), h5357, rfl⟩)
    · have c7 : i < P.n0 := by have hh := mt (nI_leI (a := P.n0) (b := i) (by omega) (by omega)).mpr q7; omega
      refine m_sipush F (v := 160) (by decide) e_X10_periodGoes_10 ?_
      refine m_iload_n F rfl e_X10_periodGoes_13 ?_
      refine m_imul F e_X10_periodGoes_14 ?_
      refine Wm.topE (w := nI (160 * i)) (pk_mul 160 i) ?_
      refine m_istore_n F (lv' := [(2, .int (nI (160 * i))), (1, .int (nI i)), (0, .ref c)]) e_X10_periodGoes_15 (by decide) rfl ?_
      refine m_aload_n F rfl e_X10_periodGoes_16 ?_
      refine r_get F e_X10_periodGoes_17 fl_X10_59 h5350 rfl (fun v hv f5361 => ?_)
      obtain rfl : v = .ref (c + 16) := hv
      refine m_iload_n F rfl e_X10_periodGoes_20 ?_
      refine m_iconst F (v := 0) (by decide) e_X10_periodGoes_21 ?_
      refine m_iadd F e_X10_periodGoes_22 ?_
      refine Wm.topE (w := nI (160 * i)) (nI_add (160 * i) 0) ?_
      refine r_sld F (j := 160 * i) e_X10_periodGoes_23 h5350 (nI_clamp (by omega)) (vp_in_nI (by omega) (by decide)) (fun x5362 h5363 f5364 => ?_)
      have hl5365 := hok1.2 i (by omega)
      obtain rfl : x5362 = lN (L1 i).1 := (EJ_l (l := i) (r := 0) (by omega) (by decide)).mp h5363
      refine m_lconst F (v := 0) (by decide) e_X10_periodGoes_24 ?_
      refine m_lcmp F e_X10_periodGoes_25 ?_
      refine m_if_ne F e_X10_periodGoes_26 (fun q26 => ?_) (fun q26 => ?_)
      · have c26 : ((L1 i).1) ≠ 0 := by have hh := mt (fun h9 => (lg_cmp_eq (lN ((L1 i).1)) (lN 0)).mpr ((lN_eq (a := ((L1 i).1)) (b := 0) (by omega) (by omega)).mpr h9)) q26; omega
        refine m_aload_n F rfl e_X10_periodGoes_56 ?_
        refine m_iload_n F rfl e_X10_periodGoes_57 ?_
        refine r_callV F e_X10_periodGoes_58 (q_X10_isOn (x_l X) V c T Z u h P L1 _ _ i h5350.1 (hok1.b) hP (by omega)) cb_X10_isOn ml_X10_267 im_X10_isOn se_X10_isOn h5350 rfl rfl (rest := []) rfl (Nat.le_of_ble_eq_true rfl) ⟨Nat.le_of_ble_eq_true rfl, Nat.le_of_ble_eq_true rfl⟩ ⟨Nat.le_of_ble_eq_true rfl, Nat.le_of_ble_eq_true rfl⟩ (fun r σ5366 hp => ?_)
        obtain ⟨h5367, c5369⟩ := hp
        have h5368 := HS.trans h5350 h5367 (by decide)
        rcases c5369 with ⟨g5370, rfl⟩ | ⟨g5370, rfl⟩
        · refine m_if_eq F e_X10_periodGoes_61 (fun _ => ?_) (fun q => absurd (by decide) q)
          refine m_aload_n F rfl e_X10_periodGoes_103 ?_
          refine m_iload_n F rfl e_X10_periodGoes_104 ?_
          refine r_callV F e_X10_periodGoes_105 (q_X10_isOn (x_l X) V c T Z u h P L1 _ _ i h5368.1 (hok1.b) hP (by omega)) cb_X10_isOn ml_X10_267 im_X10_isOn se_X10_isOn h5368 rfl rfl (rest := []) rfl (Nat.le_of_ble_eq_true rfl) ⟨Nat.le_of_ble_eq_true rfl, Nat.le_of_ble_eq_true rfl⟩ ⟨Nat.le_of_ble_eq_true rfl, Nat.le_of_ble_eq_true rfl⟩ (fun r σ5371 hp => ?_)
          obtain ⟨h5372, c5374⟩ := hp
          have h5373 := HS.trans h5368 h5372 (by decide)
          rcases c5374 with ⟨g5375, rfl⟩ | ⟨g5375, rfl⟩
          · refine m_if_eq F e_X10_periodGoes_108 (fun _ => ?_) (fun q => absurd (by decide) q)
            refine m_iinc F (v := nI (i + 1)) (lv' := [(1, .int (nI (i + 1))), (2, .int (nI (160 * i))), (0, .ref c)]) e_X10_periodGoes_116 rfl (nI_add i 1) (by decide) rfl ?_
            refine m_goto F e_X10_periodGoes_119 ?_
            refine Wm.lvsub (lv' := [(1, .int (nI (i + 1))), (0, .ref c)]) ?_ [0, 2] rfl
            exact ih (i + 1) L1 _ h5373 hok1 (by omega) (by omega)
          · refine m_if_eq F e_X10_periodGoes_108 (fun q => absurd q (by decide)) (fun _ => ?_)
            refine m_aload_n F rfl e_X10_periodGoes_111 ?_
            refine m_iload_n F rfl e_X10_periodGoes_112 ?_
            refine r_callV F e_X10_periodGoes_113 (q_X10_pays (x_l X) V c T Z u h P L1 _ _ i h5373.1 (hok1) hP (by omega) (by first | omega | assumption | decide)) cb_X10_pays ml_X10_281 im_X10_pays se_X10_pays h5373 rfl rfl (rest := []) rfl (Nat.le_of_ble_eq_true rfl) ⟨Nat.le_of_ble_eq_true rfl, Nat.le_of_ble_eq_true rfl⟩ ⟨Nat.le_of_ble_eq_true rfl, Nat.le_of_ble_eq_true rfl⟩ (fun r σ5376 hp => ?_)
            obtain ⟨L5379, okL5379, r5380, h5377, rfl⟩ := hp
            have h5378 := HS.trans h5373 h5377 (by decide)
            refine m_iinc F (v := nI (i + 1)) (lv' := [(1, .int (nI (i + 1))), (2, .int (nI (160 * i))), (0, .ref c)]) e_X10_periodGoes_116 rfl (nI_add i 1) (by decide) rfl ?_
            refine m_goto F e_X10_periodGoes_119 ?_
            refine Wm.lvsub (lv' := [(1, .int (nI (i + 1))), (0, .ref c)]) ?_ [0, 2] rfl
            exact ih (i + 1) L5379 _ h5378 okL5379 (by omega) (by omega)
        · refine m_if_eq F e_X10_periodGoes_61 (fun q => absurd q (by decide)) (fun _ => ?_)
          refine m_aload_n F rfl e_X10_periodGoes_64 ?_
          refine m_iload_n F rfl e_X10_periodGoes_65 ?_
          refine r_callV F e_X10_periodGoes_66 (q_X10_isTied (x_l X) V c T Z u h P L1 _ _ i h5368.1 (hok1.b) hP (by omega)) cb_X10_isTied ml_X10_270 im_X10_isTied se_X10_isTied h5368 rfl rfl (rest := []) rfl (Nat.le_of_ble_eq_true rfl) ⟨Nat.le_of_ble_eq_true rfl, Nat.le_of_ble_eq_true rfl⟩ ⟨Nat.le_of_ble_eq_true rfl, Nat.le_of_ble_eq_true rfl⟩ (fun r σ5381 hp => ?_)
          obtain ⟨h5382, n5384, hn5384, rfl⟩ := hp
          have h5383 := HS.trans h5368 h5382 (by decide)
          refine m_if_eq F e_X10_periodGoes_69 (fun q69 => ?_) (fun q69 => ?_)
          · have c69 : n5384 = 0 := (nI_eq (a := n5384) (b := 0) (by omega) (by omega)).mp q69
            refine m_aload_n F rfl e_X10_periodGoes_103 ?_
            refine m_iload_n F rfl e_X10_periodGoes_104 ?_
            refine r_callV F e_X10_periodGoes_105 (q_X10_isOn (x_l X) V c T Z u h P L1 _ _ i h5383.1 (hok1.b) hP (by omega)) cb_X10_isOn ml_X10_267 im_X10_isOn se_X10_isOn h5383 rfl rfl (rest := []) rfl (Nat.le_of_ble_eq_true rfl) ⟨Nat.le_of_ble_eq_true rfl, Nat.le_of_ble_eq_true rfl⟩ ⟨Nat.le_of_ble_eq_true rfl, Nat.le_of_ble_eq_true rfl⟩ (fun r σ5385 hp => ?_)
            obtain ⟨h5386, c5388⟩ := hp
            have h5387 := HS.trans h5383 h5386 (by decide)
            rcases c5388 with ⟨g5389, rfl⟩ | ⟨g5389, rfl⟩
            · refine m_if_eq F e_X10_periodGoes_108 (fun _ => ?_) (fun q => absurd (by decide) q)
              refine m_iinc F (v := nI (i + 1)) (lv' := [(1, .int (nI (i + 1))), (2, .int (nI (160 * i))), (0, .ref c)]) e_X10_periodGoes_116 rfl (nI_add i 1) (by decide) rfl ?_
              refine m_goto F e_X10_periodGoes_119 ?_
              refine Wm.lvsub (lv' := [(1, .int (nI (i + 1))), (0, .ref c)]) ?_ [0, 2] rfl
              exact ih (i + 1) L1 _ h5387 hok1 (by omega) (by omega)
            · refine m_if_eq F e_X10_periodGoes_108 (fun q => absurd q (by decide)) (fun _ => ?_)
              refine m_aload_n F rfl e_X10_periodGoes_111 ?_
              refine m_iload_n F rfl e_X10_periodGoes_112 ?_
              refine r_callV F e_X10_periodGoes_113 (q_X10_pays (x_l X) V c T Z u h P L1 _ _ i h5387.1 (hok1) hP (by omega) (by first | omega | assumption | decide)) cb_X10_pays ml_X10_281 im_X10_pays se_X10_pays h5387 rfl rfl (rest := []) rfl (Nat.le_of_ble_eq_true rfl) ⟨Nat.le_of_ble_eq_true rfl, Nat.le_of_ble_eq_true rfl⟩ ⟨Nat.le_of_ble_eq_true rfl, Nat.le_of_ble_eq_true rfl⟩ (fun r σ5390 hp => ?_)
              obtain ⟨L5393, okL5393, r5394, h5391, rfl⟩ := hp
              have h5392 := HS.trans h5387 h5391 (by decide)
              refine m_iinc F (v := nI (i + 1)) (lv' := [(1, .int (nI (i + 1))), (2, .int (nI (160 * i))), (0, .ref c)]) e_X10_periodGoes_116 rfl (nI_add i 1) (by decide) rfl ?_
              refine m_goto F e_X10_periodGoes_119 ?_
              refine Wm.lvsub (lv' := [(1, .int (nI (i + 1))), (0, .ref c)]) ?_ [0, 2] rfl
              exact ih (i + 1) L5393 _ h5392 okL5393 (by omega) (by omega)
          · have c69 : n5384 ≠ 0 := by have hh := mt (nI_eq (a := n5384) (b := 0) (by omega) (by omega)).mpr q69; omega
            refine m_aload_n F rfl e_X10_periodGoes_72 ?_
            refine r_callV F e_X10_periodGoes_73 (q_X10_indexNow (x_l X) V c T Z u h P L1 _ _  h5383.1 (hok1.b) hP ) cb_X10_indexNow ml_X10_260 im_X10_indexNow se_X10_indexNow h5383 rfl rfl (rest := []) rfl (Nat.le_of_ble_eq_true rfl) ⟨Nat.le_of_ble_eq_true rfl, Nat.le_of_ble_eq_true rfl⟩ ⟨Nat.le_of_ble_eq_true rfl, Nat.le_of_ble_eq_true rfl⟩ (fun r σ5395 hp => ?_)
            obtain ⟨h5396, n5398, hn5398, gn5398, rfl⟩ := hp
            have h5397 := HS.trans h5383 h5396 (by decide)
            refine m_aload_n F rfl e_X10_periodGoes_76 ?_
            refine r_getC F e_X10_periodGoes_77 fl_X10_59 h5397 ((fld_eq (h5396.2 c (by rw [show kC c c = 1 from kC_at (k := 0) (by decide)]; decide))).trans ((fld_eq (h5382.2 c (by rw [show kC c c = 1 from kC_at (k := 0) (by decide)]; decide))).trans ((fld_eq (h5367.2 c (by rw [show kC c c = 1 from kC_at (k := 0) (by decide)]; decide))).trans f5361))) ?_
            refine m_iload_n F rfl e_X10_periodGoes_80 ?_
            refine m_iconst F (v := 4) (by decide) e_X10_periodGoes_81 ?_
            refine m_iadd F e_X10_periodGoes_82 ?_
            refine Wm.topE (w := nI (160 * i + 4)) (nI_add (160 * i) 4) ?_
            refine r_sld F (j := 160 * i + 4) e_X10_periodGoes_83 h5397 (nI_clamp (by omega)) (vp_in_nI (by omega) (by decide)) (fun x5399 h5400 f5401 => ?_)
            refine m_lcmp F e_X10_periodGoes_84 ?_
            refine Wm.top (fun x5402 _ => ?_)
            refine m_if_eq F e_X10_periodGoes_85 (fun q85 => ?_) (fun q85 => ?_)
            · subst q85
              refine m_aload_n F rfl e_X10_periodGoes_103 ?_
              refine m_iload_n F rfl e_X10_periodGoes_104 ?_
              refine r_callV F e_X10_periodGoes_105 (q_X10_isOn (x_l X) V c T Z u h P L1 _ _ i h5397.1 (hok1.b) hP (by omega)) cb_X10_isOn ml_X10_267 im_X10_isOn se_X10_isOn h5397 rfl rfl (rest := []) rfl (Nat.le_of_ble_eq_true rfl) ⟨Nat.le_of_ble_eq_true rfl, Nat.le_of_ble_eq_true rfl⟩ ⟨Nat.le_of_ble_eq_true rfl, Nat.le_of_ble_eq_true rfl⟩ (fun r σ5403 hp => ?_)
              obtain ⟨h5404, c5406⟩ := hp
              have h5405 := HS.trans h5397 h5404 (by decide)
              rcases c5406 with ⟨g5407, rfl⟩ | ⟨g5407, rfl⟩
              · refine m_if_eq F e_X10_periodGoes_108 (fun _ => ?_) (fun q => absurd (by decide) q)
                refine m_iinc F (v := nI (i + 1)) (lv' := [(1, .int (nI (i + 1))), (2, .int (nI (160 * i))), (0, .ref c)]) e_X10_periodGoes_116 rfl (nI_add i 1) (by decide) rfl ?_
                refine m_goto F e_X10_periodGoes_119 ?_
                refine Wm.lvsub (lv' := [(1, .int (nI (i + 1))), (0, .ref c)]) ?_ [0, 2] rfl
                exact ih (i + 1) L1 _ h5405 hok1 (by omega) (by omega)
              · refine m_if_eq F e_X10_periodGoes_108 (fun q => absurd q (by decide)) (fun _ => ?_)
                refine m_aload_n F rfl e_X10_periodGoes_111 ?_
                refine m_iload_n F rfl e_X10_periodGoes_112 ?_
                refine r_callV F e_X10_periodGoes_113 (q_X10_pays (x_l X) V c T Z u h P L1 _ _ i h5405.1 (hok1) hP (by omega) (by first | omega | assumption | decide)) cb_X10_pays ml_X10_281 im_X10_pays se_X10_pays h5405 rfl rfl (rest := []) rfl (Nat.le_of_ble_eq_true rfl) ⟨Nat.le_of_ble_eq_true rfl, Nat.le_of_ble_eq_true rfl⟩ ⟨Nat.le_of_ble_eq_true rfl, Nat.le_of_ble_eq_true rfl⟩ (fun r σ5408 hp => ?_)
                obtain ⟨L5411, okL5411, r5412, h5409, rfl⟩ := hp
                have h5410 := HS.trans h5405 h5409 (by decide)
                refine m_iinc F (v := nI (i + 1)) (lv' := [(1, .int (nI (i + 1))), (2, .int (nI (160 * i))), (0, .ref c)]) e_X10_periodGoes_116 rfl (nI_add i 1) (by decide) rfl ?_
                refine m_goto F e_X10_periodGoes_119 ?_
                refine Wm.lvsub (lv' := [(1, .int (nI (i + 1))), (0, .ref c)]) ?_ [0, 2] rfl
                exact ih (i + 1) L5411 _ h5410 okL5411 (by omega) (by omega)
            · refine m_aload_n F rfl e_X10_periodGoes_88 ?_
              refine m_iload_n F rfl e_X10_periodGoes_89 ?_
              refine m_aload_n F rfl e_X10_periodGoes_90 ?_
              refine r_callV F e_X10_periodGoes_91 (q_X10_indexNow (x_l X) V c T Z u h P L1 _ _  h5397.1 (hok1.b) hP ) cb_X10_indexNow ml_X10_260 im_X10_indexNow se_X10_indexNow h5397 rfl rfl (rest := [.int (nI i), .ref c]) rfl (Nat.le_of_ble_eq_true rfl) ⟨Nat.le_of_ble_eq_true rfl, Nat.le_of_ble_eq_true rfl⟩ ⟨Nat.le_of_ble_eq_true rfl, Nat.le_of_ble_eq_true rfl⟩ (fun r σ5413 hp => ?_)
              obtain ⟨h5414, n5416, hn5416, gn5416, rfl⟩ := hp
              have h5415 := HS.trans h5397 h5414 (by decide)
              refine r_callV F e_X10_periodGoes_94 (q_X10_indexes (x_l X) V c T Z u h P L1 _ _ i n5416 h5415.1 (hok1.b) hP (by omega) (by omega) (by first | omega | assumption | decide)) cb_X10_indexes ml_X10_273 im_X10_indexes se_X10_indexes h5415 rfl rfl (rest := []) rfl (Nat.le_of_ble_eq_true rfl) ⟨Nat.le_of_ble_eq_true rfl, Nat.le_of_ble_eq_true rfl⟩ ⟨Nat.le_of_ble_eq_true rfl, Nat.le_of_ble_eq_true rfl⟩ (fun r σ5417 hp => ?_)
              obtain ⟨h5418, rfl⟩ := hp
              have h5419 := HS.trans h5415 h5418 (by decide)
              refine m_aload_n F rfl e_X10_periodGoes_97 ?_
              refine m_iload_n F rfl e_X10_periodGoes_98 ?_
              refine r_callV F e_X10_periodGoes_99 (q_X10_remeasures (x_l X) V c T Z u h P L1 _ _ i h5419.1 (hok1.b) hP (by omega)) cb_X10_remeasures ml_X10_277 im_X10_remeasures se_X10_remeasures h5419 rfl rfl (rest := []) rfl (Nat.le_of_ble_eq_true rfl) ⟨Nat.le_of_ble_eq_true rfl, Nat.le_of_ble_eq_true rfl⟩ ⟨Nat.le_of_ble_eq_true rfl, Nat.le_of_ble_eq_true rfl⟩ (fun r σ5420 hp => ?_)
              obtain ⟨h5421, x5423, rfl⟩ := hp
              have h5422 := HS.trans h5419 h5421 (by decide)
              refine m_pop2_2 F rfl e_X10_periodGoes_102 ?_
              refine m_aload_n F rfl e_X10_periodGoes_103 ?_
              refine m_iload_n F rfl e_X10_periodGoes_104 ?_
              refine r_callV F e_X10_periodGoes_105 (q_X10_isOn (x_l X) V c T Z u h P L1 _ _ i h5422.1 (hok1.b) hP (by omega)) cb_X10_isOn ml_X10_267 im_X10_isOn se_X10_isOn h5422 rfl rfl (rest := []) rfl (Nat.le_of_ble_eq_true rfl) ⟨Nat.le_of_ble_eq_true rfl, Nat.le_of_ble_eq_true rfl⟩ ⟨Nat.le_of_ble_eq_true rfl, Nat.le_of_ble_eq_true rfl⟩ (fun r σ5424 hp => ?_)
              obtain ⟨h5425, c5427⟩ := hp
              have h5426 := HS.trans h5422 h5425 (by decide)
              rcases c5427 with ⟨g5428, rfl⟩ | ⟨g5428, rfl⟩
              · refine m_if_eq F e_X10_periodGoes_108 (fun _ => ?_) (fun q => absurd (by decide) q)
                refine m_iinc F (v := nI (i + 1)) (lv' := [(1, .int (nI (i + 1))), (2, .int (nI (160 * i))), (0, .ref c)]) e_X10_periodGoes_116 rfl (nI_add i 1) (by decide) rfl ?_
                refine m_goto F e_X10_periodGoes_119 ?_
                refine Wm.lvsub (lv' := [(1, .int (nI (i + 1))), (0, .ref c)]) ?_ [0, 2] rfl
                exact ih (i + 1) L1 _ h5426 hok1 (by omega) (by omega)
              · refine m_if_eq F e_X10_periodGoes_108 (fun q => absurd q (by decide)) (fun _ => ?_)
                refine m_aload_n F rfl e_X10_periodGoes_111 ?_
                refine m_iload_n F rfl e_X10_periodGoes_112 ?_
                refine r_callV F e_X10_periodGoes_113 (q_X10_pays (x_l X) V c T Z u h P L1 _ _ i h5426.1 (hok1) hP (by omega) (by first | omega | assumption | decide)) cb_X10_pays ml_X10_281 im_X10_pays se_X10_pays h5426 rfl rfl (rest := []) rfl (Nat.le_of_ble_eq_true rfl) ⟨Nat.le_of_ble_eq_true rfl, Nat.le_of_ble_eq_true rfl⟩ ⟨Nat.le_of_ble_eq_true rfl, Nat.le_of_ble_eq_true rfl⟩ (fun r σ5429 hp => ?_)
                obtain ⟨L5432, okL5432, r5433, h5430, rfl⟩ := hp
                have h5431 := HS.trans h5426 h5430 (by decide)
                refine m_iinc F (v := nI (i + 1)) (lv' := [(1, .int (nI (i + 1))), (2, .int (nI (160 * i))), (0, .ref c)]) e_X10_periodGoes_116 rfl (nI_add i 1) (by decide) rfl ?_
                refine m_goto F e_X10_periodGoes_119 ?_
                refine Wm.lvsub (lv' := [(1, .int (nI (i + 1))), (0, .ref c)]) ?_ [0, 2] rfl
                exact ih (i + 1) L5432 _ h5431 okL5432 (by omega) (by omega)
      · have c26 : ((L1 i).1) = 0 := (lN_eq (a := ((L1 i).1)) (b := 0) (by omega) (by omega)).mp ((lg_cmp_eq _ _).mp q26)
        refine m_aload_n F rfl e_X10_periodGoes_29 ?_
        refine r_get F e_X10_periodGoes_30 fl_X10_19 h5350 rfl (fun v hv f5434 => ?_)
        obtain rfl : v = .ref (c + 4) := hv
        refine m_iload_n F rfl e_X10_periodGoes_33 ?_
        refine r_iald F (len := 8) (j := i) e_X10_periodGoes_34 h5350 (fun _ h => h) (by decide) (nI_clamp (by omega)) (vp_in_nI (by omega) (by decide)) (fun x5435 h5436 f5437 => ?_)
        refine m_i2l F e_X10_periodGoes_35 ?_
        refine Wm.topl (fun x5438 _ => ?_)
        refine m_aload_n F rfl e_X10_periodGoes_36 ?_
        refine r_getC F e_X10_periodGoes_37 fl_X10_59 h5350 (f5361) ?_
        refine m_sipush F (v := 744) (by decide) e_X10_periodGoes_40 ?_
        refine r_sld F (j := 744) e_X10_periodGoes_43 h5350 (by decide) (by unfold vp_in; decide) (fun x5439 h5440 f5441 => ?_)
        have hl5442 := hok1.1
        obtain rfl : x5439 = lN (L1 4).1 := EJ_p.mp h5440
        refine m_lcmp F e_X10_periodGoes_44 ?_
        refine Wm.top (fun x5443 _ => ?_)
        refine m_if_ne F e_X10_periodGoes_45 (fun q45 => ?_) (fun q45 => ?_)
        · refine m_aload_n F rfl e_X10_periodGoes_56 ?_
          refine m_iload_n F rfl e_X10_periodGoes_57 ?_
          refine r_callV F e_X10_periodGoes_58 (q_X10_isOn (x_l X) V c T Z u h P L1 _ _ i h5350.1 (hok1.b) hP (by omega)) cb_X10_isOn ml_X10_267 im_X10_isOn se_X10_isOn h5350 rfl rfl (rest := []) rfl (Nat.le_of_ble_eq_true rfl) ⟨Nat.le_of_ble_eq_true rfl, Nat.le_of_ble_eq_true rfl⟩ ⟨Nat.le_of_ble_eq_true rfl, Nat.le_of_ble_eq_true rfl⟩ (fun r σ5444 hp => ?_)
          obtain ⟨h5445, c5447⟩ := hp
          have h5446 := HS.trans h5350 h5445 (by decide)
          rcases c5447 with ⟨g5448, rfl⟩ | ⟨g5448, rfl⟩
          · refine m_if_eq F e_X10_periodGoes_61 (fun _ => ?_) (fun q => absurd (by decide) q)
            refine m_aload_n F rfl e_X10_periodGoes_103 ?_
            refine m_iload_n F rfl e_X10_periodGoes_104 ?_
            refine r_callV F e_X10_periodGoes_105 (q_X10_isOn (x_l X) V c T Z u h P L1 _ _ i h5446.1 (hok1.b) hP (by omega)) cb_X10_isOn ml_X10_267 im_X10_isOn se_X10_isOn h5446 rfl rfl (rest := []) rfl (Nat.le_of_ble_eq_true rfl) ⟨Nat.le_of_ble_eq_true rfl, Nat.le_of_ble_eq_true rfl⟩ ⟨Nat.le_of_ble_eq_true rfl, Nat.le_of_ble_eq_true rfl⟩ (fun r σ5449 hp => ?_)
            obtain ⟨h5450, c5452⟩ := hp
            have h5451 := HS.trans h5446 h5450 (by decide)
            rcases c5452 with ⟨g5453, rfl⟩ | ⟨g5453, rfl⟩
            · refine m_if_eq F e_X10_periodGoes_108 (fun _ => ?_) (fun q => absurd (by decide) q)
              refine m_iinc F (v := nI (i + 1)) (lv' := [(1, .int (nI (i + 1))), (2, .int (nI (160 * i))), (0, .ref c)]) e_X10_periodGoes_116 rfl (nI_add i 1) (by decide) rfl ?_
              refine m_goto F e_X10_periodGoes_119 ?_
              refine Wm.lvsub (lv' := [(1, .int (nI (i + 1))), (0, .ref c)]) ?_ [0, 2] rfl
              exact ih (i + 1) L1 _ h5451 hok1 (by omega) (by omega)
            · refine m_if_eq F e_X10_periodGoes_108 (fun q => absurd q (by decide)) (fun _ => ?_)
              refine m_aload_n F rfl e_X10_periodGoes_111 ?_
              refine m_iload_n F rfl e_X10_periodGoes_112 ?_
              refine r_callV F e_X10_periodGoes_113 (q_X10_pays (x_l X) V c T Z u h P L1 _ _ i h5451.1 (hok1) hP (by omega) (by first | omega | assumption | decide)) cb_X10_pays ml_X10_281 im_X10_pays se_X10_pays h5451 rfl rfl (rest := []) rfl (Nat.le_of_ble_eq_true rfl) ⟨Nat.le_of_ble_eq_true rfl, Nat.le_of_ble_eq_true rfl⟩ ⟨Nat.le_of_ble_eq_true rfl, Nat.le_of_ble_eq_true rfl⟩ (fun r σ5454 hp => ?_)
              obtain ⟨L5457, okL5457, r5458, h5455, rfl⟩ := hp
              have h5456 := HS.trans h5451 h5455 (by decide)
              refine m_iinc F (v := nI (i + 1)) (lv' := [(1, .int (nI (i + 1))), (2, .int (nI (160 * i))), (0, .ref c)]) e_X10_periodGoes_116 rfl (nI_add i 1) (by decide) rfl ?_
              refine m_goto F e_X10_periodGoes_119 ?_
              refine Wm.lvsub (lv' := [(1, .int (nI (i + 1))), (0, .ref c)]) ?_ [0, 2] rfl
              exact ih (i + 1) L5457 _ h5456 okL5457 (by omega) (by omega)
          · refine m_if_eq F e_X10_periodGoes_61 (fun q => absurd q (by decide)) (fun _ => ?_)
            refine m_aload_n F rfl e_X10_periodGoes_64 ?_
            refine m_iload_n F rfl e_X10_periodGoes_65 ?_
            refine r_callV F e_X10_periodGoes_66 (q_X10_isTied (x_l X) V c T Z u h P L1 _ _ i h5446.1 (hok1.b) hP (by omega)) cb_X10_isTied ml_X10_270 im_X10_isTied se_X10_isTied h5446 rfl rfl (rest := []) rfl (Nat.le_of_ble_eq_true rfl) ⟨Nat.le_of_ble_eq_true rfl, Nat.le_of_ble_eq_true rfl⟩ ⟨Nat.le_of_ble_eq_true rfl, Nat.le_of_ble_eq_true rfl⟩ (fun r σ5459 hp => ?_)
            obtain ⟨h5460, n5462, hn5462, rfl⟩ := hp
            have h5461 := HS.trans h5446 h5460 (by decide)
            refine m_if_eq F e_X10_periodGoes_69 (fun q69 => ?_) (fun q69 => ?_)
            · have c69 : n5462 = 0 := (nI_eq (a := n5462) (b := 0) (by omega) (by omega)).mp q69
              refine m_aload_n F rfl e_X10_periodGoes_103 ?_
              refine m_iload_n F rfl e_X10_periodGoes_104 ?_
              refine r_callV F e_X10_periodGoes_105 (q_X10_isOn (x_l X) V c T Z u h P L1 _ _ i h5461.1 (hok1.b) hP (by omega)) cb_X10_isOn ml_X10_267 im_X10_isOn se_X10_isOn h5461 rfl rfl (rest := []) rfl (Nat.le_of_ble_eq_true rfl) ⟨Nat.le_of_ble_eq_true rfl, Nat.le_of_ble_eq_true rfl⟩ ⟨Nat.le_of_ble_eq_true rfl, Nat.le_of_ble_eq_true rfl⟩ (fun r σ5463 hp => ?_)
              obtain ⟨h5464, c5466⟩ := hp
              have h5465 := HS.trans h5461 h5464 (by decide)
              rcases c5466 with ⟨g5467, rfl⟩ | ⟨g5467, rfl⟩
              · refine m_if_eq F e_X10_periodGoes_108 (fun _ => ?_) (fun q => absurd (by decide) q)
                refine m_iinc F (v := nI (i + 1)) (lv' := [(1, .int (nI (i + 1))), (2, .int (nI (160 * i))), (0, .ref c)]) e_X10_periodGoes_116 rfl (nI_add i 1) (by decide) rfl ?_
                refine m_goto F e_X10_periodGoes_119 ?_
                refine Wm.lvsub (lv' := [(1, .int (nI (i + 1))), (0, .ref c)]) ?_ [0, 2] rfl
                exact ih (i + 1) L1 _ h5465 hok1 (by omega) (by omega)
              · refine m_if_eq F e_X10_periodGoes_108 (fun q => absurd q (by decide)) (fun _ => ?_)
                refine m_aload_n F rfl e_X10_periodGoes_111 ?_
                refine m_iload_n F rfl e_X10_periodGoes_112 ?_
                refine r_callV F e_X10_periodGoes_113 (q_X10_pays (x_l X) V c T Z u h P L1 _ _ i h5465.1 (hok1) hP (by omega) (by first | omega | assumption | decide)) cb_X10_pays ml_X10_281 im_X10_pays se_X10_pays h5465 rfl rfl (rest := []) rfl (Nat.le_of_ble_eq_true rfl) ⟨Nat.le_of_ble_eq_true rfl, Nat.le_of_ble_eq_true rfl⟩ ⟨Nat.le_of_ble_eq_true rfl, Nat.le_of_ble_eq_true rfl⟩ (fun r σ5468 hp => ?_)
                obtain ⟨L5471, okL5471, r5472, h5469, rfl⟩ := hp
                have h5470 := HS.trans h5465 h5469 (by decide)
                refine m_iinc F (v := nI (i + 1)) (lv' := [(1, .int (nI (i + 1))), (2, .int (nI (160 * i))), (0, .ref c)]) e_X10_periodGoes_116 rfl (nI_add i 1) (by decide) rfl ?_
                refine m_goto F e_X10_periodGoes_119 ?_
                refine Wm.lvsub (lv' := [(1, .int (nI (i + 1))), (0, .ref c)]) ?_ [0, 2] rfl
                exact ih (i + 1) L5471 _ h5470 okL5471 (by omega) (by omega)
            · have c69 : n5462 ≠ 0 := by have hh := mt (nI_eq (a := n5462) (b := 0) (by omega) (by omega)).mpr q69; omega
              refine m_aload_n F rfl e_X10_periodGoes_72 ?_
              refine r_callV F e_X10_periodGoes_73 (q_X10_indexNow (x_l X) V c T Z u h P L1 _ _  h5461.1 (hok1.b) hP ) cb_X10_indexNow ml_X10_260 im_X10_indexNow se_X10_indexNow h5461 rfl rfl (rest := []) rfl (Nat.le_of_ble_eq_true rfl) ⟨Nat.le_of_ble_eq_true rfl, Nat.le_of_ble_eq_true rfl⟩ ⟨Nat.le_of_ble_eq_true rfl, Nat.le_of_ble_eq_true rfl⟩ (fun r σ5473 hp => ?_)
              obtain ⟨h5474, n5476, hn5476, gn5476, rfl⟩ := hp
              have h5475 := HS.trans h5461 h5474 (by decide)
              refine m_aload_n F rfl e_X10_periodGoes_76 ?_
              refine r_getC F e_X10_periodGoes_77 fl_X10_59 h5475 ((fld_eq (h5474.2 c (by rw [show kC c c = 1 from kC_at (k := 0) (by decide)]; decide))).trans ((fld_eq (h5460.2 c (by rw [show kC c c = 1 from kC_at (k := 0) (by decide)]; decide))).trans ((fld_eq (h5445.2 c (by rw [show kC c c = 1 from kC_at (k := 0) (by decide)]; decide))).trans f5361))) ?_
              refine m_iload_n F rfl e_X10_periodGoes_80 ?_
              refine m_iconst F (v := 4) (by decide) e_X10_periodGoes_81 ?_
              refine m_iadd F e_X10_periodGoes_82 ?_
              refine Wm.topE (w := nI (160 * i + 4)) (nI_add (160 * i) 4) ?_
              refine r_sld F (j := 160 * i + 4) e_X10_periodGoes_83 h5475 (nI_clamp (by omega)) (vp_in_nI (by omega) (by decide)) (fun x5477 h5478 f5479 => ?_)
              refine m_lcmp F e_X10_periodGoes_84 ?_
              refine Wm.top (fun x5480 _ => ?_)
              refine m_if_eq F e_X10_periodGoes_85 (fun q85 => ?_) (fun q85 => ?_)
              · subst q85
                refine m_aload_n F rfl e_X10_periodGoes_103 ?_
                refine m_iload_n F rfl e_X10_periodGoes_104 ?_
                refine r_callV F e_X10_periodGoes_105 (q_X10_isOn (x_l X) V c T Z u h P L1 _ _ i h5475.1 (hok1.b) hP (by omega)) cb_X10_isOn ml_X10_267 im_X10_isOn se_X10_isOn h5475 rfl rfl (rest := []) rfl (Nat.le_of_ble_eq_true rfl) ⟨Nat.le_of_ble_eq_true rfl, Nat.le_of_ble_eq_true rfl⟩ ⟨Nat.le_of_ble_eq_true rfl, Nat.le_of_ble_eq_true rfl⟩ (fun r σ5481 hp => ?_)
                obtain ⟨h5482, c5484⟩ := hp
                have h5483 := HS.trans h5475 h5482 (by decide)
                rcases c5484 with ⟨g5485, rfl⟩ | ⟨g5485, rfl⟩
                · refine m_if_eq F e_X10_periodGoes_108 (fun _ => ?_) (fun q => absurd (by decide) q)
                  refine m_iinc F (v := nI (i + 1)) (lv' := [(1, .int (nI (i + 1))), (2, .int (nI (160 * i))), (0, .ref c)]) e_X10_periodGoes_116 rfl (nI_add i 1) (by decide) rfl ?_
                  refine m_goto F e_X10_periodGoes_119 ?_
                  refine Wm.lvsub (lv' := [(1, .int (nI (i + 1))), (0, .ref c)]) ?_ [0, 2] rfl
                  exact ih (i + 1) L1 _ h5483 hok1 (by omega) (by omega)
                · refine m_if_eq F e_X10_periodGoes_108 (fun q => absurd q (by decide)) (fun _ => ?_)
                  refine m_aload_n F rfl e_X10_periodGoes_111 ?_
                  refine m_iload_n F rfl e_X10_periodGoes_112 ?_
                  refine r_callV F e_X10_periodGoes_113 (q_X10_pays (x_l X) V c T Z u h P L1 _ _ i h5483.1 (hok1) hP (by omega) (by first | omega | assumption | decide)) cb_X10_pays ml_X10_281 im_X10_pays se_X10_pays h5483 rfl rfl (rest := []) rfl (Nat.le_of_ble_eq_true rfl) ⟨Nat.le_of_ble_eq_true rfl, Nat.le_of_ble_eq_true rfl⟩ ⟨Nat.le_of_ble_eq_true rfl, Nat.le_of_ble_eq_true rfl⟩ (fun r σ5486 hp => ?_)
                  obtain ⟨L5489, okL5489, r5490, h5487, rfl⟩ := hp
                  have h5488 := HS.trans h5483 h5487 (by decide)
                  refine m_iinc F (v := nI (i + 1)) (lv' := [(1, .int (nI (i + 1))), (2, .int (nI (160 * i))), (0, .ref c)]) e_X10_periodGoes_116 rfl (nI_add i 1) (by decide) rfl ?_
                  refine m_goto F e_X10_periodGoes_119 ?_
                  refine Wm.lvsub (lv' := [(1, .int (nI (i + 1))), (0, .ref c)]) ?_ [0, 2] rfl
                  exact ih (i + 1) L5489 _ h5488 okL5489 (by omega) (by omega)
              · refine m_aload_n F rfl e_X10_periodGoes_88 ?_
                refine m_iload_n F rfl e_X10_periodGoes_89 ?_
                refine m_aload_n F rfl e_X10_periodGoes_90 ?_
                refine r_callV F e_X10_periodGoes_91 (q_X10_indexNow (x_l X) V c T Z u h P L1 _ _  h5475.1 (hok1.b) hP ) cb_X10_indexNow ml_X10_260 im_X10_indexNow se_X10_indexNow h5475 rfl rfl (rest := [.int (nI i), .ref c]) rfl (Nat.le_of_ble_eq_true rfl) ⟨Nat.le_of_ble_eq_true rfl, Nat.le_of_ble_eq_true rfl⟩ ⟨Nat.le_of_ble_eq_true rfl, Nat.le_of_ble_eq_true rfl⟩ (fun r σ5491 hp => ?_)
                obtain ⟨h5492, n5494, hn5494, gn5494, rfl⟩ := hp
                have h5493 := HS.trans h5475 h5492 (by decide)
                refine r_callV F e_X10_periodGoes_94 (q_X10_indexes (x_l X) V c T Z u h P L1 _ _ i n5494 h5493.1 (hok1.b) hP (by omega) (by omega) (by first | omega | assumption | decide)) cb_X10_indexes ml_X10_273 im_X10_indexes se_X10_indexes h5493 rfl rfl (rest := []) rfl (Nat.le_of_ble_eq_true rfl) ⟨Nat.le_of_ble_eq_true rfl, Nat.le_of_ble_eq_true rfl⟩ ⟨Nat.le_of_ble_eq_true rfl, Nat.le_of_ble_eq_true rfl⟩ (fun r σ5495 hp => ?_)
                obtain ⟨h5496, rfl⟩ := hp
                have h5497 := HS.trans h5493 h5496 (by decide)
                refine m_aload_n F rfl e_X10_periodGoes_97 ?_
                refine m_iload_n F rfl e_X10_periodGoes_98 ?_
                refine r_callV F e_X10_periodGoes_99 (q_X10_remeasures (x_l X) V c T Z u h P L1 _ _ i h5497.1 (hok1.b) hP (by omega)) cb_X10_remeasures ml_X10_277 im_X10_remeasures se_X10_remeasures h5497 rfl rfl (rest := []) rfl (Nat.le_of_ble_eq_true rfl) ⟨Nat.le_of_ble_eq_true rfl, Nat.le_of_ble_eq_true rfl⟩ ⟨Nat.le_of_ble_eq_true rfl, Nat.le_of_ble_eq_true rfl⟩ (fun r σ5498 hp => ?_)
                obtain ⟨h5499, x5501, rfl⟩ := hp
                have h5500 := HS.trans h5497 h5499 (by decide)
                refine m_pop2_2 F rfl e_X10_periodGoes_102 ?_
                refine m_aload_n F rfl e_X10_periodGoes_103 ?_
                refine m_iload_n F rfl e_X10_periodGoes_104 ?_
                refine r_callV F e_X10_periodGoes_105 (q_X10_isOn (x_l X) V c T Z u h P L1 _ _ i h5500.1 (hok1.b) hP (by omega)) cb_X10_isOn ml_X10_267 im_X10_isOn se_X10_isOn h5500 rfl rfl (rest := []) rfl (Nat.le_of_ble_eq_true rfl) ⟨Nat.le_of_ble_eq_true rfl, Nat.le_of_ble_eq_true rfl⟩ ⟨Nat.le_of_ble_eq_true rfl, Nat.le_of_ble_eq_true rfl⟩ (fun r σ5502 hp => ?_)
                obtain ⟨h5503, c5505⟩ := hp
                have h5504 := HS.trans h5500 h5503 (by decide)
                rcases c5505 with ⟨g5506, rfl⟩ | ⟨g5506, rfl⟩
                · refine m_if_eq F e_X10_periodGoes_108 (fun _ => ?_) (fun q => absurd (by decide) q)
                  refine m_iinc F (v := nI (i + 1)) (lv' := [(1, .int (nI (i + 1))), (2, .int (nI (160 * i))), (0, .ref c)]) e_X10_periodGoes_116 rfl (nI_add i 1) (by decide) rfl ?_
                  refine m_goto F e_X10_periodGoes_119 ?_
                  refine Wm.lvsub (lv' := [(1, .int (nI (i + 1))), (0, .ref c)]) ?_ [0, 2] rfl
                  exact ih (i + 1) L1 _ h5504 hok1 (by omega) (by omega)
                · refine m_if_eq F e_X10_periodGoes_108 (fun q => absurd q (by decide)) (fun _ => ?_)
                  refine m_aload_n F rfl e_X10_periodGoes_111 ?_
                  refine m_iload_n F rfl e_X10_periodGoes_112 ?_
                  refine r_callV F e_X10_periodGoes_113 (q_X10_pays (x_l X) V c T Z u h P L1 _ _ i h5504.1 (hok1) hP (by omega) (by first | omega | assumption | decide)) cb_X10_pays ml_X10_281 im_X10_pays se_X10_pays h5504 rfl rfl (rest := []) rfl (Nat.le_of_ble_eq_true rfl) ⟨Nat.le_of_ble_eq_true rfl, Nat.le_of_ble_eq_true rfl⟩ ⟨Nat.le_of_ble_eq_true rfl, Nat.le_of_ble_eq_true rfl⟩ (fun r σ5507 hp => ?_)
                  obtain ⟨L5510, okL5510, r5511, h5508, rfl⟩ := hp
                  have h5509 := HS.trans h5504 h5508 (by decide)
                  refine m_iinc F (v := nI (i + 1)) (lv' := [(1, .int (nI (i + 1))), (2, .int (nI (160 * i))), (0, .ref c)]) e_X10_periodGoes_116 rfl (nI_add i 1) (by decide) rfl ?_
                  refine m_goto F e_X10_periodGoes_119 ?_
                  refine Wm.lvsub (lv' := [(1, .int (nI (i + 1))), (0, .ref c)]) ?_ [0, 2] rfl
                  exact ih (i + 1) L5510 _ h5509 okL5510 (by omega) (by omega)
        · subst q45
          refine m_aload_n F rfl e_X10_periodGoes_48 ?_
          refine m_iload_n F rfl e_X10_periodGoes_49 ?_
          refine r_callV F e_X10_periodGoes_50 (q_X10_starts1 (x_l X) V c T Z u h P L1 _ _ i h5350.1 (hok1) hP (by omega) (by first | omega | assumption | decide) (by first | omega | assumption | decide)) cb_X10_starts1 ml_X10_264 im_X10_starts1 se_X10_starts1 h5350 rfl rfl (rest := []) rfl (Nat.le_of_ble_eq_true rfl) ⟨Nat.le_of_ble_eq_true rfl, Nat.le_of_ble_eq_true rfl⟩ ⟨Nat.le_of_ble_eq_true rfl, Nat.le_of_ble_eq_true rfl⟩ (fun r σ5512 hp => ?_)
          obtain ⟨L5515, okL5515, r5516, h5513, rfl⟩ := hp
          have h5514 := HS.trans h5350 h5513 (by decide)
          refine m_goto F e_X10_periodGoes_53 ?_
          refine m_aload_n F rfl e_X10_periodGoes_103 ?_
          refine m_iload_n F rfl e_X10_periodGoes_104 ?_
          refine r_callV F e_X10_periodGoes_105 (q_X10_isOn (x_l X) V c T Z u h P L5515 _ _ i h5514.1 (okL5515.b) hP (by omega)) cb_X10_isOn ml_X10_267 im_X10_isOn se_X10_isOn h5514 rfl rfl (rest := []) rfl (Nat.le_of_ble_eq_true rfl) ⟨Nat.le_of_ble_eq_true rfl, Nat.le_of_ble_eq_true rfl⟩ ⟨Nat.le_of_ble_eq_true rfl, Nat.le_of_ble_eq_true rfl⟩ (fun r σ5517 hp => ?_)
          obtain ⟨h5518, c5520⟩ := hp
          have h5519 := HS.trans h5514 h5518 (by decide)
          rcases c5520 with ⟨g5521, rfl⟩ | ⟨g5521, rfl⟩
          · refine m_if_eq F e_X10_periodGoes_108 (fun _ => ?_) (fun q => absurd (by decide) q)
            refine m_iinc F (v := nI (i + 1)) (lv' := [(1, .int (nI (i + 1))), (2, .int (nI (160 * i))), (0, .ref c)]) e_X10_periodGoes_116 rfl (nI_add i 1) (by decide) rfl ?_
            refine m_goto F e_X10_periodGoes_119 ?_
            refine Wm.lvsub (lv' := [(1, .int (nI (i + 1))), (0, .ref c)]) ?_ [0, 2] rfl
            exact ih (i + 1) L5515 _ h5519 okL5515 (by omega) (by omega)
          · refine m_if_eq F e_X10_periodGoes_108 (fun q => absurd q (by decide)) (fun _ => ?_)
            refine m_aload_n F rfl e_X10_periodGoes_111 ?_
            refine m_iload_n F rfl e_X10_periodGoes_112 ?_
            refine r_callV F e_X10_periodGoes_113 (q_X10_pays (x_l X) V c T Z u h P L5515 _ _ i h5519.1 (okL5515) hP (by omega) (by first | omega | assumption | decide)) cb_X10_pays ml_X10_281 im_X10_pays se_X10_pays h5519 rfl rfl (rest := []) rfl (Nat.le_of_ble_eq_true rfl) ⟨Nat.le_of_ble_eq_true rfl, Nat.le_of_ble_eq_true rfl⟩ ⟨Nat.le_of_ble_eq_true rfl, Nat.le_of_ble_eq_true rfl⟩ (fun r σ5522 hp => ?_)
            obtain ⟨L5525, okL5525, r5526, h5523, rfl⟩ := hp
            have h5524 := HS.trans h5519 h5523 (by decide)
            refine m_iinc F (v := nI (i + 1)) (lv' := [(1, .int (nI (i + 1))), (2, .int (nI (160 * i))), (0, .ref c)]) e_X10_periodGoes_116 rfl (nI_add i 1) (by decide) rfl ?_
            refine m_goto F e_X10_periodGoes_119 ?_
            refine Wm.lvsub (lv' := [(1, .int (nI (i + 1))), (0, .ref c)]) ?_ [0, 2] rfl
            exact ih (i + 1) L5525 _ h5524 okL5525 (by omega) (by omega)
set_option maxRecDepth 20000 in
theorem q_X10_periodGoes (l : Launch) (V : VX) (c T Z u h : Nat) (P : NP) (L : Nat → LQ) (N : Nat) (σ : Mem)  (h0 : HR V c ⟨T, Z, u, h, P, L⟩ σ) (hok : OKL P.n0 L) (hP : OKP P) (hp0 : (L 4).1 ≤ 98) : Ct l V yX10_periodGoes cX10_periodGoes 3 none 3 0 0 N σ [.ref c] (fun r τ => ∃ L9, OKL P.n0 L9 ∧ (L9 4).1 = (L 4).1 + 1 ∧ HS V c (⟨T, Z, u, h, P, L9⟩ : RG) [0, 1, 2, 3, 4, 5, 6, 7, 8, 9, 10, 11, 12, 13, 14, 15, 16, 18, 19, 20, 21, 22] σ τ ∧ r = none) := by
  refine Ct.of (by decide) (Nat.le_of_ble_eq_true rfl) [(0, .ref c)] rfl (fun X hX F hQ => ?_)
  have hPP := hP
  unfold OKP at hPP
  have h1 : HS V c ⟨T, Z, u, h, P, L⟩ [0, 1, 2, 3, 4, 5, 6, 7, 8, 9, 10, 11, 12, 13, 14, 15, 16, 18, 19, 20, 21, 22] σ σ := HS.start h0
  refine m_iconst F (v := 0) (by decide) e_X10_periodGoes_0 ?_
  refine m_istore_n F (lv' := [(1, .int 0), (0, .ref c)]) e_X10_periodGoes_1 (by decide) rfl ?_
  exact lq_X10_periodGoes_2 F hQ hok hP hp0 (4 - 0 + 1) 0 L _ h1 hok (by omega) (Nat.lt_succ_self _)
set_option maxRecDepth 20000 in
theorem lq_X10_adds_10 {V : VX} {X : MX} {N : Nat} {σ : Mem} {c T Z u h : Nat} {P : NP} {L : Nat → LQ}  {n901 : Nat} {n902 : Nat} {x903 : Int64} {x904 : Int64} (F : Fx V X yX10_adds cX10_adds 9 none (rmd 0 0 0)) (hQ : Rt V X 0 0 N (fun r τ => ∃ L9, OKL P.n0 L9 ∧ (L9 n901).1 = (L n901).1 ∧ (L9 n901).2.2.1 = (L n901).2.2.1 ∧ (L9 4).1 = (L 4).1 ∧ HS V c (⟨T, Z, u, h, P, L9⟩ : RG) [0, 1, 2, 3, 4, 5, 6, 7, 8, 9, 10, 11, 12, 13, 14, 15, 16, 18, 19, 20, 21, 22, 23] σ τ ∧ r = none)) (hok : OKL P.n0 L) (hP : OKP P) (hn901 : n901 ≤ 3) (hn902 : n902 ≤ 24) (hp0 : (L n901).2.1 + n902 ≤ 72)  : ∀ (fuel : Nat) (i : Nat) (L1 : Nat → LQ) (τ : Mem), HS V c (⟨T, Z, u, h, P, L1⟩ : RG) [0, 1, 2, 3, 4, 5, 6, 7, 8, 9, 10, 11, 12, 13, 14, 15, 16, 18, 19, 20, 21, 22, 23] σ τ → OKL P.n0 L1 → i ≤ n902 ∧ (L1 n901).2.1 + n902 ≤ 72 + i ∧ (L1 n901).1 = (L n901).1 ∧ (L1 n901).2.2.1 = (L n901).2.2.1 ∧ (L1 4).1 = (L 4).1 → n902 - i < fuel → Wm V X 9 N τ 0 0 10 [(8, .int (nI i)), (7, .int (nI (160 * n901))), (0, .ref c), (1, .int (nI n901)), (2, .int (nI n902)), (3, .long x903), (5, .long x904)] [] := by
  intro fuel
  induction fuel with
  | zero => intros; rename_i hm; exact absurd hm (Nat.not_lt_zero _)
  | succ fuel ih =>
    intro i L1 τ h1 hok1 hi hm
    have hPP := hP
    unfold OKP at hPP
    refine m_iload F rfl e_X10_adds_10 ?_
    refine m_iload_n F rfl e_X10_adds_12 ?_
    refine m_icmp_ge F e_X10_adds_13 (fun q13 => ?_) (fun q13 => ?_)
    · have c13 : i ≥ n902 := (nI_leI (a := n902) (b := i) (by omega) (by omega)).mp q13
      exact m_vret F hQ e_X10_adds_80 (⟨L1, hok1, (by first | omega | rfl | assumption), (by first | omega | rfl | assumption), (by first | omega | rfl | assumption), h1, rfl⟩)
    · have c13 : i < n902 := by have hh := mt (nI_leI (a := n902) (b := i) (by omega) (by omega)).mpr q13; omega
      refine m_aload_n F rfl e_X10_adds_16 ?_
      refine r_get F e_X10_adds_17 fl_X10_59 h1 rfl (fun v hv f5527 => ?_)
      obtain rfl : v = .ref (c + 16) := hv
      refine m_iload F rfl e_X10_adds_20 ?_
      refine m_bipush F (v := 13) (by decide) e_X10_adds_22 ?_
      refine m_iadd F e_X10_adds_24 ?_
      refine Wm.topE (w := nI (160 * n901 + 13)) (nI_add (160 * n901) 13) ?_
      refine m_aload_n F rfl e_X10_adds_25 ?_
      refine r_getC F e_X10_adds_26 fl_X10_59 h1 (f5527) ?_
      refine m_iload F rfl e_X10_adds_29 ?_
      refine m_iconst F (v := 1) (by decide) e_X10_adds_31 ?_
      refine m_iadd F e_X10_adds_32 ?_
      refine Wm.topE (w := nI (160 * n901 + 1)) (nI_add (160 * n901) 1) ?_
      refine r_sld F (j := 160 * n901 + 1) e_X10_adds_33 h1 (nI_clamp (by omega)) (vp_in_nI (by omega) (by decide)) (fun x5528 h5529 f5530 => ?_)
      have hl5531 := hok1.2 n901 (by omega)
      obtain rfl : x5528 = lN (L1 n901).2.1 := (EJ_l (l := n901) (r := 1) (by omega) (by decide)).mp h5529
      refine m_l2i F e_X10_adds_34 ?_
      refine Wm.topE (w := nI ((L1 n901).2.1)) (lN_i ((L1 n901).2.1)) ?_
      refine m_iadd F e_X10_adds_35 ?_
      refine Wm.topE (w := nI ((160 * n901 + 13) + ((L1 n901).2.1))) (nI_add (160 * n901 + 13) ((L1 n901).2.1)) ?_
      refine m_lload_n F rfl e_X10_adds_36 ?_
      refine r_sst F (g' := (⟨T, Z, u, h, P, L1⟩ : RG)) (j := (160 * n901 + 13) + ((L1 n901).2.1)) e_X10_adds_37 h1 (by decide) (nI_clamp (by omega)) (vp_in_nI (by omega) (by decide)) (fun f q => EJ_same (EJ_lw (l := n901) (r := ((160 * n901 + 13) + ((L1 n901).2.1)) - 160 * n901) (by omega) (by omega) (by omega)) q) (fun _ _ _ q => q) (fun σ5532 h5533 g5534 => ?_)
      refine m_aload_n F rfl e_X10_adds_38 ?_
      refine r_getC F e_X10_adds_39 fl_X10_59 h5533 ((fld_eq (g5534 _ (by omega))).trans f5527) ?_
      refine m_iload F rfl e_X10_adds_42 ?_
      refine m_bipush F (v := 85) (by decide) e_X10_adds_44 ?_
      refine m_iadd F e_X10_adds_46 ?_
      refine Wm.topE (w := nI (160 * n901 + 85)) (nI_add (160 * n901) 85) ?_
      refine m_aload_n F rfl e_X10_adds_47 ?_
      refine r_getC F e_X10_adds_48 fl_X10_59 h5533 ((fld_eq (g5534 _ (by omega))).trans f5527) ?_
      refine m_iload F rfl e_X10_adds_51 ?_
      refine m_iconst F (v := 1) (by decide) e_X10_adds_53 ?_
      refine m_iadd F e_X10_adds_54 ?_
      refine Wm.topE (w := nI (160 * n901 + 1)) (nI_add (160 * n901) 1) ?_
      refine r_sld F (j := 160 * n901 + 1) e_X10_adds_55 h5533 (nI_clamp (by omega)) (vp_in_nI (by omega) (by decide)) (fun x5535 h5536 f5537 => ?_)
      have hl5538 := hok1.2 n901 (by omega)
      obtain rfl : x5535 = lN (L1 n901).2.1 := (EJ_l (l := n901) (r := 1) (by omega) (by decide)).mp h5536
      refine m_l2i F e_X10_adds_56 ?_
      refine Wm.topE (w := nI ((L1 n901).2.1)) (lN_i ((L1 n901).2.1)) ?_
      refine m_iadd F e_X10_adds_57 ?_
      refine Wm.topE (w := nI ((160 * n901 + 85) + ((L1 n901).2.1))) (nI_add (160 * n901 + 85) ((L1 n901).2.1)) ?_
      refine m_lload F rfl e_X10_adds_58 ?_
      refine r_sst F (g' := (⟨T, Z, u, h, P, L1⟩ : RG)) (j := (160 * n901 + 85) + ((L1 n901).2.1)) e_X10_adds_60 h5533 (by decide) (nI_clamp (by omega)) (vp_in_nI (by omega) (by decide)) (fun f q => EJ_same (EJ_lw (l := n901) (r := ((160 * n901 + 85) + ((L1 n901).2.1)) - 160 * n901) (by omega) (by omega) (by omega)) q) (fun _ _ _ q => q) (fun σ5539 h5540 g5541 => ?_)
      refine m_aload_n F rfl e_X10_adds_61 ?_
      refine r_getC F e_X10_adds_62 fl_X10_59 h5540 ((fld_eq (g5541 _ (by omega))).trans ((fld_eq (g5534 _ (by omega))).trans f5527)) ?_
      refine m_iload F rfl e_X10_adds_65 ?_
      refine m_iconst F (v := 1) (by decide) e_X10_adds_67 ?_
      refine m_iadd F e_X10_adds_68 ?_
      refine Wm.topE (w := nI (160 * n901 + 1)) (nI_add (160 * n901) 1) ?_
      refine m_dup2_11 F rfl rfl e_X10_adds_69 ?_
      refine r_sld F (j := 160 * n901 + 1) e_X10_adds_70 h5540 (nI_clamp (by omega)) (vp_in_nI (by omega) (by decide)) (fun x5542 h5543 f5544 => ?_)
      have hl5545 := hok1.2 n901 (by omega)
      obtain rfl : x5542 = lN (L1 n901).2.1 := (EJ_l (l := n901) (r := 1) (by omega) (by decide)).mp h5543
      refine m_lconst F (v := 1) (by decide) e_X10_adds_71 ?_
      refine m_ladd F e_X10_adds_72 ?_
      refine Wm.toplE (w := lN ((L1 n901).2.1 + 1)) (lN_add ((L1 n901).2.1) 1) ?_
      refine r_sst F (g' := (⟨T, Z, u, h, P, (updL L1 n901 ((L1 n901).1, (L1 n901).2.1 + 1, (L1 n901).2.2.1, (L1 n901).2.2.2))⟩ : RG)) (j := 160 * n901 + 1) e_X10_adds_73 h5540 (by decide) (nI_clamp (by omega)) (vp_in_nI (by omega) (by decide)) (fun f q => EJ_up (l := n901) (r := 1) (by omega) (by decide) q rfl (by intro r' h1 h2 y hy; revert hy; unfold EL; split <;> simp_all)) CR.row (fun σ5546 h5547 g5548 => ?_)
      obtain ⟨L5549, eL5549⟩ : ∃ L9, L9 = (updL L1 n901 ((L1 n901).1, (L1 n901).2.1 + 1, (L1 n901).2.2.1, (L1 n901).2.2.2)) := ⟨_, rfl⟩
      rw [← eL5549] at h5547
      have fL5549 : L5549 n901 = ((L1 n901).1, (L1 n901).2.1 + 1, (L1 n901).2.2.1, (L1 n901).2.2.2) := by rw [eL5549]; exact if_pos rfl
      have fL55490 : (L5549 n901).1 = (L1 n901).1 := by rw [fL5549]
      have fL55491 : (L5549 n901).2.1 = (L1 n901).2.1 + 1 := by rw [fL5549]
      have fL55492 : (L5549 n901).2.2.1 = (L1 n901).2.2.1 := by rw [fL5549]
      have fL55493 : (L5549 n901).2.2.2 = (L1 n901).2.2.2 := by rw [fL5549]
      have oL5549 : ∀ i, i ≠ n901 → L5549 i = L1 i := fun i hi => by rw [eL5549]; exact if_neg hi
      have pL5549 : (L5549 4).1 = (L1 4).1 := by rw [oL5549 4 (by omega)]
      refine m_iinc F (v := nI (i + 1)) (lv' := [(8, .int (nI (i + 1))), (7, .int (nI (160 * n901))), (0, .ref c), (1, .int (nI n901)), (2, .int (nI n902)), (3, .long x903), (5, .long x904)]) e_X10_adds_74 rfl (nI_add i 1) (by decide) rfl ?_
      refine m_goto F e_X10_adds_77 ?_
      have ok5550 : OKL P.n0 L5549 := OKL.upd hok1 (l := n901) (by omega) (fun i hi => (oL5549 i hi)) (by have h9 := hok1.2 n901 (by omega); omega)
      exact ih (i + 1) L5549 _ h5547 ok5550 (by omega) (by omega)
set_option maxRecDepth 20000 in
theorem q_X10_adds (l : Launch) (V : VX) (c T Z u h : Nat) (P : NP) (L : Nat → LQ) (N : Nat) (σ : Mem) (n901 : Nat) (n902 : Nat) (x903 : Int64) (x904 : Int64) (h0 : HR V c ⟨T, Z, u, h, P, L⟩ σ) (hok : OKL P.n0 L) (hP : OKP P) (hn901 : n901 ≤ 3) (hn902 : n902 ≤ 24) (hp0 : (L n901).2.1 + n902 ≤ 72) : Ct l V yX10_adds cX10_adds 9 none 0 0 0 N σ [.ref c, .int (nI n901), .int (nI n902), .long x903, .long x904] (fun r τ => ∃ L9, OKL P.n0 L9 ∧ (L9 n901).1 = (L n901).1 ∧ (L9 n901).2.2.1 = (L n901).2.2.1 ∧ (L9 4).1 = (L 4).1 ∧ HS V c (⟨T, Z, u, h, P, L9⟩ : RG) [0, 1, 2, 3, 4, 5, 6, 7, 8, 9, 10, 11, 12, 13, 14, 15, 16, 18, 19, 20, 21, 22, 23] σ τ ∧ r = none) := by
  refine Ct.of (by decide) (Nat.le_of_ble_eq_true rfl) [(0, .ref c), (1, .int (nI n901)), (2, .int (nI n902)), (3, .long x903), (5, .long x904)] rfl (fun X hX F hQ => ?_)
  have hPP := hP
  unfold OKP at hPP
  have h1 : HS V c ⟨T, Z, u, h, P, L⟩ [0, 1, 2, 3, 4, 5, 6, 7, 8, 9, 10, 11, 12, 13, 14, 15, 16, 18, 19, 20, 21, 22, 23] σ σ := HS.start h0
  refine m_sipush F (v := 160) (by decide) e_X10_adds_0 ?_
  refine m_iload_n F rfl e_X10_adds_3 ?_
  refine m_imul F e_X10_adds_4 ?_
  refine Wm.topE (w := nI (160 * n901)) (pk_mul 160 n901) ?_
  refine m_istore F (lv' := [(7, .int (nI (160 * n901))), (0, .ref c), (1, .int (nI n901)), (2, .int (nI n902)), (3, .long x903), (5, .long x904)]) e_X10_adds_5 (by decide) rfl ?_
  refine m_iconst F (v := 0) (by decide) e_X10_adds_7 ?_
  refine m_istore F (lv' := [(8, .int 0), (7, .int (nI (160 * n901))), (0, .ref c), (1, .int (nI n901)), (2, .int (nI n902)), (3, .long x903), (5, .long x904)]) e_X10_adds_8 (by decide) rfl ?_
  exact lq_X10_adds_10 F hQ hok hP hn901 hn902 hp0 (n902 - 0 + 1) 0 L _ h1 hok (by omega) (Nat.lt_succ_self _)
