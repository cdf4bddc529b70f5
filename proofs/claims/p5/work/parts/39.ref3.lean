set_option maxRecDepth 20000 in
theorem lq_X10_periodGoes_2 {V : VX} {X : MX} {N : Nat} {σ : Mem} {c T Z u h : Nat} {P : NP} {L : Nat → LQ}   (F : Fx V X yX10_periodGoes cX10_periodGoes 3 none (rmd 3 0 0)) (hQ : Rt V X 0 0 N (fun r τ => ∃ L9, OKL P.n0 L9 ∧ (L9 4).1 = (L 4).1 + 1 ∧ HS V c (⟨T, Z, u, h, P, L9⟩ : RG) [0, 1, 2, 3, 4, 5, 6, 7, 8, 9, 10, 11, 12, 13, 14, 15, 16, 18, 19, 20, 21, 22] σ τ ∧ r = none)) (hok : OKL P.n0 L) (hP : OKP P) (hp0 : (L 4).1 ≤ 98)  : ∀ (fuel : Nat) (i : Nat) (L1 : Nat → LQ) (τ : Mem), HS V c (⟨T, Z, u, h, P, L1⟩ : RG) [0, 1, 2, 3, 4, 5, 6, 7, 8, 9, 10, 11, 12, 13, 14, 15, 16, 18, 19, 20, 21, 22] σ τ → OKL P.n0 L1 → i ≤ 4 ∧ (L1 4).1 = (L 4).1 → 4 - i < fuel → Wm V X 3 N τ 0 0 2 [(1, .int (nI i)), (0, .ref c)] [] := by
  intro fuel
  induction fuel with
  | zero => intros; rename_i hm; exact absurd hm (Nat.not_lt_zero _)
  | succ fuel ih =>
    intro i L1 τ h1 hok1 hi hm
    have hPP := hP
    unfold OKP at hPP
    refine m_iload_n F rfl e_X10_periodGoes_2 ?_
    refine m_aload_n F rfl e_X10_periodGoes_3 ?_
    refine r_callV F e_X10_periodGoes_4 (q_X10_leases (x_l X) V c T Z u h P L1 _ _  h1.1 (hok1.b) hP ) cb_X10_leases ml_X10_221 im_X10_leases se_X10_leases h1 rfl rfl (rest := [.int (nI i)]) rfl (Nat.le_of_ble_eq_true rfl) ⟨Nat.le_of_ble_eq_true rfl, Nat.le_of_ble_eq_true rfl⟩ ⟨Nat.le_of_ble_eq_true rfl, Nat.le_of_ble_eq_true rfl⟩ (fun r σ5243 hp => ?_)
    obtain ⟨h5244, rfl⟩ := hp
    have h5245 := HS.trans h1 h5244 (by decide)
    refine m_icmp_ge F e_X10_periodGoes_7 (fun q7 => ?_) (fun q7 => ?_)
    · have c7 : i ≥ P.n0 := (nI_leI (a := P.n0) (b := i) (by omega) (by omega)).mp q7
      refine m_aload_n F rfl e_X10_periodGoes_122 ?_
      refine r_get F e_X10_periodGoes_123 fl_X10_59 h5245 rfl (fun v hv f5246 => ?_)
      obtain rfl : v = .ref (c + 16) := hv
      refine m_sipush F (v := 744) (by decide) e_X10_periodGoes_126 ?_
      refine m_dup2_11 F rfl rfl e_X10_periodGoes_129 ?_
      refine r_sld F (j := 744) e_X10_periodGoes_130 h5245 (by decide) (by unfold vp_in; decide) (fun x5247 h5248 f5249 => ?_)
      have hl5250 := hok1.1
      obtain rfl : x5247 = lN (L1 4).1 := EJ_p.mp h5248
      refine m_lconst F (v := 1) (by decide) e_X10_periodGoes_131 ?_
      refine m_ladd F e_X10_periodGoes_132 ?_
      refine Wm.toplE (w := lN ((L1 4).1 + 1)) (lN_add ((L1 4).1) 1) ?_
      refine r_sst F (g' := (⟨T, Z, u, h, P, (updL L1 4 ((L1 4).1 + 1, 0, 0, 0))⟩ : RG)) (j := 744) e_X10_periodGoes_133 h5245 (by decide) (by decide) (by unfold vp_in; decide) (fun f q => EJ_pup q) CR.row (fun σ5251 h5252 g5253 => ?_)
      obtain ⟨L5254, eL5254⟩ : ∃ L9, L9 = (updL L1 4 ((L1 4).1 + 1, 0, 0, 0)) := ⟨_, rfl⟩
      rw [← eL5254] at h5252
      have fL52540 : (L5254 4).1 = (L1 4).1 + 1 := by rw [eL5254]; exact congrArg (fun q : LQ => q.1) (if_pos rfl)
      have oL5254 : ∀ i, i ≠ 4 → L5254 i = L1 i := fun i hi => by rw [eL5254]; exact if_neg hi
      have ok5255 : OKL P.n0 L5254 := OKL.updP hok1 (fun i hi => (oL5254 i hi)) (by have h9 := hok1.1; omega)
      exact m_vret F hQ e_X10_periodGoes_134 (⟨L5254, ok5255, (by first | omega | rfl | assumption), h5252, rfl⟩)
    · have c7 : i < P.n0 := by have hh := mt (nI_leI (a := P.n0) (b := i) (by omega) (by omega)).mpr q7; omega
      refine m_sipush F (v := 160) (by decide) e_X10_periodGoes_10 ?_
      refine m_iload_n F rfl e_X10_periodGoes_13 ?_
      refine m_imul F e_X10_periodGoes_14 ?_
      refine Wm.topE (w := nI (160 * i)) (pk_mul 160 i) ?_
      refine m_istore_n F (lv' := [(2, .int (nI (160 * i))), (1, .int (nI i)), (0, .ref c)]) e_X10_periodGoes_15 (by decide) rfl ?_
      refine m_aload_n F rfl e_X10_periodGoes_16 ?_
      refine r_get F e_X10_periodGoes_17 fl_X10_59 h5245 rfl (fun v hv f5256 => ?_)
      obtain rfl : v = .ref (c + 16) := hv
      refine m_iload_n F rfl e_X10_periodGoes_20 ?_
      refine m_iconst F (v := 0) (by decide) e_X10_periodGoes_21 ?_
      refine m_iadd F e_X10_periodGoes_22 ?_
      refine Wm.topE (w := nI (160 * i)) (nI_add (160 * i) 0) ?_
      refine r_sld F (j := 160 * i) e_X10_periodGoes_23 h5245 (nI_clamp (by omega)) (vp_in_nI (by omega) (by decide)) (fun x5257 h5258 f5259 => ?_)
      have hl5260 := hok1.2 i (by omega)
      obtain rfl : x5257 = lN (L1 i).1 := (EJ_l (l := i) (r := 0) (by omega) (by decide)).mp h5258
      refine m_lconst F (v := 0) (by decide) e_X10_periodGoes_24 ?_
      refine m_lcmp F e_X10_periodGoes_25 ?_
      refine m_if_ne F e_X10_periodGoes_26 (fun q26 => ?_) (fun q26 => ?_)
      · have c26 : ((L1 i).1) ≠ 0 := by have hh := mt (fun h9 => (lg_cmp_eq (lN ((L1 i).1)) (lN 0)).mpr ((lN_eq (a := ((L1 i).1)) (b := 0) (by omega) (by omega)).mpr h9)) q26; omega
        refine m_aload_n F rfl e_X10_periodGoes_56 ?_
        refine m_iload_n F rfl e_X10_periodGoes_57 ?_
        refine r_callV F e_X10_periodGoes_58 (q_X10_isOn (x_l X) V c T Z u h P L1 _ _ i h5245.1 (hok1.b) hP (by omega)) cb_X10_isOn ml_X10_267 im_X10_isOn se_X10_isOn h5245 rfl rfl (rest := []) rfl (Nat.le_of_ble_eq_true rfl) ⟨Nat.le_of_ble_eq_true rfl, Nat.le_of_ble_eq_true rfl⟩ ⟨Nat.le_of_ble_eq_true rfl, Nat.le_of_ble_eq_true rfl⟩ (fun r σ5261 hp => ?_)
        obtain ⟨h5262, c5264⟩ := hp
        have h5263 := HS.trans h5245 h5262 (by decide)
        rcases c5264 with ⟨g5265, rfl⟩ | ⟨g5265, rfl⟩
        · refine m_if_eq F e_X10_periodGoes_61 (fun _ => ?_) (fun q => absurd (by decide) q)
          refine m_aload_n F rfl e_X10_periodGoes_103 ?_
          refine m_iload_n F rfl e_X10_periodGoes_104 ?_
          refine r_callV F e_X10_periodGoes_105 (q_X10_isOn (x_l X) V c T Z u h P L1 _ _ i h5263.1 (hok1.b) hP (by omega)) cb_X10_isOn ml_X10_267 im_X10_isOn se_X10_isOn h5263 rfl rfl (rest := []) rfl (Nat.le_of_ble_eq_true rfl) ⟨Nat.le_of_ble_eq_true rfl, Nat.le_of_ble_eq_true rfl⟩ ⟨Nat.le_of_ble_eq_true rfl, Nat.le_of_ble_eq_true rfl⟩ (fun r σ5266 hp => ?_)
          obtain ⟨h5267, c5269⟩ := hp
          have h5268 := HS.trans h5263 h5267 (by decide)
          rcases c5269 with ⟨g5270, rfl⟩ | ⟨g5270, rfl⟩
          · refine m_if_eq F e_X10_periodGoes_108 (fun _ => ?_) (fun q => absurd (by decide) q)
            refine m_iinc F (v := nI (i + 1)) (lv' := [(1, .int (nI (i + 1))), (2, .int (nI (160 * i))), (0, .ref c)]) e_X10_periodGoes_116 rfl (nI_add i 1) (by decide) rfl ?_
            refine m_goto F e_X10_periodGoes_119 ?_
            refine Wm.lvsub (lv' := [(1, .int (nI (i + 1))), (0, .ref c)]) ?_ [0, 2] rfl
            exact ih (i + 1) L1 _ h5268 hok1 (by omega) (by omega)
          · refine m_if_eq F e_X10_periodGoes_108 (fun q => absurd q (by decide)) (fun _ => ?_)
            refine m_aload_n F rfl e_X10_periodGoes_111 ?_
            refine m_iload_n F rfl e_X10_periodGoes_112 ?_
            refine r_callV F e_X10_periodGoes_113 (q_X10_pays (x_l X) V c T Z u h P L1 _ _ i h5268.1 (hok1) hP (by omega) (by first | omega | assumption | decide)) cb_X10_pays ml_X10_281 im_X10_pays se_X10_pays h5268 rfl rfl (rest := []) rfl (Nat.le_of_ble_eq_true rfl) ⟨Nat.le_of_ble_eq_true rfl, Nat.le_of_ble_eq_true rfl⟩ ⟨Nat.le_of_ble_eq_true rfl, Nat.le_of_ble_eq_true rfl⟩ (fun r σ5271 hp => ?_)
            obtain ⟨L5274, okL5274, r5275, h5272, rfl⟩ := hp
            have h5273 := HS.trans h5268 h5272 (by decide)
            refine m_iinc F (v := nI (i + 1)) (lv' := [(1, .int (nI (i + 1))), (2, .int (nI (160 * i))), (0, .ref c)]) e_X10_periodGoes_116 rfl (nI_add i 1) (by decide) rfl ?_
            refine m_goto F e_X10_periodGoes_119 ?_
            refine Wm.lvsub (lv' := [(1, .int (nI (i + 1))), (0, .ref c)]) ?_ [0, 2] rfl
            exact ih (i + 1) L5274 _ h5273 okL5274 (by omega) (by omega)
        · refine m_if_eq F e_X10_periodGoes_61 (fun q => absurd q (by decide)) (fun _ => ?_)
          refine m_aload_n F rfl e_X10_periodGoes_64 ?_
          refine m_iload_n F rfl e_X10_periodGoes_65 ?_
          refine r_callV F e_X10_periodGoes_66 (q_X10_isTied (x_l X) V c T Z u h P L1 _ _ i h5263.1 (hok1.b) hP (by omega)) cb_X10_isTied ml_X10_270 im_X10_isTied se_X10_isTied h5263 rfl rfl (rest := []) rfl (Nat.le_of_ble_eq_true rfl) ⟨Nat.le_of_ble_eq_true rfl, Nat.le_of_ble_eq_true rfl⟩ ⟨Nat.le_of_ble_eq_true rfl, Nat.le_of_ble_eq_true rfl⟩ (fun r σ5276 hp => ?_)
          obtain ⟨h5277, n5279, hn5279, rfl⟩ := hp
          have h5278 := HS.trans h5263 h5277 (by decide)
          refine m_if_eq F e_X10_periodGoes_69 (fun q69 => ?_) (fun q69 => ?_)
          · have c69 : n5279 = 0 := (nI_eq (a := n5279) (b := 0) (by omega) (by omega)).mp q69
            refine m_aload_n F rfl e_X10_periodGoes_103 ?_
            refine m_iload_n F rfl e_X10_periodGoes_104 ?_
            refine r_callV F e_X10_periodGoes_105 (q_X10_isOn (x_l X) V c T Z u h P L1 _ _ i h5278.1 (hok1.b) hP (by omega)) cb_X10_isOn ml_X10_267 im_X10_isOn se_X10_isOn h5278 rfl rfl (rest := []) rfl (Nat.le_of_ble_eq_true rfl) ⟨Nat.le_of_ble_eq_true rfl, Nat.le_of_ble_eq_true rfl⟩ ⟨Nat.le_of_ble_eq_true rfl, Nat.le_of_ble_eq_true rfl⟩ (fun r σ5280 hp => ?_)
            obtain ⟨h5281, c5283⟩ := hp
            have h5282 := HS.trans h5278 h5281 (by decide)
            rcases c5283 with ⟨g5284, rfl⟩ | ⟨g5284, rfl⟩
            · refine m_if_eq F e_X10_periodGoes_108 (fun _ => ?_) (fun q => absurd (by decide) q)
              refine m_iinc F (v := nI (i + 1)) (lv' := [(1, .int (nI (i + 1))), (2, .int (nI (160 * i))), (0, .ref c)]) e_X10_periodGoes_116 rfl (nI_add i 1) (by decide) rfl ?_
              refine m_goto F e_X10_periodGoes_119 ?_
              refine Wm.lvsub (lv' := [(1, .int (nI (i + 1))), (0, .ref c)]) ?_ [0, 2] rfl
              exact ih (i + 1) L1 _ h5282 hok1 (by omega) (by omega)
            · refine m_if_eq F e_X10_periodGoes_108 (fun q => absurd q (by decide)) (fun _ => ?_)
              refine m_aload_n F rfl e_X10_periodGoes_111 ?_
              refine m_iload_n F rfl e_X10_periodGoes_112 ?_
              refine r_callV F e_X10_periodGoes_113 (q_X10_pays (x_l X) V c T Z u h P L1 _ _ i h5282.1 (hok1) hP (by omega) (by first | omega | assumption | decide)) cb_X10_pays ml_X10_281 im_X10_pays se_X10_pays h5282 rfl rfl (rest := []) rfl (Nat.le_of_ble_eq_true rfl) ⟨Nat.le_of_ble_eq_true rfl, Nat.le_of_ble_eq_true rfl⟩ ⟨Nat.le_of_ble_eq_true rfl, Nat.le_of_ble_eq_true rfl⟩ (fun r σ5285 hp => ?_)
              obtain ⟨L5288, okL5288, r5289, h5286, rfl⟩ := hp
              have h5287 := HS.trans h5282 h5286 (by decide)
              refine m_iinc F (v := nI (i + 1)) (lv' := [(1, .int (nI (i + 1))), (2, .int (nI (160 * i))), (0, .ref c)]) e_X10_periodGoes_116 rfl (nI_add i 1) (by decide) rfl ?_
              refine m_goto F e_X10_periodGoes_119 ?_
              refine Wm.lvsub (lv' := [(1, .int (nI (i + 1))), (0, .ref c)]) ?_ [0, 2] rfl
              exact ih (i + 1) L5288 _ h5287 okL5288 (by omega) (by omega)
          · have c69 : n5279 ≠ 0 := by have hh := mt (nI_eq (a := n5279) (b := 0) (by omega) (by omega)).mpr q69; omega
            refine m_aload_n F rfl e_X10_periodGoes_72 ?_
            refine r_callV F e_X10_periodGoes_73 (q_X10_indexNow (x_l X) V c T Z u h P L1 _ _  h5278.1 (hok1.b) hP ) cb_X10_indexNow ml_X10_260 im_X10_indexNow se_X10_indexNow h5278 rfl rfl (rest := []) rfl (Nat.le_of_ble_eq_true rfl) ⟨Nat.le_of_ble_eq_true rfl, Nat.le_of_ble_eq_true rfl⟩ ⟨Nat.le_of_ble_eq_true rfl, Nat.le_of_ble_eq_true rfl⟩ (fun r σ5290 hp => ?_)
            obtain ⟨h5291, n5293, hn5293, gn5293, rfl⟩ := hp
            have h5292 := HS.trans h5278 h5291 (by decide)
            refine m_aload_n F rfl e_X10_periodGoes_76 ?_
            refine r_getC F e_X10_periodGoes_77 fl_X10_59 h5292 ((fld_eq (h5291.2 c (by rw [show kC c c = 1 from kC_at (k := 0) (by decide)]; decide))).trans ((fld_eq (h5277.2 c (by rw [show kC c c = 1 from kC_at (k := 0) (by decide)]; decide))).trans ((fld_eq (h5262.2 c (by rw [show kC c c = 1 from kC_at (k := 0) (by decide)]; decide))).trans f5256))) ?_
            refine m_iload_n F rfl e_X10_periodGoes_80 ?_
            refine m_iconst F (v := 4) (by decide) e_X10_periodGoes_81 ?_
            refine m_iadd F e_X10_periodGoes_82 ?_
            refine Wm.topE (w := nI (160 * i + 4)) (nI_add (160 * i) 4) ?_
            refine r_sld F (j := 160 * i + 4) e_X10_periodGoes_83 h5292 (nI_clamp (by omega)) (vp_in_nI (by omega) (by decide)) (fun x5294 h5295 f5296 => ?_)
            refine m_lcmp F e_X10_periodGoes_84 ?_
            refine Wm.top (fun x5297 _ => ?_)
            refine m_if_eq F e_X10_periodGoes_85 (fun q85 => ?_) (fun q85 => ?_)
            · subst q85
              refine m_aload_n F rfl e_X10_periodGoes_103 ?_
              refine m_iload_n F rfl e_X10_periodGoes_104 ?_
              refine r_callV F e_X10_periodGoes_105 (q_X10_isOn (x_l X) V c T Z u h P L1 _ _ i h5292.1 (hok1.b) hP (by omega)) cb_X10_isOn ml_X10_267 im_X10_isOn se_X10_isOn h5292 rfl rfl (rest := []) rfl (Nat.le_of_ble_eq_true rfl) ⟨Nat.le_of_ble_eq_true rfl, Nat.le_of_ble_eq_true rfl⟩ ⟨Nat.le_of_ble_eq_true rfl, Nat.le_of_ble_eq_true rfl⟩ (fun r σ5298 hp => ?_)
              obtain ⟨h5299, c5301⟩ := hp
              have h5300 := HS.trans h5292 h5299 (by decide)
              rcases c5301 with ⟨g5302, rfl⟩ | ⟨g5302, rfl⟩
              · refine m_if_eq F e_X10_periodGoes_108 (fun _ => ?_) (fun q => absurd (by decide) q)
                refine m_iinc F (v := nI (i + 1)) (lv' := [(1, .int (nI (i + 1))), (2, .int (nI (160 * i))), (0, .ref c)]) e_X10_periodGoes_116 rfl (nI_add i 1) (by decide) rfl ?_
                refine m_goto F e_X10_periodGoes_119 ?_
                refine Wm.lvsub (lv' := [(1, .int (nI (i + 1))), (0, .ref c)]) ?_ [0, 2] rfl
                exact ih (i + 1) L1 _ h5300 hok1 (by omega) (by omega)
              · refine m_if_eq F e_X10_periodGoes_108 (fun q => absurd q (by decide)) (fun _ => ?_)
                refine m_aload_n F rfl e_X10_periodGoes_111 ?_
                refine m_iload_n F rfl e_X10_periodGoes_112 ?_
                refine r_callV F e_X10_periodGoes_113 (q_X10_pays (x_l X) V c T Z u h P L1 _ _ i h5300.1 (hok1) hP (by omega) (by first | omega | assumption | decide)) cb_X10_pays ml_X10_281 im_X10_pays se_X10_pays h5300 rfl rfl (rest := []) rfl (Nat.le_of_ble_eq_true rfl) ⟨Nat.le_of_ble_eq_true rfl, Nat.le_of_ble_eq_true rfl⟩ ⟨Nat.le_of_ble_eq_true rfl, Nat.le_of_ble_eq_true rfl⟩ (fun r σ5303 hp => ?_)
                obtain ⟨L5306, okL5306, r5307, h5304, rfl⟩ := hp
                have h5305 := HS.trans h5300 h5304 (by decide)
                refine m_iinc F (v := nI (i + 1)) (lv' := [(1, .int (nI (i + 1))), (2, .int (nI (160 * i))), (0, .ref c)]) e_X10_periodGoes_116 rfl (nI_add i 1) (by decide) rfl ?_
                refine m_goto F e_X10_periodGoes_119 ?_
                refine Wm.lvsub (lv' := [(1, .int (nI (i + 1))), (0, .ref c)]) ?_ [0, 2] rfl
                exact ih (i + 1) L5306 _ h5305 okL5306 (by omega) (by omega)
            · refine m_aload_n F rfl e_X10_periodGoes_88 ?_
              refine m_iload_n F rfl e_X10_periodGoes_89 ?_
              refine m_aload_n F rfl e_X10_periodGoes_90 ?_
              refine r_callV F e_X10_periodGoes_91 (q_X10_indexNow (x_l X) V c T Z u h P L1 _ _  h5292.1 (hok1.b) hP ) cb_X10_indexNow ml_X10_260 im_X10_indexNow se_X10_indexNow h5292 rfl rfl (rest := [.int (nI i), .ref c]) rfl (Nat.le_of_ble_eq_true rfl) ⟨Nat.le_of_ble_eq_true rfl, Nat.le_of_ble_eq_true rfl⟩ ⟨Nat.le_of_ble_eq_true rfl, Nat.le_of_ble_eq_true rfl⟩ (fun r σ5308 hp => ?_)
              obtain ⟨h5309, n5311, hn5311, gn5311, rfl⟩ := hp
              have h5310 := HS.trans h5292 h5309 (by decide)
              refine r_callV F e_X10_periodGoes_94 (q_X10_indexes (x_l X) V c T Z u h P L1 _ _ i n5311 h5310.1 (hok1.b) hP (by omega) (by omega) (by first | omega | assumption | decide)) cb_X10_indexes ml_X10_273 im_X10_indexes se_X10_indexes h5310 rfl rfl (rest := []) rfl (Nat.le_of_ble_eq_true rfl) ⟨Nat.le_of_ble_eq_true rfl, Nat.le_of_ble_eq_true rfl⟩ ⟨Nat.le_of_ble_eq_true rfl, Nat.le_of_ble_eq_true rfl⟩ (fun r σ5312 hp => ?_)
              obtain ⟨h5313, rfl⟩ := hp
              have h5314 := HS.trans h5310 h5313 (by decide)
              refine m_aload_n F rfl e_X10_periodGoes_97 ?_
              refine m_iload_n F rfl e_X10_periodGoes_98 ?_
              refine r_callV F e_X10_periodGoes_99 (q_X10_remeasures (x_l X) V c T Z u h P L1 _ _ i h5314.1 (hok1.b) hP (by omega)) cb_X10_remeasures ml_X10_277 im_X10_remeasures se_X10_remeasures h5314 rfl rfl (rest := []) rfl (Nat.le_of_ble_eq_true rfl) ⟨Nat.le_of_ble_eq_true rfl, Nat.le_of_ble_eq_true rfl⟩ ⟨Nat.le_of_ble_eq_true rfl, Nat.le_of_ble_eq_true rfl⟩ (fun r σ5315 hp => ?_)
              obtain ⟨h5316, x5318, rfl⟩ := hp
              have h5317 := HS.trans h5314 h5316 (by decide)
              refine m_pop2_2 F rfl e_X10_periodGoes_102 ?_
              refine m_aload_n F rfl e_X10_periodGoes_103 ?_
              refine m_iload_n F rfl e_X10_periodGoes_104 ?_
              refine r_callV F e_X10_periodGoes_105 (q_X10_isOn (x_l X) V c T Z u h P L1 _ _ i h5317.1 (hok1.b) hP (by omega)) cb_X10_isOn ml_X10_267 im_X10_isOn se_X10_isOn h5317 rfl rfl (rest := []) rfl (Nat.le_of_ble_eq_true rfl) ⟨Nat.le_of_ble_eq_true rfl, Nat.le_of_ble_eq_true rfl⟩ ⟨Nat.le_of_ble_eq_true rfl, Nat.le_of_ble_eq_true rfl⟩ (fun r σ5319 hp => ?_)
              obtain ⟨h5320, c5322⟩ := hp
              have h5321 := HS.trans h5317 h5320 (by decide)
              rcases c5322 with ⟨g5323, rfl⟩ | ⟨g5323, rfl⟩
              · refine m_if_eq F e_X10_periodGoes_108 (fun _ => ?_) (fun q => absurd (by decide) q)
                refine m_iinc F (v := nI (i + 1)) (lv' := [(1, .int (nI (i + 1))), (2, .int (nI (160 * i))), (0, .ref c)]) e_X10_periodGoes_116 rfl (nI_add i 1) (by decide) rfl ?_
                refine m_goto F e_X10_periodGoes_119 ?_
                refine Wm.lvsub (lv' := [(1, .int (nI (i + 1))), (0, .ref c)]) ?_ [0, 2] rfl
                exact ih (i + 1) L1 _ h5321 hok1 (by omega) (by omega)
              · refine m_if_eq F e_X10_periodGoes_108 (fun q => absurd q (by decide)) (fun _ => ?_)
                refine m_aload_n F rfl e_X10_periodGoes_111 ?_
                refine m_iload_n F rfl e_X10_periodGoes_112 ?_
                refine r_callV F e_X10_periodGoes_113 (q_X10_pays (x_l X) V c T Z u h P L1 _ _ i h5321.1 (hok1) hP (by omega) (by first | omega | assumption | decide)) cb_X10_pays ml_X10_281 im_X10_pays se_X10_pays h5321 rfl rfl (rest := []) rfl (Nat.le_of_ble_eq_true rfl) ⟨Nat.le_of_ble_eq_true rfl, Nat.le_of_ble_eq_true rfl⟩ ⟨Nat.le_of_ble_eq_true rfl, Nat.le_of_ble_eq_true rfl⟩ (fun r σ5324 hp => ?_)
                obtain ⟨L5327, okL5327, r5328, h5325, rfl⟩ := hp
                have h5326 := HS.trans h5321 h5325 (by decide)
                refine m_iinc F (v := nI (i + 1)) (lv' := [(1, .int (nI (i + 1))), (2, .int (nI (160 * i))), (0, .ref c)]) e_X10_periodGoes_116 rfl (nI_add i 1) (by decide) rfl ?_
                refine m_goto F e_X10_periodGoes_119 ?_
                refine Wm.lvsub (lv' := [(1, .int (nI (i + 1))), (0, .ref c)]) ?_ [0, 2] rfl
                exact ih (i + 1) L5327 _ h5326 okL5327 (by omega) (by omega)
      · have c26 : ((L1 i).1) = 0 := (lN_eq (a := ((L1 i).1)) (b := 0) (by omega) (by omega)).mp ((lg_cmp_eq _ _).mp q26)
        refine m_aload_n F rfl e_X10_periodGoes_29 ?_
        refine r_get F e_X10_periodGoes_30 fl_X10_19 h5245 rfl (fun v hv f5329 => ?_)
        obtain rfl : v = .ref (c + 4) := hv
        refine m_iload_n F rfl e_X10_periodGoes_33 ?_
        refine r_iald F (len := 8) (j := i) e_X10_periodGoes_34 h5245 (fun _ h => h) (by decide) (nI_clamp (by omega)) (vp_in_nI (by omega) (by decide)) (fun x5330 h5331 f5332 => ?_)
        refine m_i2l F e_X10_periodGoes_35 ?_
        refine Wm.topl (fun x5333 _ => ?_)
        refine m_aload_n F rfl e_X10_periodGoes_36 ?_
        refine r_getC F e_X10_periodGoes_37 fl_X10_59 h5245 (f5256) ?_
        refine m_sipush F (v := 744) (by decide) e_X10_periodGoes_40 ?_
        refine r_sld F (j := 744) e_X10_periodGoes_43 h5245 (by decide) (by unfold vp_in; decide) (fun x5334 h5335 f5336 => ?_)
        have hl5337 := hok1.1
        obtain rfl : x5334 = lN (L1 4).1 := EJ_p.mp h5335
        refine m_lcmp F e_X10_periodGoes_44 ?_
        refine Wm.top (fun x5338 _ => ?_)
        refine m_if_ne F e_X10_periodGoes_45 (fun q45 => ?_) (fun q45 => ?_)
        · refine m_aload_n F rfl e_X10_periodGoes_56 ?_
          refine m_iload_n F rfl e_X10_periodGoes_57 ?_
          refine r_callV F e_X10_periodGoes_58 (q_X10_isOn (x_l X) V c T Z u h P L1 _ _ i h5245.1 (hok1.b) hP (by omega)) cb_X10_isOn ml_X10_267 im_X10_isOn se_X10_isOn h5245 rfl rfl (rest := []) rfl (Nat.le_of_ble_eq_true rfl) ⟨Nat.le_of_ble_eq_true rfl, Nat.le_of_ble_eq_true rfl⟩ ⟨Nat.le_of_ble_eq_true rfl, Nat.le_of_ble_eq_true rfl⟩ (fun r σ5339 hp => ?_)
          obtain ⟨h5340, c5342⟩ := hp
          have h5341 := HS.trans h5245 h5340 (by decide)
          rcases c5342 with ⟨g5343, rfl⟩ | ⟨g5343, rfl⟩
          · refine m_if_eq F e_X10_periodGoes_61 (fun _ => ?_) (fun q => absurd (by decide) q)
            refine m_aload_n F rfl e_X10_periodGoes_103 ?_
            refine m_iload_n F rfl e_X10_periodGoes_104 ?_
            refine r_callV F e_X10_periodGoes_105 (q_X10_isOn (x_l X) V c T Z u h P L1 _ _ i h5341.1 (hok1.b) hP (by omega)) cb_X10_isOn ml_X10_267 im_X10_isOn se_X10_isOn h5341 rfl rfl (rest := []) rfl (Nat.le_of_ble_eq_true rfl) ⟨Nat.le_of_ble_eq_true rfl, Nat.le_of_ble_eq_true rfl⟩ ⟨Nat.le_of_ble_eq_true rfl, Nat.le_of_ble_eq_true rfl⟩ (fun r σ5344 hp => ?_)
            obtain ⟨h5345, c5347⟩ := hp
            have h5346 := HS.trans h5341 h5345 (by decide)
            rcases c5347 with ⟨g5348, rfl⟩ | ⟨g5348, rfl⟩
            · refine m_if_eq F e_X10_periodGoes_108 (fun _ => ?_) (fun q => absurd (by decide) q)
              refine m_iinc F (v := nI (i + 1)) (lv' := [(1, .int (nI (i + 1))), (2, .int (nI (160 * i))), (0, .ref c)]) e_X10_periodGoes_116 rfl (nI_add i 1) (by decide) rfl ?_
              refine m_goto F e_X10_periodGoes_119 ?_
              refine Wm.lvsub (lv' := [(1, .int (nI (i + 1))), (0, .ref c)]) ?_ [0, 2] rfl
              exact ih (i + 1) L1 _ h5346 hok1 (by omega) (by omega)
            · refine m_if_eq F e_X10_periodGoes_108 (fun q => absurd q (by decide)) (fun _ => ?_)
              refine m_aload_n F rfl e_X10_periodGoes_111 ?_
              refine m_iload_n F rfl e_X10_periodGoes_112 ?_
              refine r_callV F e_X10_periodGoes_113 (q_X10_pays (x_l X) V c T Z u h P L1 _ _ i h5346.1 (hok1) hP (by omega) (by first | omega | assumption | decide)) cb_X10_pays ml_X10_281 im_X10_pays se_X10_pays h5346 rfl rfl (rest := []) rfl (Nat.le_of_ble_eq_true rfl) ⟨Nat.le_of_ble_eq_true rfl, Nat.le_of_ble_eq_true rfl⟩ ⟨Nat.le_of_ble_eq_true rfl, Nat.le_of_ble_eq_true rfl⟩ (fun r σ5349 hp => ?_)
              obtain ⟨L5352, okL5352, r5353, h5350, rfl⟩ := hp
              have h5351 := HS.trans h5346 h5350 (by decide)
              refine m_iinc F (v := nI (i + 1)) (lv' := [(1, .int (nI (i + 1))), (2, .int (nI (160 * i))), (0, .ref c)]) e_X10_periodGoes_116 rfl (nI_add i 1) (by decide) rfl ?_
              refine m_goto F e_X10_periodGoes_119 ?_
              refine Wm.lvsub (lv' := [(1, .int (nI (i + 1))), (0, .ref c)]) ?_ [0, 2] rfl
              exact ih (i + 1) L5352 _ h5351 okL5352 (by omega) (by omega)
          · refine m_if_eq F e_X10_periodGoes_61 (fun q => absurd q (by decide)) (fun _ => ?_)
            refine m_aload_n F rfl e_X10_periodGoes_64 ?_
            refine m_iload_n F rfl e_X10_periodGoes_65 ?_
            refine r_callV F e_X10_periodGoes_66 (q_X10_isTied (x_l X) V c T Z u h P L1 _ _ i h5341.1 (hok1.b) hP (by omega)) cb_X10_isTied ml_X10_270 im_X10_isTied se_X10_isTied h5341 rfl rfl (rest := []) rfl (Nat.le_of_ble_eq_true rfl) ⟨Nat.le_of_ble_eq_true rfl, Nat.le_of_ble_eq_true rfl⟩ ⟨Nat.le_of_ble_eq_true rfl, Nat.le_of_ble_eq_true rfl⟩ (fun r σ5354 hp => ?_)
            obtain ⟨h5355, n5357, hn5357, rfl⟩ := hp
            have h5356 := HS.trans h5341 h5355 (by decide)
            refine m_if_eq F e_X10_periodGoes_69 (fun q69 => ?_) (fun q69 => ?_)
            · have c69 : n5357 = 0 := (nI_eq (a := n5357) (b := 0) (by omega) (by omega)).mp q69
              refine m_aload_n F rfl e_X10_periodGoes_103 ?_
              refine m_iload_n F rfl e_X10_periodGoes_104 ?_
              refine r_callV F e_X10_periodGoes_105 (q_X10_isOn (x_l X) V c T Z u h P L1 _ _ i h5356.1 (hok1.b) hP (by omega)) cb_X10_isOn ml_X10_267 im_X10_isOn se_X10_isOn h5356 rfl rfl (rest := []) rfl (Nat.le_of_ble_eq_true rfl) ⟨Nat.le_of_ble_eq_true rfl, Nat.le_of_ble_eq_true rfl⟩ ⟨Nat.le_of_ble_eq_true rfl, Nat.le_of_ble_eq_true rfl⟩ (fun r σ5358 hp => ?_)
              obtain ⟨h5359, c5361⟩ := hp
              have h5360 := HS.trans h5356 h5359 (by decide)
              rcases c5361 with ⟨g5362, rfl⟩ | ⟨g5362, rfl⟩
              · refine m_if_eq F e_X10_periodGoes_108 (fun _ => ?_) (fun q => absurd (by decide) q)
                refine m_iinc F (v := nI (i + 1)) (lv' := [(1, .int (nI (i + 1))), (2, .int (nI (160 * i))), (0, .ref c)]) e_X10_periodGoes_116 rfl (nI_add i 1) (by decide) rfl ?_
                refine m_goto F e_X10_periodGoes_119 ?_
                refine Wm.lvsub (lv' := [(1, .int (nI (i + 1))), (0, .ref c)]) ?_ [0, 2] rfl
                exact ih (i + 1) L1 _ h5360 hok1 (by omega) (by omega)
              · refine m_if_eq F e_X10_periodGoes_108 (fun q => absurd q (by decide)) (fun _ => ?_)
                refine m_aload_n F rfl e_X10_periodGoes_111 ?_
                refine m_iload_n F rfl e_X10_periodGoes_112 ?_
                refine r_callV F e_X10_periodGoes_113 (q_X10_pays (x_l X) V c T Z u h P L1 _ _ i h5360.1 (hok1) hP (by omega) (by first | omega | assumption | decide)) cb_X10_pays ml_X10_281 im_X10_pays se_X10_pays h5360 rfl rfl (rest := []) rfl (Nat.le_of_ble_eq_true rfl) ⟨Nat.le_of_ble_eq_true rfl, Nat.le_of_ble_eq_true rfl⟩ ⟨Nat.le_of_ble_eq_true rfl, Nat.le_of_ble_eq_true rfl⟩ (fun r σ5363 hp => ?_)
                obtain ⟨L5366, okL5366, r5367, h5364, rfl⟩ := hp
                have h5365 := HS.trans h5360 h5364 (by decide)
                refine m_iinc F (v := nI (i + 1)) (lv' := [(1, .int (nI (i + 1))), (2, .int (nI (160 * i))), (0, .ref c)]) e_X10_periodGoes_116 rfl (nI_add i 1) (by decide) rfl ?_
                refine m_goto F e_X10_periodGoes_119 ?_
                refine Wm.lvsub (lv' := [(1, .int (nI (i + 1))), (0, .ref c)]) ?_ [0, 2] rfl
                exact ih (i + 1) L5366 _ h5365 okL5366 (by omega) (by omega)
            · have c69 : n5357 ≠ 0 := by have hh := mt (nI_eq (a := n5357) (b := 0) (by omega) (by omega)).mpr q69; omega
              refine m_aload_n F rfl e_X10_periodGoes_72 ?_
              refine r_callV F e_X10_periodGoes_73 (q_X10_indexNow (x_l X) V c T Z u h P L1 _ _  h5356.1 (hok1.b) hP ) cb_X10_indexNow ml_X10_260 im_X10_indexNow se_X10_indexNow h5356 rfl rfl (rest := []) rfl (Nat.le_of_ble_eq_true rfl) ⟨Nat.le_of_ble_eq_true rfl, Nat.le_of_ble_eq_true rfl⟩ ⟨Nat.le_of_ble_eq_true rfl, Nat.le_of_ble_eq_true rfl⟩ (fun r σ5368 hp => ?_)
              obtain ⟨h5369, n5371, hn5371, gn5371, rfl⟩ := hp
              have h5370 := HS.trans h5356 h5369 (by decide)
              refine m_aload_n F rfl e_X10_periodGoes_76 ?_
              refine r_getC F e_X10_periodGoes_77 fl_X10_59 h5370 ((fld_eq (h5369.2 c (by rw [show kC c c = 1 from kC_at (k := 0) (by decide)]; decide))).trans ((fld_eq (h5355.2 c (by rw [show kC c c = 1 from kC_at (k := 0) (by decide)]; decide))).trans ((fld_eq (h5340.2 c (by rw [show kC c c = 1 from kC_at (k := 0) (by decide)]; decide))).trans f5256))) ?_
              refine m_iload_n F rfl e_X10_periodGoes_80 ?_
              refine m_iconst F (v := 4) (by decide) e_X10_periodGoes_81 ?_
              refine m_iadd F e_X10_periodGoes_82 ?_
              refine Wm.topE (w := nI (160 * i + 4)) (nI_add (160 * i) 4) ?_
              refine r_sld F (j := 160 * i + 4) e_X10_periodGoes_83 h5370 (nI_clamp (by omega)) (vp_in_nI (by omega) (by decide)) (fun x5372 h5373 f5374 => ?_)
              refine m_lcmp F e_X10_periodGoes_84 ?_
              refine Wm.top (fun x5375 _ => ?_)
              refine m_if_eq F e_X10_periodGoes_85 (fun q85 => ?_) (fun q85 => ?_)
              · subst q85
                refine m_aload_n F rfl e_X10_periodGoes_103 ?_
                refine m_iload_n F rfl e_X10_periodGoes_104 ?_
                refine r_callV F e_X10_periodGoes_105 (q_X10_isOn (x_l X) V c T Z u h P L1 _ _ i h5370.1 (hok1.b) hP (by omega)) cb_X10_isOn ml_X10_267 im_X10_isOn se_X10_isOn h5370 rfl rfl (rest := []) rfl (Nat.le_of_ble_eq_true rfl) ⟨Nat.le_of_ble_eq_true rfl, Nat.le_of_ble_eq_true rfl⟩ ⟨Nat.le_of_ble_eq_true rfl, Nat.le_of_ble_eq_true rfl⟩ (fun r σ5376 hp => ?_)
                obtain ⟨h5377, c5379⟩ := hp
                have h5378 := HS.trans h5370 h5377 (by decide)
                rcases c5379 with ⟨g5380, rfl⟩ | ⟨g5380, rfl⟩
                · refine m_if_eq F e_X10_periodGoes_108 (fun _ => ?_) (fun q => absurd (by decide) q)
                  refine m_iinc F (v := nI (i + 1)) (lv' := [(1, .int (nI (i + 1))), (2, .int (nI (160 * i))), (0, .ref c)]) e_X10_periodGoes_116 rfl (nI_add i 1) (by decide) rfl ?_
                  refine m_goto F e_X10_periodGoes_119 ?_
                  refine Wm.lvsub (lv' := [(1, .int (nI (i + 1))), (0, .ref c)]) ?_ [0, 2] rfl
                  exact ih (i + 1) L1 _ h5378 hok1 (by omega) (by omega)
                · refine m_if_eq F e_X10_periodGoes_108 (fun q => absurd q (by decide)) (fun _ => ?_)
                  refine m_aload_n F rfl e_X10_periodGoes_111 ?_
                  refine m_iload_n F rfl e_X10_periodGoes_112 ?_
                  refine r_callV F e_X10_periodGoes_113 (q_X10_pays (x_l X) V c T Z u h P L1 _ _ i h5378.1 (hok1) hP (by omega) (by first | omega | assumption | decide)) cb_X10_pays ml_X10_281 im_X10_pays se_X10_pays h5378 rfl rfl (rest := []) rfl (Nat.le_of_ble_eq_true rfl) ⟨Nat.le_of_ble_eq_true rfl, Nat.le_of_ble_eq_true rfl⟩ ⟨Nat.le_of_ble_eq_true rfl, Nat.le_of_ble_eq_true rfl⟩ (fun r σ5381 hp => ?_)
                  obtain ⟨L5384, okL5384, r5385, h5382, rfl⟩ := hp
                  have h5383 := HS.trans h5378 h5382 (by decide)
                  refine m_iinc F (v := nI (i + 1)) (lv' := [(1, .int (nI (i + 1))), (2, .int (nI (160 * i))), (0, .ref c)]) e_X10_periodGoes_116 rfl (nI_add i 1) (by decide) rfl ?_
                  refine m_goto F e_X10_periodGoes_119 ?_
                  refine Wm.lvsub (lv' := [(1, .int (nI (i + 1))), (0, .ref c)]) ?_ [0, 2] rfl
                  exact ih (i + 1) L5384 _ h5383 okL5384 (by omega) (by omega)
              · refine m_aload_n F rfl e_X10_periodGoes_88 ?_
                refine m_iload_n F rfl e_X10_periodGoes_89 ?_
                refine m_aload_n F rfl e_X10_periodGoes_90 ?_
                refine r_callV F e_X10_periodGoes_91 (q_X10_indexNow (x_l X) V c T Z u h P L1 _ _  h5370.1 (hok1.b) hP ) cb_X10_indexNow ml_X10_260 im_X10_indexNow se_X10_indexNow h5370 rfl rfl (rest := [.int (nI i), .ref c]) rfl (Nat.le_of_ble_eq_true rfl) ⟨Nat.le_of_ble_eq_true rfl, Nat.le_of_ble_eq_true rfl⟩ ⟨Nat.le_of_ble_eq_true rfl, Nat.le_of_ble_eq_true rfl⟩ (fun r σ5386 hp => ?_)
                obtain ⟨h5387, n5389, hn5389, gn5389, rfl⟩ := hp
                have h5388 := HS.trans h5370 h5387 (by decide)
                refine r_callV F e_X10_periodGoes_94 (q_X10_indexes (x_l X) V c T Z u h P L1 _ _ i n5389 h5388.1 (hok1.b) hP (by omega) (by omega) (by first | omega | assumption | decide)) cb_X10_indexes ml_X10_273 im_X10_indexes se_X10_indexes h5388 rfl rfl (rest := []) rfl (Nat.le_of_ble_eq_true rfl) ⟨Nat.le_of_ble_eq_true rfl, Nat.le_of_ble_eq_true rfl⟩ ⟨Nat.le_of_ble_eq_true rfl, Nat.le_of_ble_eq_true rfl⟩ (fun r σ5390 hp => ?_)
                obtain ⟨h5391, rfl⟩ := hp
                have h5392 := HS.trans h5388 h5391 (by decide)
                refine m_aload_n F rfl e_X10_periodGoes_97 ?_
                refine m_iload_n F rfl e_X10_periodGoes_98 ?_
                refine r_callV F e_X10_periodGoes_99 (q_X10_remeasures (x_l X) V c T Z u h P L1 _ _ i h5392.1 (hok1.b) hP (by omega)) cb_X10_remeasures ml_X10_277 im_X10_remeasures se_X10_remeasures h5392 rfl rfl (rest := []) rfl (Nat.le_of_ble_eq_true rfl) ⟨Nat.le_of_ble_eq_true rfl, Nat.le_of_ble_eq_true rfl⟩ ⟨Nat.le_of_ble_eq_true rfl, Nat.le_of_ble_eq_true rfl⟩ (fun r σ5393 hp => ?_)
                obtain ⟨h5394, x5396, rfl⟩ := hp
                have h5395 := HS.trans h5392 h5394 (by decide)
                refine m_pop2_2 F rfl e_X10_periodGoes_102 ?_
                refine m_aload_n F rfl e_X10_periodGoes_103 ?_
                refine m_iload_n F rfl e_X10_periodGoes_104 ?_
                refine r_callV F e_X10_periodGoes_105 (q_X10_isOn (x_l X) V c T Z u h P L1 _ _ i h5395.1 (hok1.b) hP (by omega)) cb_X10_isOn ml_X10_267 im_X10_isOn se_X10_isOn h5395 rfl rfl (rest := []) rfl (Nat.le_of_ble_eq_true rfl) ⟨Nat.le_of_ble_eq_true rfl, Nat.le_of_ble_eq_true rfl⟩ ⟨Nat.le_of_ble_eq_true rfl, Nat.le_of_ble_eq_true rfl⟩ (fun r σ5397 hp => ?_)
                obtain ⟨h5398, c5400⟩ := hp
                have h5399 := HS.trans h5395 h5398 (by decide)
                rcases c5400 with ⟨g5401, rfl⟩ | ⟨g5401, rfl⟩
                · refine m_if_eq F e_X10_periodGoes_108 (fun _ => ?_) (fun q => absurd (by decide) q)
                  refine m_iinc F (v := nI (i + 1)) (lv' := [(1, .int (nI (i + 1))), (2, .int (nI (160 * i))), (0, .ref c)]) e_X10_periodGoes_116 rfl (nI_add i 1) (by decide) rfl ?_
                  refine m_goto F e_X10_periodGoes_119 ?_
                  refine Wm.lvsub (lv' := [(1, .int (nI (i + 1))), (0, .ref c)]) ?_ [0, 2] rfl
                  exact ih (i + 1) L1 _ h5399 hok1 (by omega) (by omega)
                · refine m_if_eq F e_X10_periodGoes_108 (fun q => absurd q (by decide)) (fun _ => ?_)
                  refine m_aload_n F rfl e_X10_periodGoes_111 ?_
                  refine m_iload_n F rfl e_X10_periodGoes_112 ?_
                  refine r_callV F e_X10_periodGoes_113 (q_X10_pays (x_l X) V c T Z u h P L1 _ _ i h5399.1 (hok1) hP (by omega) (by first | omega | assumption | decide)) cb_X10_pays ml_X10_281 im_X10_pays se_X10_pays h5399 rfl rfl (rest := []) rfl (Nat.le_of_ble_eq_true rfl) ⟨Nat.le_of_ble_eq_true rfl, Nat.le_of_ble_eq_true rfl⟩ ⟨Nat.le_of_ble_eq_true rfl, Nat.le_of_ble_eq_true rfl⟩ (fun r σ5402 hp => ?_)
                  obtain ⟨L5405, okL5405, r5406, h5403, rfl⟩ := hp
                  have h5404 := HS.trans h5399 h5403 (by decide)
                  refine m_iinc F (v := nI (i + 1)) (lv' := [(1, .int (nI (i + 1))), (2, .int (nI (160 * i))), (0, .ref c)]) e_X10_periodGoes_116 rfl (nI_add i 1) (by decide) rfl ?_
                  refine m_goto F e_X10_periodGoes_119 ?_
                  refine Wm.lvsub (lv' := [(1, .int (nI (i + 1))), (0, .ref c)]) ?_ [0, 2] rfl
                  exact ih (i + 1) L5405 _ h5404 okL5405 (by omega) (by omega)
        · subst q45
          refine m_aload_n F rfl e_X10_periodGoes_48 ?_
          refine m_iload_n F rfl e_X10_periodGoes_49 ?_
          refine r_callV F e_X10_periodGoes_50 (q_X10_starts1 (x_l X) V c T Z u h P L1 _ _ i h5245.1 (hok1) hP (by omega) (by first | omega | assumption | decide) (by first | omega | assumption | decide)) cb_X10_starts1 ml_X10_264 im_X10_starts1 se_X10_starts1 h5245 rfl rfl (rest := []) rfl (Nat.le_of_ble_eq_true rfl) ⟨Nat.le_of_ble_eq_true rfl, Nat.le_of_ble_eq_true rfl⟩ ⟨Nat.le_of_ble_eq_true rfl, Nat.le_of_ble_eq_true rfl⟩ (fun r σ5407 hp => ?_)
          obtain ⟨L5410, okL5410, r5411, h5408, rfl⟩ := hp
          have h5409 := HS.trans h5245 h5408 (by decide)
          refine m_goto F e_X10_periodGoes_53 ?_
          refine m_aload_n F rfl e_X10_periodGoes_103 ?_
          refine m_iload_n F rfl e_X10_periodGoes_104 ?_
          refine r_callV F e_X10_periodGoes_105 (q_X10_isOn (x_l X) V c T Z u h P L5410 _ _ i h5409.1 (okL5410.b) hP (by omega)) cb_X10_isOn ml_X10_267 im_X10_isOn se_X10_isOn h5409 rfl rfl (rest := []) rfl (Nat.le_of_ble_eq_true rfl) ⟨Nat.le_of_ble_eq_true rfl, Nat.le_of_ble_eq_true rfl⟩ ⟨Nat.le_of_ble_eq_true rfl, Nat.le_of_ble_eq_true rfl⟩ (fun r σ5412 hp => ?_)
          obtain ⟨h5413, c5415⟩ := hp
          have h5414 := HS.trans h5409 h5413 (by decide)
          rcases c5415 with ⟨g5416, rfl⟩ | ⟨g5416, rfl⟩
          · refine m_if_eq F e_X10_periodGoes_108 (fun _ => ?_) (fun q => absurd (by decide) q)
            refine m_iinc F (v := nI (i + 1)) (lv' := [(1, .int (nI (i + 1))), (2, .int (nI (160 * i))), (0, .ref c)]) e_X10_periodGoes_116 rfl (nI_add i 1) (by decide) rfl ?_
            refine m_goto F e_X10_periodGoes_119 ?_
            refine Wm.lvsub (lv' := [(1, .int (nI (i + 1))), (0, .ref c)]) ?_ [0, 2] rfl
            exact ih (i + 1) L5410 _ h5414 okL5410 (by omega) (by omega)
          · refine m_if_eq F e_X10_periodGoes_108 (fun q => absurd q (by decide)) (fun _ => ?_)
            refine m_aload_n F rfl e_X10_periodGoes_111 ?_
            refine m_iload_n F rfl e_X10_periodGoes_112 ?_
            refine r_callV F e_X10_periodGoes_113 (q_X10_pays (x_l X) V c T Z u h P L5410 _ _ i h5414.1 (okL5410) hP (by omega) (by first | omega | assumption | decide)) cb_X10_pays ml_X10_281 im_X10_pays se_X10_pays h5414 rfl rfl (rest := []) rfl (Nat.le_of_ble_eq_true rfl) ⟨Nat.le_of_ble_eq_true rfl, Nat.le_of_ble_eq_true rfl⟩ ⟨Nat.le_of_ble_eq_true rfl, Nat.le_of_ble_eq_true rfl⟩ (fun r σ5417 hp => ?_)
            obtain ⟨L5420, okL5420, r5421, h5418, rfl⟩ := hp
            have h5419 := HS.trans h5414 h5418 (by decide)
            refine m_iinc F (v := nI (i + 1)) (lv' := [(1, .int (nI (i + 1))), (2, .int (nI (160 * i))), (0, .ref c)]) e_X10_periodGoes_116 rfl (nI_add i 1) (by decide) rfl ?_
            refine m_goto F e_X10_periodGoes_119 ?_
            refine Wm.lvsub (lv' := [(1, .int (nI (i + 1))), (0, .ref c)]) ?_ [0, 2] rfl
            exact ih (i + 1) L5420 _ h5419 okL5420 (by omega) (by omega)
set_option maxRecDepth 20000 in
theorem q_X10_periodGoes (l : Launch) (V : VX) (c T Z u h : Nat) (P : NP) (L : Nat → LQ) (N : Nat) (σ : Mem)  (h0 : HR V c ⟨T, Z, u, h, P, L⟩ σ) (hok : OKL P.n0 L) (hP : OKP P) (hp0 : (L 4).1 ≤ 98) : Ct l V yX10_periodGoes cX10_periodGoes 3 none 3 0 0 N σ [.ref c] (fun r τ => ∃ L9, OKL P.n0 L9 ∧ (L9 4).1 = (L 4).1 + 1 ∧ HS V c (⟨T, Z, u, h, P, L9⟩ : RG) [0, 1, 2, 3, 4, 5, 6, 7, 8, 9, 10, 11, 12, 13, 14, 15, 16, 18, 19, 20, 21, 22] σ τ ∧ r = none) := by
  refine Ct.of (by decide) (Nat.le_of_ble_eq_true rfl) [(0, .ref c)] rfl (fun X hX F hQ => ?_)
  have hPP := hP
  unfold OKP at hPP
  have h1 : HS V c ⟨T, Z, u, h, P, L⟩ [0, 1, 2, 3, 4, 5, 6, 7, 8, 9, 10, 11, 12, 13, 14, 15, 16, 18, 19, 20, 21, 22] σ σ := HS.start h0
  refine m_iconst F (v := 0) (by decide) e_X10_periodGoes_0 ?_
  refine m_istore_n F (lv' := [(1, .int 0), (0, .ref c)]) e_X10_periodGoes_1 (by decide) rfl ?_
  exact lq_X10_periodGoes_2 F hQ hok hP hp0 (4 - 0 + 1) 0 L _ h1 hok (by omega) (Nat.lt_succ_self _)
set_option maxRecDepth 20000 in
theorem lq_X10_adds_10 {V : VX} {X : MX} {N : Nat} {σ : Mem} {c T Z u h : Nat} {P : NP} {L : Nat → LQ}  {n901 : Nat} {n902 : Nat} {x903 : Int64} {x904 : Int64} (F : Fx V X yX10_adds cX10_adds 9 none (rmd 0 0 0)) (hQ : Rt V X 0 0 N (fun r τ => ∃ L9, OKL P.n0 L9 ∧ (L9 n901).1 = (L n901).1 ∧ (L9 n901).2.2.1 = (L n901).2.2.1 ∧ (L9 4).1 = (L 4).1 ∧ HS V c (⟨T, Z, u, h, P, L9⟩ : RG) [0, 1, 2, 3, 4, 5, 6, 7, 8, 9, 10, 11, 12, 13, 14, 15, 16, 18, 19, 20, 21, 22, 23] σ τ ∧ r = none)) (hok : OKL P.n0 L) (hP : OKP P) (hn901 : n901 ≤ 3) (hn902 : n902 ≤ 24) (hp0 : (L n901).2.1 + n902 ≤ 72)  : ∀ (fuel : Nat) (i : Nat) (L1 : Nat → LQ) (τ : Mem), HS V c (⟨T, Z, u, h, P, L1⟩ : RG) [0, 1, 2, 3, 4, 5, 6, 7, 8, 9, 10, 11, 12, 13, 14, 15, 16, 18, 19, 20, 21, 22, 23] σ τ → OKL P.n0 L1 → i ≤ n902 ∧ (L1 n901).2.1 + n902 ≤ 72 + i ∧ (L1 n901).1 = (L n901).1 ∧ (L1 n901).2.2.1 = (L n901).2.2.1 ∧ (L1 4).1 = (L 4).1 → n902 - i < fuel → Wm V X 9 N τ 0 0 10 [(8, .int (nI i)), (7, .int (nI (160 * n901))), (0, .ref c), (1, .int (nI n901)), (2, .int (nI n902)), (3, .long x903), (5, .long x904)] [] := by
  intro fuel
  induction fuel with
  | zero => intros; rename_i hm; exact absurd hm (Nat.not_lt_zero _)
  | succ fuel ih =>
    intro i L1 τ h1 hok1 hi hm
    have hPP := hP
    unfold OKP at hPP
    refine m_iload F rfl e_X10_adds_10 ?_
    refine m_iload_n F rfl e_X10_adds_12 ?_
    refine m_icmp_ge F e_X10_adds_13 (fun q13 => ?_) (fun q13 => ?_)
    · have c13 : i ≥ n902 := (nI_leI (a := n902) (b := i) (by omega) (by omega)).mp q13
      exact m_vret F hQ e_X10_adds_80 (⟨L1, hok1, (by first | omega | rfl | assumption), (by first | omega | rfl | assumption), (by first | omega | rfl | assumption), h1, rfl⟩)
    · have c13 : i < n902 := by have hh := mt (nI_leI (a := n902) (b := i) (by omega) (by omega)).mpr q13; omega
      refine m_aload_n F rfl e_X10_adds_16 ?_
      refine r_get F e_X10_adds_17 fl_X10_59 h1 rfl (fun v hv f5422 => ?_)
      obtain rfl : v = .ref (c + 16) := hv
      refine m_iload F rfl e_X10_adds_20 ?_
      refine m_bipush F (v := 13) (by decide) e_X10_adds_22 ?_
      refine m_iadd F e_X10_adds_24 ?_
      refine Wm.topE (w := nI (160 * n901 + 13)) (nI_add (160 * n901) 13) ?_
      refine m_aload_n F rfl e_X10_adds_25 ?_
      refine r_getC F e_X10_adds_26 fl_X10_59 h1 (f5422) ?_
      refine m_iload F rfl e_X10_adds_29 ?_
      refine m_iconst F (v := 1) (by decide) e_X10_adds_31 ?_
      refine m_iadd F e_X10_adds_32 ?_
      refine Wm.topE (w := nI (160 * n901 + 1)) (nI_add (160 * n901) 1) ?_
      refine r_sld F (j := 160 * n901 + 1) e_X10_adds_33 h1 (nI_clamp (by omega)) (vp_in_nI (by omega) (by decide)) (fun x5423 h5424 f5425 => ?_)
      have hl5426 := hok1.2 n901 (by omega)
      obtain rfl : x5423 = lN (L1 n901).2.1 := (EJ_l (l := n901) (r := 1) (by omega) (by decide)).mp h5424
      refine m_l2i F e_X10_adds_34 ?_
      refine Wm.topE (w := nI ((L1 n901).2.1)) (lN_i ((L1 n901).2.1)) ?_
      refine m_iadd F e_X10_adds_35 ?_
      refine Wm.topE (w := nI ((160 * n901 + 13) + ((L1 n901).2.1))) (nI_add (160 * n901 + 13) ((L1 n901).2.1)) ?_
      refine m_lload_n F rfl e_X10_adds_36 ?_
      refine r_sst F (g' := (⟨T, Z, u, h, P, L1⟩ : RG)) (j := (160 * n901 + 13) + ((L1 n901).2.1)) e_X10_adds_37 h1 (by decide) (nI_clamp (by omega)) (vp_in_nI (by omega) (by decide)) (fun f q => EJ_same (EJ_lw (l := n901) (r := ((160 * n901 + 13) + ((L1 n901).2.1)) - 160 * n901) (by omega) (by omega) (by omega)) q) (fun _ _ _ q => q) (fun σ5427 h5428 g5429 => ?_)
      refine m_aload_n F rfl e_X10_adds_38 ?_
      refine r_getC F e_X10_adds_39 fl_X10_59 h5428 ((fld_eq (g5429 _ (by omega))).trans f5422) ?_
      refine m_iload F rfl e_X10_adds_42 ?_
      refine m_bipush F (v := 85) (by decide) e_X10_adds_44 ?_
      refine m_iadd F e_X10_adds_46 ?_
      refine Wm.topE (w := nI (160 * n901 + 85)) (nI_add (160 * n901) 85) ?_
      refine m_aload_n F rfl e_X10_adds_47 ?_
      refine r_getC F e_X10_adds_48 fl_X10_59 h5428 ((fld_eq (g5429 _ (by omega))).trans f5422) ?_
      refine m_iload F rfl e_X10_adds_51 ?_
      refine m_iconst F (v := 1) (by decide) e_X10_adds_53 ?_
      refine m_iadd F e_X10_adds_54 ?_
      refine Wm.topE (w := nI (160 * n901 + 1)) (nI_add (160 * n901) 1) ?_
      refine r_sld F (j := 160 * n901 + 1) e_X10_adds_55 h5428 (nI_clamp (by omega)) (vp_in_nI (by omega) (by decide)) (fun x5430 h5431 f5432 => ?_)
      have hl5433 := hok1.2 n901 (by omega)
      obtain rfl : x5430 = lN (L1 n901).2.1 := (EJ_l (l := n901) (r := 1) (by omega) (by decide)).mp h5431
      refine m_l2i F e_X10_adds_56 ?_
      refine Wm.topE (w := nI ((L1 n901).2.1)) (lN_i ((L1 n901).2.1)) ?_
      refine m_iadd F e_X10_adds_57 ?_
      refine Wm.topE (w := nI ((160 * n901 + 85) + ((L1 n901).2.1))) (nI_add (160 * n901 + 85) ((L1 n901).2.1)) ?_
      refine m_lload F rfl e_X10_adds_58 ?_
      refine r_sst F (g' := (⟨T, Z, u, h, P, L1⟩ : RG)) (j := (160 * n901 + 85) + ((L1 n901).2.1)) e_X10_adds_60 h5428 (by decide) (nI_clamp (by omega)) (vp_in_nI (by omega) (by decide)) (fun f q => EJ_same (EJ_lw (l := n901) (r := ((160 * n901 + 85) + ((L1 n901).2.1)) - 160 * n901) (by omega) (by omega) (by omega)) q) (fun _ _ _ q => q) (fun σ5434 h5435 g5436 => ?_)
      refine m_aload_n F rfl e_X10_adds_61 ?_
      refine r_getC F e_X10_adds_62 fl_X10_59 h5435 ((fld_eq (g5436 _ (by omega))).trans ((fld_eq (g5429 _ (by omega))).trans f5422)) ?_
      refine m_iload F rfl e_X10_adds_65 ?_
      refine m_iconst F (v := 1) (by decide) e_X10_adds_67 ?_
      refine m_iadd F e_X10_adds_68 ?_
      refine Wm.topE (w := nI (160 * n901 + 1)) (nI_add (160 * n901) 1) ?_
      refine m_dup2_11 F rfl rfl e_X10_adds_69 ?_
      refine r_sld F (j := 160 * n901 + 1) e_X10_adds_70 h5435 (nI_clamp (by omega)) (vp_in_nI (by omega) (by decide)) (fun x5437 h5438 f5439 => ?_)
      have hl5440 := hok1.2 n901 (by omega)
      obtain rfl : x5437 = lN (L1 n901).2.1 := (EJ_l (l := n901) (r := 1) (by omega) (by decide)).mp h5438
      refine m_lconst F (v := 1) (by decide) e_X10_adds_71 ?_
      refine m_ladd F e_X10_adds_72 ?_
      refine Wm.toplE (w := lN ((L1 n901).2.1 + 1)) (lN_add ((L1 n901).2.1) 1) ?_
      refine r_sst F (g' := (⟨T, Z, u, h, P, (updL L1 n901 ((L1 n901).1, (L1 n901).2.1 + 1, (L1 n901).2.2.1, (L1 n901).2.2.2))⟩ : RG)) (j := 160 * n901 + 1) e_X10_adds_73 h5435 (by decide) (nI_clamp (by omega)) (vp_in_nI (by omega) (by decide)) (fun f q => EJ_up (l := n901) (r := 1) (by omega) (by decide) q rfl (by intro r' h1 h2 y hy; revert hy; unfold EL; split <;> simp_all)) CR.row (fun σ5441 h5442 g5443 => ?_)
      obtain ⟨L5444, eL5444⟩ : ∃ L9, L9 = (updL L1 n901 ((L1 n901).1, (L1 n901).2.1 + 1, (L1 n901).2.2.1, (L1 n901).2.2.2)) := ⟨_, rfl⟩
      rw [← eL5444] at h5442
      have fL5444 : L5444 n901 = ((L1 n901).1, (L1 n901).2.1 + 1, (L1 n901).2.2.1, (L1 n901).2.2.2) := by rw [eL5444]; exact if_pos rfl
      have fL54440 : (L5444 n901).1 = (L1 n901).1 := by rw [fL5444]
      have fL54441 : (L5444 n901).2.1 = (L1 n901).2.1 + 1 := by rw [fL5444]
      have fL54442 : (L5444 n901).2.2.1 = (L1 n901).2.2.1 := by rw [fL5444]
      have fL54443 : (L5444 n901).2.2.2 = (L1 n901).2.2.2 := by rw [fL5444]
      have oL5444 : ∀ i, i ≠ n901 → L5444 i = L1 i := fun i hi => by rw [eL5444]; exact if_neg hi
      have pL5444 : (L5444 4).1 = (L1 4).1 := by rw [oL5444 4 (by omega)]
      refine m_iinc F (v := nI (i + 1)) (lv' := [(8, .int (nI (i + 1))), (7, .int (nI (160 * n901))), (0, .ref c), (1, .int (nI n901)), (2, .int (nI n902)), (3, .long x903), (5, .long x904)]) e_X10_adds_74 rfl (nI_add i 1) (by decide) rfl ?_
      refine m_goto F e_X10_adds_77 ?_
      have ok5445 : OKL P.n0 L5444 := OKL.upd hok1 (l := n901) (by omega) (fun i hi => (oL5444 i hi)) (by have h9 := hok1.2 n901 (by omega); omega)
      exact ih (i + 1) L5444 _ h5442 ok5445 (by omega) (by omega)
set_option maxRecDepth 20000 in
theorem q_X10_adds (l : Launch) (V : VX) (c T Z u h : Nat) (P : NP) (L : Nat → LQ) (N : Nat) (σ : Mem) (n901 : Nat) (n902 : Nat) (x903 : Int64) (x904 : Int64) (h0 : HR V c ⟨T, Z, u, h, P, L⟩ σ) (hok : OKL P.n0 L) (hP : OKP P) (hn901 : n901 ≤ 3) (hn902 : n902 ≤ 24) (hp0 : (L n901).2.1 + n902 ≤ 72) : Ct l V yX10_adds cX10_adds 9 none 0 0 0 N σ [.ref c, .int (nI n901), .int (nI n902), .long x903, .long x904] (fun r τ => ∃ L9, OKL P.n0 L9 ∧ (L9 n901).1 = (L n901).1 ∧ (L9 n901).2.2.1 = (L n901).2.2.1 ∧ (L9 4).1 = (L 4).1 ∧ HS V c (⟨T, Z, u, h, P, L9⟩ : RG) [0, 1, 2, 3, 4, 5, 6, 7, 8, 9, 10, 11, 12, 13, 14, 15, 16, 18, 19, 20, 21, 22, 23] σ τ ∧ r = none) := by
  refine Ct.of (by decide) (Nat.le_of_ble_eq_true rfl) [(0, .ref c), (1, .int (nI n901)), (2, .int (nI n902)), (3, .long x903), (5, .long x904)] rfl (fun X hX F hQ => ?_)
  have hPP := hP
  unfold OKP at hPP
  have h1 : HS V c ⟨T, Z, u, h, P, L⟩ [0, 1, 2, 3, 4, 5, 6, 7, 8, 9, 10, 11, 12, 13, 14, 15, 16, 18, 19, 20, 21, 22, 23] σ σ := HS.start h0
  refine m_sipush F (v := 160) (by decide) e_X10_adds_0 ?_
  refine m_iload_n F rfl e_X10_adds_3 ?_
  refine m_imul F e_X10_adds_4 ?_
  refine Wm.topE (w := nI (160 * n901)) (pk_mul 160 n901) ?_
  refine m_istore F (lv' := [(7, .int (nI (160 * n901))), (0, .ref c), (1, .int (nI n901)), (2, .int (nI n902)), (3, .long x903), (5, .long x904)]) e_X10_adds_5 (by decide) rfl ?_
  refine m_iconst F (v := 0) (by decide) e_X10_adds_7 ?_
  refine m_istore F (lv' := [(8, .int 0), (7, .int (nI (160 * n901))), (0, .ref c), (1, .int (nI n901)), (2, .int (nI n902)), (3, .long x903), (5, .long x904)]) e_X10_adds_8 (by decide) rfl ?_
  exact lq_X10_adds_10 F hQ hok hP hn901 hn902 hp0 (n902 - 0 + 1) 0 L _ h1 hok (by omega) (Nat.lt_succ_self _)
