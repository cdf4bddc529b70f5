theorem kc_nI {i : Nat} (h : i < 9) : kcL.getD i 0 = nI (kcN.getD i 0) := by
  have key : ∀ i, i < 9 → kcL.getD i 0 = nI (kcN.getD i 0) := by decide
  exact key i h
theorem kc_b {i : Nat} (h : i < 9) : kcN.getD i 0 < 1073741824 := by
  have key : ∀ i, i < 9 → kcN.getD i 0 < 1073741824 := by decide
  exact key i h
theorem kix_hit {c i : Nat} (h : i < 9) (e : kcN.getD i 0 = c) : kix c = i := by
  have key : ∀ i, i < 9 → kix (kcN.getD i 0) = i := by decide
  rw [← e]; exact key i h
theorem kix_no {c : Nat} (h : ∀ j, j < 9 → kcN.getD j 0 ≠ c) : ¬ kix c < 9 := by
  intro hlt
  have hl : kcN.findIdx (fun x => x == c) < kcN.length := hlt
  have h1 := List.findIdx_getElem (w := hl)
  have h2 : kcN[kcN.findIdx (fun x => x == c)]'hl = c := by simpa using h1
  refine h _ hlt ?_
  show kcN.getD (kcN.findIdx (fun x => x == c)) 0 = c
  rw [List.getD_eq_getElem?_getD, List.getElem?_eq_getElem hl]
  exact h2
set_option maxRecDepth 20000 in
theorem lp_X7_kindOfE_2 {V : VX} {G : GH} {X : MX} {b M Z T N : Nat} {σ : Mem} {a : Nat} {n901 : Nat}  (F : Fx V X yX7_kindOf cX7_kindOf 3 (some (.object "LeaseLedger$Kind")) (rmd 0 0 0)) (hQ : Rt V X 0 0 N (fun r τ => HK V G (b, M, Z, T) [0, 1, 2, 3, 4, 5, 6, 7, 8, 9, 10, 11, 12, 13, 14, 15, 16, 17, 18, 19] σ τ ∧ ((kix n901 < 9 ∧ r = some (.ref (adK V (kix n901)))) ∨ (¬ kix n901 < 9 ∧ r = some .null)))) (hk : kA b a = 3) (hn901 : n901 ≤ 1073741823) (hM : M + 0 ≤ 1000000000)  : ∀ (fuel : Nat) (i : Nat) (τ : Mem), HK V G (b, M, Z, T) [0, 1, 2, 3, 4, 5, 6, 7, 8, 9, 10, 11, 12, 13, 14, 15, 16, 17, 18, 19] σ τ → (i ≤ 9 ∧ ∀ j, j < i → kcN.getD j 0 ≠ n901) → 9 - i < fuel → Wm V X 3 N τ 0 0 2 [(2, .int (nI i)), (0, .ref a), (1, .int (nI n901))] [] := by
  intro fuel
  induction fuel with
  | zero => intro i τ h1 hi hm; exact absurd hm (Nat.not_lt_zero _)
  | succ fuel ih =>
    intro i τ h1 hi hm
    refine m_iload_n F rfl e_X7_kindOf_2 ?_
    refine m_gsN F e_X7_kindOf_3 F.sw.2.2.2.1.1 (F.ku.2.1 (.fieldLinkNest RX7 200 RX9 "KINDS" "[LLeaseLedger$Kind;" RX9) (by simp [nestW])) ?_
    refine m_tlen F e_X7_kindOf_6 F.sw.2.2.2.1.2 (v := 9) (by decide) ?_
    refine m_icmp_ge F e_X7_kindOf_7 (fun q7 => ?_) (fun q7 => ?_)
    · have c7 : i ≥ 9 := (nI_leI (a := 9) (b := i) (by omega) (by omega)).mp q7
      refine m_null F e_X7_kindOf_34 ?_
      exact m_aret F hQ e_X7_kindOf_35 (Or.inl rfl) (⟨h1, Or.inr ⟨kix_no (fun j hj => hi.2 j (by omega)), rfl⟩⟩)
    · have c7 : i < 9 := by have hh := mt (nI_leI (a := 9) (b := i) (by omega) (by omega)).mpr q7; omega
      refine m_gsN F e_X7_kindOf_10 F.sw.2.2.2.1.1 (F.ku.2.1 (.fieldLinkNest RX7 200 RX9 "KINDS" "[LLeaseLedger$Kind;" RX9) (by simp [nestW])) ?_
      refine m_iload_n F rfl e_X7_kindOf_13 ?_
      refine m_tq F e_X7_kindOf_14 F.sw.2.2.2.1.2 (i := nI i) (vp_in_nI (by omega) (by decide)) (v := .ref (adK V i)) (by show Value.ref (adK V (nI i).toNatClampNeg) = _; rw [nI_clamp (by omega)]) ?_
      refine m_gof F e_X7_kindOf_15 (F.sw.2.2.2.2.2.1 i (by omega)).2.1 kf_code ?_
      have hkb := kc_b (i := i) (by omega)
      refine Wm.topE (w := nI (kcN.getD i 0)) (kc_nI (by omega)) ?_
      refine m_iload_n F rfl e_X7_kindOf_18 ?_
      refine m_icmp_ne F e_X7_kindOf_19 (fun q19 => ?_) (fun q19 => ?_)
      · have c19 : (kcN.getD i 0) ≠ n901 := by have hh := mt (nI_eq (a := (kcN.getD i 0)) (b := n901) (by omega) (by omega)).mpr q19; omega
        refine m_iinc F (v := nI (i + 1)) (lv' := [(2, .int (nI (i + 1))), (0, .ref a), (1, .int (nI n901))]) e_X7_kindOf_28 rfl (nI_add i 1) (by decide) rfl ?_
        refine m_goto F e_X7_kindOf_31 ?_
        exact ih (i + 1) _ h1 ⟨by omega, fun j hj => if e : j = i then (by rw [e]; omega) else hi.2 j (by omega)⟩ (by omega)
      · have c19 : (kcN.getD i 0) = n901 := (nI_eq (a := (kcN.getD i 0)) (b := n901) (by omega) (by omega)).mp q19
        refine m_gsN F e_X7_kindOf_22 F.sw.2.2.2.1.1 (F.ku.2.1 (.fieldLinkNest RX7 200 RX9 "KINDS" "[LLeaseLedger$Kind;" RX9) (by simp [nestW])) ?_
        refine m_iload_n F rfl e_X7_kindOf_25 ?_
        refine m_tq F e_X7_kindOf_26 F.sw.2.2.2.1.2 (i := nI i) (vp_in_nI (by omega) (by decide)) (v := .ref (adK V i)) (by show Value.ref (adK V (nI i).toNatClampNeg) = _; rw [nI_clamp (by omega)]) ?_
        exact m_aret F hQ e_X7_kindOf_27 (Or.inr ⟨_, rfl⟩) (⟨h1, Or.inl ⟨by rw [kix_hit (i := i) (by omega) (by omega)]; omega, by rw [kix_hit (i := i) (by omega) (by omega)]⟩⟩)
set_option maxRecDepth 20000 in
theorem s_X7_kindOfE (l : Launch) (V : VX) (G : GH) (b M Z T N : Nat) (σ : Mem) (a : Nat) (n901 : Nat) (h0 : HT V G (b, M, Z, T) σ) (hk : kA b a = 3) (hn901 : n901 ≤ 1073741823) (hM : M + 0 ≤ 1000000000) : Ct l V yX7_kindOf cX7_kindOf 3 (some (.object "LeaseLedger$Kind")) 0 0 0 N σ [.ref a, .int (nI n901)] (fun r τ => HK V G (b, M, Z, T) [0, 1, 2, 3, 4, 5, 6, 7, 8, 9, 10, 11, 12, 13, 14, 15, 16, 17, 18, 19] σ τ ∧ ((kix n901 < 9 ∧ r = some (.ref (adK V (kix n901)))) ∨ (¬ kix n901 < 9 ∧ r = some .null))) := by
  refine Ct.of (by decide) (Nat.le_of_ble_eq_true rfl) [(0, .ref a), (1, .int (nI n901))] rfl (fun X hX F hQ => ?_)
  have h1 : HK V G (b, M, Z, T) [0, 1, 2, 3, 4, 5, 6, 7, 8, 9, 10, 11, 12, 13, 14, 15, 16, 17, 18, 19] σ σ := HK.start h0
  refine m_iconst F (v := 0) (by decide) e_X7_kindOf_0 ?_
  refine m_istore_n F (lv' := [(2, .int 0), (0, .ref a), (1, .int (nI n901))]) e_X7_kindOf_1 (by decide) rfl ?_
  exact lp_X7_kindOfE_2 F hQ hk hn901 hM (9 - 0 + 1) 0 _ h1 ⟨by omega, fun j hj => absurd hj (Nat.not_lt_zero _)⟩ (Nat.lt_succ_self _)
set_option maxRecDepth 20000 in
theorem s_X7_failAtE (l : Launch) (V : VX) (G : GH) (b M Z T N : Nat) (σ : Mem) (a : Nat) (x901 : Int32) (x902 : Int32) (tp : Nat) (td : Nat) (n : Nat) (bk : Nat) (nx : Nat) (st : Nat) (tk : Int32) (vl : Int32) (py : Nat) (sd : Nat) (ln : Nat) (ft : Int32) (pl : Int32) (t : Nat → Nat) (h0 : HT V G (b, M, Z, T) σ) (hk : kA b a = 3) (hp0 : ft = 0) (hp1 : x901 ≠ 0) (hR : RD σ a tp td n bk nx st tk vl py sd ln ft pl) (hB : BY V σ tp n t) (hn7 : n ≤ 700) (hsd : sd ≤ 1) (htp : kA b tp = 2) (htd : kA b td = 4) (hbk : kA b bk = 7) (hgb : ¬ G.gd (blk (bk - b)) = 1) (hM : M + 0 ≤ 1000000000) : Ct l V yX7_failAt cX7_failAt 3 none 0 0 0 N σ [.ref a, .int x901, .int x902] (fun r τ => HK V G (b, M, Z, T) [0, 1, 2, 4, 5, 6, 7, 8, 9, 10, 11, 12, 13, 14, 15, 16, 17, 18, 19] σ τ ∧ RD τ a tp td n bk nx st tk vl py sd ln x901 x902 ∧ r = none) := by
  refine Ct.of (by decide) (Nat.le_of_ble_eq_true rfl) [(0, .ref a), (1, .int x901), (2, .int x902)] rfl (fun X hX F hQ => ?_)
  have h1 : HK V G (b, M, Z, T) [0, 1, 2, 4, 5, 6, 7, 8, 9, 10, 11, 12, 13, 14, 15, 16, 17, 18, 19] σ σ := HK.start h0
  have hrd4684 := hR
  obtain ⟨rd4684, rd4685, rd4686, rd4687, rd4688, rd4689, rd4690, rd4691, rd4692, rd4693, rd4694, rd4695, rd4696⟩ := hrd4684
  subst hp0
  refine m_aload_n F rfl e_X7_failAt_0 ?_
  refine t_getC F e_X7_failAt_1 fl_X7_55 (fun _ => o3) h1 hk (rd4695) ?_
  refine m_if_ne F e_X7_failAt_4 (fun q => absurd (by decide) q) (fun _ => ?_)
  refine m_aload_n F rfl e_X7_failAt_7 ?_
  refine m_iload_n F rfl e_X7_failAt_8 ?_
  refine t_putF F e_X7_failAt_9 fp_X7_55 h1 hk (hp1) (by decide) (fun σ4697 h4698 g4699 g4700 f4701 => ?_)
  refine m_aload_n F rfl e_X7_failAt_12 ?_
  refine m_iload_n F rfl e_X7_failAt_13 ?_
  refine t_put F e_X7_failAt_14 fp_X7_15 (fun _ => o3) h4698 hk rfl ⟨_, rfl⟩ rfl rfl (by decide) (fun σ4702 h4703 g4704 g4705 f4706 => ?_)
  exact m_vret F hQ e_X7_failAt_17 (⟨(h4703.mono (M' := M) (Z' := Z) (by omega) (by intro e; first | rfl | assumption | omega)), ⟨(g4705 0 (by decide)).trans ((g4700 0 (by decide)).trans rd4684), (g4705 1 (by decide)).trans ((g4700 1 (by decide)).trans rd4685), (g4705 2 (by decide)).trans ((g4700 2 (by decide)).trans rd4686), (g4705 3 (by decide)).trans ((g4700 3 (by decide)).trans rd4687), (g4705 4 (by decide)).trans ((g4700 4 (by decide)).trans rd4688), (g4705 5 (by decide)).trans ((g4700 5 (by decide)).trans rd4689), (g4705 6 (by decide)).trans ((g4700 6 (by decide)).trans rd4690), (g4705 7 (by decide)).trans ((g4700 7 (by decide)).trans rd4691), (g4705 8 (by decide)).trans ((g4700 8 (by decide)).trans rd4692), (g4705 9 (by decide)).trans ((g4700 9 (by decide)).trans rd4693), (g4705 10 (by decide)).trans ((g4700 10 (by decide)).trans rd4694), (g4705 11 (by decide)).trans f4701, f4706⟩, rfl⟩)
set_option maxRecDepth 20000 in
theorem s_X7_failAtF (l : Launch) (V : VX) (G : GH) (b M Z T N : Nat) (σ : Mem) (a : Nat) (x901 : Int32) (x902 : Int32) (tp : Nat) (td : Nat) (n : Nat) (bk : Nat) (nx : Nat) (st : Nat) (tk : Int32) (vl : Int32) (py : Nat) (sd : Nat) (ln : Nat) (ft : Int32) (pl : Int32) (t : Nat → Nat) (h0 : HT V G (b, M, Z, T) σ) (hk : kA b a = 3) (hp0 : ft ≠ 0) (hR : RD σ a tp td n bk nx st tk vl py sd ln ft pl) (hB : BY V σ tp n t) (hn7 : n ≤ 700) (hsd : sd ≤ 1) (htp : kA b tp = 2) (htd : kA b td = 4) (hbk : kA b bk = 7) (hgb : ¬ G.gd (blk (bk - b)) = 1) (hM : M + 0 ≤ 1000000000) : Ct l V yX7_failAt cX7_failAt 3 none 0 0 0 N σ [.ref a, .int x901, .int x902] (fun r τ => HK V G (b, M, Z, T) [0, 1, 2, 3, 4, 5, 6, 7, 8, 9, 10, 11, 12, 13, 14, 15, 16, 17, 18, 19] σ τ ∧ RD τ a tp td n bk nx st tk vl py sd ln ft pl ∧ r = none) := by
  refine Ct.of (by decide) (Nat.le_of_ble_eq_true rfl) [(0, .ref a), (1, .int x901), (2, .int x902)] rfl (fun X hX F hQ => ?_)
  have h1 : HK V G (b, M, Z, T) [0, 1, 2, 3, 4, 5, 6, 7, 8, 9, 10, 11, 12, 13, 14, 15, 16, 17, 18, 19] σ σ := HK.start h0
  have hrd4707 := hR
  obtain ⟨rd4707, rd4708, rd4709, rd4710, rd4711, rd4712, rd4713, rd4714, rd4715, rd4716, rd4717, rd4718, rd4719⟩ := hrd4707
  refine m_aload_n F rfl e_X7_failAt_0 ?_
  refine t_getC F e_X7_failAt_1 fl_X7_55 (fun _ => o3) h1 hk (rd4718) ?_
  refine m_if_ne F e_X7_failAt_4 (fun q4 => ?_) (fun q4 => ?_)
  · exact m_vret F hQ e_X7_failAt_17 (⟨h1, ⟨rd4707, rd4708, rd4709, rd4710, rd4711, rd4712, rd4713, rd4714, rd4715, rd4716, rd4717, rd4718, rd4719⟩, rfl⟩)
  · exact absurd q4 hp0
set_option maxRecDepth 20000 in
theorem s_X7_failE (l : Launch) (V : VX) (G : GH) (b M Z T N : Nat) (σ : Mem) (a : Nat) (x901 : Int32) (tp : Nat) (td : Nat) (n : Nat) (bk : Nat) (nx : Nat) (st : Nat) (tk : Int32) (vl : Int32) (py : Nat) (sd : Nat) (ln : Nat) (ft : Int32) (pl : Int32) (t : Nat → Nat) (h0 : HT V G (b, M, Z, T) σ) (hk : kA b a = 3) (hp0 : ft = 0) (hp1 : x901 ≠ 0) (hR : RD σ a tp td n bk nx st tk vl py sd ln ft pl) (hB : BY V σ tp n t) (hn7 : n ≤ 700) (hsd : sd ≤ 1) (htp : kA b tp = 2) (htd : kA b td = 4) (hbk : kA b bk = 7) (hgb : ¬ G.gd (blk (bk - b)) = 1) (hM : M + 0 ≤ 1000000000) : Ct l V yX7_fail cX7_fail 2 none 1 0 0 N σ [.ref a, .int x901] (fun r τ => HK V G (b, M, Z, T) [0, 1, 2, 4, 5, 6, 7, 8, 9, 10, 11, 12, 13, 14, 15, 16, 17, 18, 19] σ τ ∧ RD τ a tp td n bk nx st tk vl py sd ln x901 (nI st) ∧ r = none) := by
  refine Ct.of (by decide) (Nat.le_of_ble_eq_true rfl) [(0, .ref a), (1, .int x901)] rfl (fun X hX F hQ => ?_)
  have h1 : HK V G (b, M, Z, T) [0, 1, 2, 4, 5, 6, 7, 8, 9, 10, 11, 12, 13, 14, 15, 16, 17, 18, 19] σ σ := HK.start h0
  have hrd4720 := hR
  obtain ⟨rd4720, rd4721, rd4722, rd4723, rd4724, rd4725, rd4726, rd4727, rd4728, rd4729, rd4730, rd4731, rd4732⟩ := hrd4720
  subst hp0
  refine m_aload_n F rfl e_X7_fail_0 ?_
  refine m_iload_n F rfl e_X7_fail_1 ?_
  refine m_aload_n F rfl e_X7_fail_2 ?_
  refine t_getC F e_X7_fail_3 fl_X7_188 (fun _ => o3) h1 hk (rd4725) ?_
  refine t_callV F e_X7_fail_6 (s_X7_failAtE (x_l X) V G b M Z T _ _ a x901 (nI st) tp td n bk nx st tk vl py sd ln 0 pl t h1.1 hk rfl hp1 ⟨rd4720, rd4721, rd4722, rd4723, rd4724, rd4725, rd4726, rd4727, rd4728, rd4729, rd4730, rd4731, rd4732⟩ (hB.keep (h1.2 tp (by rw [show kA _ tp = 2 from htp]; decide))) hn7 hsd htp htd hbk hgb (by omega)) cb_X7_failAt ml_X7_197 im_X7_failAt se_X7_failAt (fun _ => o3) h1 hk rfl rfl (rest := []) rfl (Nat.le_of_ble_eq_true rfl) ⟨Nat.le_of_ble_eq_true rfl, Nat.le_of_ble_eq_true rfl⟩ ⟨Nat.le_of_ble_eq_true rfl, Nat.le_of_ble_eq_true rfl⟩ (fun r σ4733 hp => ?_)
  obtain ⟨h4734, ⟨rd4736, rd4737, rd4738, rd4739, rd4740, rd4741, rd4742, rd4743, rd4744, rd4745, rd4746, rd4747, rd4748⟩, rfl⟩ := hp
  have h4735 := HK.trans h1 h4734 (by decide)
  exact m_vret F hQ e_X7_fail_9 (⟨h4735, ⟨rd4736, rd4737, rd4738, rd4739, rd4740, rd4741, rd4742, rd4743, rd4744, rd4745, rd4746, rd4747, rd4748⟩, rfl⟩)
set_option maxRecDepth 20000 in
theorem s_X7_failF (l : Launch) (V : VX) (G : GH) (b M Z T N : Nat) (σ : Mem) (a : Nat) (x901 : Int32) (tp : Nat) (td : Nat) (n : Nat) (bk : Nat) (nx : Nat) (st : Nat) (tk : Int32) (vl : Int32) (py : Nat) (sd : Nat) (ln : Nat) (ft : Int32) (pl : Int32) (t : Nat → Nat) (h0 : HT V G (b, M, Z, T) σ) (hk : kA b a = 3) (hp0 : ft ≠ 0) (hR : RD σ a tp td n bk nx st tk vl py sd ln ft pl) (hB : BY V σ tp n t) (hn7 : n ≤ 700) (hsd : sd ≤ 1) (htp : kA b tp = 2) (htd : kA b td = 4) (hbk : kA b bk = 7) (hgb : ¬ G.gd (blk (bk - b)) = 1) (hM : M + 0 ≤ 1000000000) : Ct l V yX7_fail cX7_fail 2 none 1 0 0 N σ [.ref a, .int x901] (fun r τ => HK V G (b, M, Z, T) [0, 1, 2, 3, 4, 5, 6, 7, 8, 9, 10, 11, 12, 13, 14, 15, 16, 17, 18, 19] σ τ ∧ RD τ a tp td n bk nx st tk vl py sd ln ft pl ∧ r = none) := by
  refine Ct.of (by decide) (Nat.le_of_ble_eq_true rfl) [(0, .ref a), (1, .int x901)] rfl (fun X hX F hQ => ?_)
  have h1 : HK V G (b, M, Z, T) [0, 1, 2, 3, 4, 5, 6, 7, 8, 9, 10, 11, 12, 13, 14, 15, 16, 17, 18, 19] σ σ := HK.start h0
  have hrd4749 := hR
  obtain ⟨rd4749, rd4750, rd4751, rd4752, rd4753, rd4754, rd4755, rd4756, rd4757, rd4758, rd4759, rd4760, rd4761⟩ := hrd4749
  refine m_aload_n F rfl e_X7_fail_0 ?_
  refine m_iload_n F rfl e_X7_fail_1 ?_
  refine m_aload_n F rfl e_X7_fail_2 ?_
  refine t_getC F e_X7_fail_3 fl_X7_188 (fun _ => o3) h1 hk (rd4754) ?_
  refine t_callV F e_X7_fail_6 (s_X7_failAtF (x_l X) V G b M Z T _ _ a x901 (nI st) tp td n bk nx st tk vl py sd ln ft pl t h1.1 hk hp0 ⟨rd4749, rd4750, rd4751, rd4752, rd4753, rd4754, rd4755, rd4756, rd4757, rd4758, rd4759, rd4760, rd4761⟩ (hB.keep (h1.2 tp (by rw [show kA _ tp = 2 from htp]; decide))) hn7 hsd htp htd hbk hgb (by omega)) cb_X7_failAt ml_X7_197 im_X7_failAt se_X7_failAt (fun _ => o3) h1 hk rfl rfl (rest := []) rfl (Nat.le_of_ble_eq_true rfl) ⟨Nat.le_of_ble_eq_true rfl, Nat.le_of_ble_eq_true rfl⟩ ⟨Nat.le_of_ble_eq_true rfl, Nat.le_of_ble_eq_true rfl⟩ (fun r σ4762 hp => ?_)
  obtain ⟨h4763, ⟨rd4765, rd4766, rd4767, rd4768, rd4769, rd4770, rd4771, rd4772, rd4773, rd4774, rd4775, rd4776, rd4777⟩, rfl⟩ := hp
  have h4764 := HK.trans h1 h4763 (by decide)
  exact m_vret F hQ e_X7_fail_9 (⟨h4764, ⟨rd4765, rd4766, rd4767, rd4768, rd4769, rd4770, rd4771, rd4772, rd4773, rd4774, rd4775, rd4776, rd4777⟩, rfl⟩)
set_option maxRecDepth 20000 in
theorem s_X7_readNumberE (l : Launch) (V : VX) (G : GH) (b M Z T N : Nat) (σ : Mem) (a : Nat) (n901 : Nat) (n902 : Nat) (tp : Nat) (td : Nat) (n : Nat) (bk : Nat) (nx : Nat) (st : Nat) (tk : Int32) (vl : Int32) (py : Nat) (sd : Nat) (ln : Nat) (ft : Int32) (pl : Int32) (t : Nat → Nat) (s9 : Nat) (v9 : Nat) (h0 : HT V G (b, M, Z, T) σ) (hk : kA b a = 3) (hn901 : n901 ≤ 9999999) (hn902 : n902 ≤ 9999999) (hp0 : ft = 0) (hp1 : CT tk vl s9 v9) (hp2 : nx ≤ 700) (hp3 : st ≤ 700) (hR : RD σ a tp td n bk nx st tk vl py sd ln ft pl) (hB : BY V σ tp n t) (hn7 : n ≤ 700) (hsd : sd ≤ 1) (htp : kA b tp = 2) (htd : kA b td = 4) (hbk : kA b bk = 7) (hgb : ¬ G.gd (blk (bk - b)) = 1) (hM : M + 0 ≤ 1000000000) : Ct l V yX7_readNumber cX7_readNumber 4 (some .int) 2 0 0 N σ [.ref a, .int (nI n901), .int (nI n902)] (fun r τ => HK V G (b, M, Z, T) [0, 1, 2, 4, 5, 6, 7, 8, 9, 10, 11, 12, 13, 14, 15, 16, 17, 18, 19] σ τ ∧ ((s9 = 3 ∧ n901 ≤ v9 ∧ v9 ≤ n902 ∧ (∃ tk2 vl2, CT tk2 vl2 (tok t n nx).2.1 (tok t n nx).2.2.1 ∧ RD τ a tp td n bk (tok t n nx).2.2.2 (tok t n nx).1 tk2 vl2 py sd ln 0 pl) ∧ r = some (.int (nI v9))) ∨ (s9 ≠ 3 ∧ RD τ a tp td n bk nx st tk vl py sd ln 1 (nI st) ∧ r = some (.int 0)) ∨ (s9 = 3 ∧ (v9 < n901 ∨ n902 < v9) ∧ RD τ a tp td n bk nx st tk vl py sd ln 2 (nI st) ∧ r = some (.int 0)))) := by
  refine Ct.of (by decide) (Nat.le_of_ble_eq_true rfl) [(0, .ref a), (1, .int (nI n901)), (2, .int (nI n902))] rfl (fun X hX F hQ => ?_)
  have h1 : HK V G (b, M, Z, T) [0, 1, 2, 4, 5, 6, 7, 8, 9, 10, 11, 12, 13, 14, 15, 16, 17, 18, 19] σ σ := HK.start h0
  have hrd4778 := hR
  obtain ⟨rd4778, rd4779, rd4780, rd4781, rd4782, rd4783, rd4784, rd4785, rd4786, rd4787, rd4788, rd4789, rd4790⟩ := hrd4778
  subst hp0
  refine m_aload_n F rfl e_X7_readNumber_0 ?_
  refine t_getC F e_X7_readNumber_1 fl_X7_55 (fun _ => o3) h1 hk (rd4789) ?_
  refine m_if_eq F e_X7_readNumber_4 (fun _ => ?_) (fun q => absurd (by decide) q)
  have hct := hp1
  rcases hct with ⟨rfl, rfl⟩ | ⟨rfl, rfl, c9, rfl, hc9, hk9, hv9⟩ | ⟨rfl, rfl, rfl, hv9, hk9⟩ | ⟨rfl, rfl, w9, hw9, rfl, hm9⟩ | ⟨rfl, rfl⟩ | ⟨rfl, ⟨rfl, rfl⟩ | rfl⟩
  · refine m_aload_n F rfl e_X7_readNumber_9 ?_
    refine t_getC F e_X7_readNumber_10 fl_X7_61 (fun _ => o3) h1 hk (rd4784) ?_
    refine m_iconst F (v := 2) (by decide) e_X7_readNumber_13 ?_
    refine m_icmp_eq F e_X7_readNumber_14 (fun q => absurd q (by decide)) (fun _ => ?_)
    refine m_aload_n F rfl e_X7_readNumber_17 ?_
    refine m_iconst F (v := 1) (by decide) e_X7_readNumber_18 ?_
    refine t_callV F e_X7_readNumber_19 (s_X7_failE (x_l X) V G b M Z T _ _ a 1 tp td n bk nx st 0 vl py sd ln 0 pl t h1.1 hk rfl (by decide) ⟨rd4778, rd4779, rd4780, rd4781, rd4782, rd4783, rd4784, rd4785, rd4786, rd4787, rd4788, rd4789, rd4790⟩ (hB.keep (h1.2 tp (by rw [show kA _ tp = 2 from htp]; decide))) hn7 hsd htp htd hbk hgb (by omega)) cb_X7_fail ml_X7_77 im_X7_fail se_X7_fail (fun _ => o3) h1 hk rfl rfl (rest := []) rfl (Nat.le_of_ble_eq_true rfl) ⟨Nat.le_of_ble_eq_true rfl, Nat.le_of_ble_eq_true rfl⟩ ⟨Nat.le_of_ble_eq_true rfl, Nat.le_of_ble_eq_true rfl⟩ (fun r σ4791 hp => ?_)
    obtain ⟨h4792, ⟨rd4794, rd4795, rd4796, rd4797, rd4798, rd4799, rd4800, rd4801, rd4802, rd4803, rd4804, rd4805, rd4806⟩, rfl⟩ := hp
    have h4793 := HK.trans h1 h4792 (by decide)
    refine m_iconst F (v := 0) (by decide) e_X7_readNumber_22 ?_
    exact m_iret F hQ e_X7_readNumber_23 (⟨h4793, Or.inr (Or.inl ⟨by decide, ⟨rd4794, rd4795, rd4796, rd4797, rd4798, rd4799, rd4800, rd4801, rd4802, rd4803, rd4804, rd4805, rd4806⟩, rfl⟩)⟩)
  · refine m_aload_n F rfl e_X7_readNumber_9 ?_
    refine t_getC F e_X7_readNumber_10 fl_X7_61 (fun _ => o3) h1 hk (rd4784) ?_
    refine m_iconst F (v := 2) (by decide) e_X7_readNumber_13 ?_
    refine m_icmp_eq F e_X7_readNumber_14 (fun q => absurd q (by decide)) (fun _ => ?_)
    refine m_aload_n F rfl e_X7_readNumber_17 ?_
    refine m_iconst F (v := 1) (by decide) e_X7_readNumber_18 ?_
    refine t_callV F e_X7_readNumber_19 (s_X7_failE (x_l X) V G b M Z T _ _ a 1 tp td n bk nx st 1 (nI c9) py sd ln 0 pl t h1.1 hk rfl (by decide) ⟨rd4778, rd4779, rd4780, rd4781, rd4782, rd4783, rd4784, rd4785, rd4786, rd4787, rd4788, rd4789, rd4790⟩ (hB.keep (h1.2 tp (by rw [show kA _ tp = 2 from htp]; decide))) hn7 hsd htp htd hbk hgb (by omega)) cb_X7_fail ml_X7_77 im_X7_fail se_X7_fail (fun _ => o3) h1 hk rfl rfl (rest := []) rfl (Nat.le_of_ble_eq_true rfl) ⟨Nat.le_of_ble_eq_true rfl, Nat.le_of_ble_eq_true rfl⟩ ⟨Nat.le_of_ble_eq_true rfl, Nat.le_of_ble_eq_true rfl⟩ (fun r σ4807 hp => ?_)
    obtain ⟨h4808, ⟨rd4810, rd4811, rd4812, rd4813, rd4814, rd4815, rd4816, rd4817, rd4818, rd4819, rd4820, rd4821, rd4822⟩, rfl⟩ := hp
    have h4809 := HK.trans h1 h4808 (by decide)
    refine m_iconst F (v := 0) (by decide) e_X7_readNumber_22 ?_
    exact m_iret F hQ e_X7_readNumber_23 (⟨h4809, Or.inr (Or.inl ⟨by decide, ⟨rd4810, rd4811, rd4812, rd4813, rd4814, rd4815, rd4816, rd4817, rd4818, rd4819, rd4820, rd4821, rd4822⟩, rfl⟩)⟩)
  · refine m_aload_n F rfl e_X7_readNumber_9 ?_
    refine t_getC F e_X7_readNumber_10 fl_X7_61 (fun _ => o3) h1 hk (rd4784) ?_
    refine m_iconst F (v := 2) (by decide) e_X7_readNumber_13 ?_
    refine m_icmp_eq F e_X7_readNumber_14 (fun q => absurd q (by decide)) (fun _ => ?_)
    refine m_aload_n F rfl e_X7_readNumber_17 ?_
    refine m_iconst F (v := 1) (by decide) e_X7_readNumber_18 ?_
    refine t_callV F e_X7_readNumber_19 (s_X7_failE (x_l X) V G b M Z T _ _ a 1 tp td n bk nx st 1 (nI v9) py sd ln 0 pl t h1.1 hk rfl (by decide) ⟨rd4778, rd4779, rd4780, rd4781, rd4782, rd4783, rd4784, rd4785, rd4786, rd4787, rd4788, rd4789, rd4790⟩ (hB.keep (h1.2 tp (by rw [show kA _ tp = 2 from htp]; decide))) hn7 hsd htp htd hbk hgb (by omega)) cb_X7_fail ml_X7_77 im_X7_fail se_X7_fail (fun _ => o3) h1 hk rfl rfl (rest := []) rfl (Nat.le_of_ble_eq_true rfl) ⟨Nat.le_of_ble_eq_true rfl, Nat.le_of_ble_eq_true rfl⟩ ⟨Nat.le_of_ble_eq_true rfl, Nat.le_of_ble_eq_true rfl⟩ (fun r σ4823 hp => ?_)
    obtain ⟨h4824, ⟨rd4826, rd4827, rd4828, rd4829, rd4830, rd4831, rd4832, rd4833, rd4834, rd4835, rd4836, rd4837, rd4838⟩, rfl⟩ := hp
    have h4825 := HK.trans h1 h4824 (by decide)
    refine m_iconst F (v := 0) (by decide) e_X7_readNumber_22 ?_
    exact m_iret F hQ e_X7_readNumber_23 (⟨h4825, Or.inr (Or.inl ⟨by decide, ⟨rd4826, rd4827, rd4828, rd4829, rd4830, rd4831, rd4832, rd4833, rd4834, rd4835, rd4836, rd4837, rd4838⟩, rfl⟩)⟩)
  · refine m_aload_n F rfl e_X7_readNumber_9 ?_
    refine t_getC F e_X7_readNumber_10 fl_X7_61 (fun _ => o3) h1 hk (rd4784) ?_
    refine m_iconst F (v := 2) (by decide) e_X7_readNumber_13 ?_
    refine m_icmp_eq F e_X7_readNumber_14 (fun _ => ?_) (fun q => absurd (by decide) q)
    refine m_aload_n F rfl e_X7_readNumber_24 ?_
    refine t_getC F e_X7_readNumber_25 fl_X7_70 (fun _ => o3) h1 hk (rd4785) ?_
    refine m_iload_n F rfl e_X7_readNumber_28 ?_
    refine m_icmp_lt F e_X7_readNumber_29 (fun q29 => ?_) (fun q29 => ?_)
    · have c29 : w9 < n901 := (nI_ltI (a := w9) (b := n901) (by omega) (by omega)).mp q29
      refine m_aload_n F rfl e_X7_readNumber_40 ?_
      refine m_iconst F (v := 2) (by decide) e_X7_readNumber_41 ?_
      refine t_callV F e_X7_readNumber_42 (s_X7_failE (x_l X) V G b M Z T _ _ a 2 tp td n bk nx st 2 (nI w9) py sd ln 0 pl t h1.1 hk rfl (by decide) ⟨rd4778, rd4779, rd4780, rd4781, rd4782, rd4783, rd4784, rd4785, rd4786, rd4787, rd4788, rd4789, rd4790⟩ (hB.keep (h1.2 tp (by rw [show kA _ tp = 2 from htp]; decide))) hn7 hsd htp htd hbk hgb (by omega)) cb_X7_fail ml_X7_77 im_X7_fail se_X7_fail (fun _ => o3) h1 hk rfl rfl (rest := []) rfl (Nat.le_of_ble_eq_true rfl) ⟨Nat.le_of_ble_eq_true rfl, Nat.le_of_ble_eq_true rfl⟩ ⟨Nat.le_of_ble_eq_true rfl, Nat.le_of_ble_eq_true rfl⟩ (fun r σ4839 hp => ?_)
      obtain ⟨h4840, ⟨rd4842, rd4843, rd4844, rd4845, rd4846, rd4847, rd4848, rd4849, rd4850, rd4851, rd4852, rd4853, rd4854⟩, rfl⟩ := hp
      have h4841 := HK.trans h1 h4840 (by decide)
      refine m_iconst F (v := 0) (by decide) e_X7_readNumber_45 ?_
      exact m_iret F hQ e_X7_readNumber_46 (⟨h4841, Or.inr (Or.inr ⟨rfl, by omega, ⟨rd4842, rd4843, rd4844, rd4845, rd4846, rd4847, rd4848, rd4849, rd4850, rd4851, rd4852, rd4853, rd4854⟩, rfl⟩)⟩)
    · have c29 : w9 ≥ n901 := by have hh := mt (nI_ltI (a := w9) (b := n901) (by omega) (by omega)).mpr q29; omega
      refine m_aload_n F rfl e_X7_readNumber_32 ?_
      refine t_getC F e_X7_readNumber_33 fl_X7_70 (fun _ => o3) h1 hk (rd4785) ?_
      refine m_iload_n F rfl e_X7_readNumber_36 ?_
      refine m_icmp_le F e_X7_readNumber_37 (fun q37 => ?_) (fun q37 => ?_)
      · have c37 : w9 ≤ n902 := (nI_leI (a := w9) (b := n902) (by omega) (by omega)).mp q37
        refine m_aload_n F rfl e_X7_readNumber_47 ?_
        refine t_getC F e_X7_readNumber_48 fl_X7_70 (fun _ => o3) h1 hk (rd4785) ?_
        refine m_istore_n F (lv' := [(3, .int (nI w9)), (0, .ref a), (1, .int (nI n901)), (2, .int (nI n902))]) e_X7_readNumber_51 (by decide) rfl ?_
        refine m_aload_n F rfl e_X7_readNumber_52 ?_
        refine t_callV F e_X7_readNumber_53 (s_X7_advanceE (x_l X) V G b M Z T _ _ a  tp td n bk nx st 2 (nI w9) py sd ln 0 pl t h1.1 hk (by omega) ⟨rd4778, rd4779, rd4780, rd4781, rd4782, rd4783, rd4784, rd4785, rd4786, rd4787, rd4788, rd4789, rd4790⟩ (hB.keep (h1.2 tp (by rw [show kA _ tp = 2 from htp]; decide))) hn7 hsd htp htd hbk hgb (by omega)) cb_X7_advance ml_X7_58 im_X7_advance se_X7_advance (fun _ => o3) h1 hk rfl rfl (rest := []) rfl (Nat.le_of_ble_eq_true rfl) ⟨Nat.le_of_ble_eq_true rfl, Nat.le_of_ble_eq_true rfl⟩ ⟨Nat.le_of_ble_eq_true rfl, Nat.le_of_ble_eq_true rfl⟩ (fun r σ4855 hp => ?_)
        obtain ⟨h4856, ⟨tk4871, vl4872, ct4873, rd4858, rd4859, rd4860, rd4861, rd4862, rd4863, rd4864, rd4865, rd4866, rd4867, rd4868, rd4869, rd4870⟩, rfl⟩ := hp
        have h4857 := HK.trans h1 h4856 (by decide)
        refine m_iload_n F rfl e_X7_readNumber_56 ?_
        have ew : w9 = v9 := by omega
        subst ew
        exact m_iret F hQ e_X7_readNumber_57 (⟨h4857, Or.inl ⟨rfl, by omega, by omega, ⟨tk4871, vl4872, ct4873, ⟨rd4858, rd4859, rd4860, rd4861, rd4862, rd4863, rd4864, rd4865, rd4866, rd4867, rd4868, rd4869, rd4870⟩⟩, rfl⟩⟩)
      · have c37 : w9 > n902 := by have hh := mt (nI_leI (a := w9) (b := n902) (by omega) (by omega)).mpr q37; omega
        refine m_aload_n F rfl e_X7_readNumber_40 ?_
        refine m_iconst F (v := 2) (by decide) e_X7_readNumber_41 ?_
        refine t_callV F e_X7_readNumber_42 (s_X7_failE (x_l X) V G b M Z T _ _ a 2 tp td n bk nx st 2 (nI w9) py sd ln 0 pl t h1.1 hk rfl (by decide) ⟨rd4778, rd4779, rd4780, rd4781, rd4782, rd4783, rd4784, rd4785, rd4786, rd4787, rd4788, rd4789, rd4790⟩ (hB.keep (h1.2 tp (by rw [show kA _ tp = 2 from htp]; decide))) hn7 hsd htp htd hbk hgb (by omega)) cb_X7_fail ml_X7_77 im_X7_fail se_X7_fail (fun _ => o3) h1 hk rfl rfl (rest := []) rfl (Nat.le_of_ble_eq_true rfl) ⟨Nat.le_of_ble_eq_true rfl, Nat.le_of_ble_eq_true rfl⟩ ⟨Nat.le_of_ble_eq_true rfl, Nat.le_of_ble_eq_true rfl⟩ (fun r σ4874 hp => ?_)
        obtain ⟨h4875, ⟨rd4877, rd4878, rd4879, rd4880, rd4881, rd4882, rd4883, rd4884, rd4885, rd4886, rd4887, rd4888, rd4889⟩, rfl⟩ := hp
        have h4876 := HK.trans h1 h4875 (by decide)
        refine m_iconst F (v := 0) (by decide) e_X7_readNumber_45 ?_
        exact m_iret F hQ e_X7_readNumber_46 (⟨h4876, Or.inr (Or.inr ⟨rfl, by omega, ⟨rd4877, rd4878, rd4879, rd4880, rd4881, rd4882, rd4883, rd4884, rd4885, rd4886, rd4887, rd4888, rd4889⟩, rfl⟩)⟩)
  · refine m_aload_n F rfl e_X7_readNumber_9 ?_
    refine t_getC F e_X7_readNumber_10 fl_X7_61 (fun _ => o3) h1 hk (rd4784) ?_
    refine m_iconst F (v := 2) (by decide) e_X7_readNumber_13 ?_
    refine m_icmp_eq F e_X7_readNumber_14 (fun q => absurd q (by decide)) (fun _ => ?_)
    refine m_aload_n F rfl e_X7_readNumber_17 ?_
    refine m_iconst F (v := 1) (by decide) e_X7_readNumber_18 ?_
    refine t_callV F e_X7_readNumber_19 (s_X7_failE (x_l X) V G b M Z T _ _ a 1 tp td n bk nx st 3 vl py sd ln 0 pl t h1.1 hk rfl (by decide) ⟨rd4778, rd4779, rd4780, rd4781, rd4782, rd4783, rd4784, rd4785, rd4786, rd4787, rd4788, rd4789, rd4790⟩ (hB.keep (h1.2 tp (by rw [show kA _ tp = 2 from htp]; decide))) hn7 hsd htp htd hbk hgb (by omega)) cb_X7_fail ml_X7_77 im_X7_fail se_X7_fail (fun _ => o3) h1 hk rfl rfl (rest := []) rfl (Nat.le_of_ble_eq_true rfl) ⟨Nat.le_of_ble_eq_true rfl, Nat.le_of_ble_eq_true rfl⟩ ⟨Nat.le_of_ble_eq_true rfl, Nat.le_of_ble_eq_true rfl⟩ (fun r σ4890 hp => ?_)
    obtain ⟨h4891, ⟨rd4893, rd4894, rd4895, rd4896, rd4897, rd4898, rd4899, rd4900, rd4901, rd4902, rd4903, rd4904, rd4905⟩, rfl⟩ := hp
    have h4892 := HK.trans h1 h4891 (by decide)
    refine m_iconst F (v := 0) (by decide) e_X7_readNumber_22 ?_
    exact m_iret F hQ e_X7_readNumber_23 (⟨h4892, Or.inr (Or.inl ⟨by decide, ⟨rd4893, rd4894, rd4895, rd4896, rd4897, rd4898, rd4899, rd4900, rd4901, rd4902, rd4903, rd4904, rd4905⟩, rfl⟩)⟩)
  · refine m_aload_n F rfl e_X7_readNumber_9 ?_
    refine t_getC F e_X7_readNumber_10 fl_X7_61 (fun _ => o3) h1 hk (rd4784) ?_
    refine m_iconst F (v := 2) (by decide) e_X7_readNumber_13 ?_
    refine m_icmp_eq F e_X7_readNumber_14 (fun q => absurd q (by decide)) (fun _ => ?_)
    refine m_aload_n F rfl e_X7_readNumber_17 ?_
    refine m_iconst F (v := 1) (by decide) e_X7_readNumber_18 ?_
    refine t_callV F e_X7_readNumber_19 (s_X7_failE (x_l X) V G b M Z T _ _ a 1 tp td n bk nx st 1 (-1) py sd ln 0 pl t h1.1 hk rfl (by decide) ⟨rd4778, rd4779, rd4780, rd4781, rd4782, rd4783, rd4784, rd4785, rd4786, rd4787, rd4788, rd4789, rd4790⟩ (hB.keep (h1.2 tp (by rw [show kA _ tp = 2 from htp]; decide))) hn7 hsd htp htd hbk hgb (by omega)) cb_X7_fail ml_X7_77 im_X7_fail se_X7_fail (fun _ => o3) h1 hk rfl rfl (rest := []) rfl (Nat.le_of_ble_eq_true rfl) ⟨Nat.le_of_ble_eq_true rfl, Nat.le_of_ble_eq_true rfl⟩ ⟨Nat.le_of_ble_eq_true rfl, Nat.le_of_ble_eq_true rfl⟩ (fun r σ4906 hp => ?_)
    obtain ⟨h4907, ⟨rd4909, rd4910, rd4911, rd4912, rd4913, rd4914, rd4915, rd4916, rd4917, rd4918, rd4919, rd4920, rd4921⟩, rfl⟩ := hp
    have h4908 := HK.trans h1 h4907 (by decide)
    refine m_iconst F (v := 0) (by decide) e_X7_readNumber_22 ?_
    exact m_iret F hQ e_X7_readNumber_23 (⟨h4908, Or.inr (Or.inl ⟨by decide, ⟨rd4909, rd4910, rd4911, rd4912, rd4913, rd4914, rd4915, rd4916, rd4917, rd4918, rd4919, rd4920, rd4921⟩, rfl⟩)⟩)
  · refine m_aload_n F rfl e_X7_readNumber_9 ?_
    refine t_getC F e_X7_readNumber_10 fl_X7_61 (fun _ => o3) h1 hk (rd4784) ?_
    refine m_iconst F (v := 2) (by decide) e_X7_readNumber_13 ?_
    refine m_icmp_eq F e_X7_readNumber_14 (fun q => absurd q (by decide)) (fun _ => ?_)
    refine m_aload_n F rfl e_X7_readNumber_17 ?_
    refine m_iconst F (v := 1) (by decide) e_X7_readNumber_18 ?_
    refine t_callV F e_X7_readNumber_19 (s_X7_failE (x_l X) V G b M Z T _ _ a 1 tp td n bk nx st 4 vl py sd ln 0 pl t h1.1 hk rfl (by decide) ⟨rd4778, rd4779, rd4780, rd4781, rd4782, rd4783, rd4784, rd4785, rd4786, rd4787, rd4788, rd4789, rd4790⟩ (hB.keep (h1.2 tp (by rw [show kA _ tp = 2 from htp]; decide))) hn7 hsd htp htd hbk hgb (by omega)) cb_X7_fail ml_X7_77 im_X7_fail se_X7_fail (fun _ => o3) h1 hk rfl rfl (rest := []) rfl (Nat.le_of_ble_eq_true rfl) ⟨Nat.le_of_ble_eq_true rfl, Nat.le_of_ble_eq_true rfl⟩ ⟨Nat.le_of_ble_eq_true rfl, Nat.le_of_ble_eq_true rfl⟩ (fun r σ4922 hp => ?_)
    obtain ⟨h4923, ⟨rd4925, rd4926, rd4927, rd4928, rd4929, rd4930, rd4931, rd4932, rd4933, rd4934, rd4935, rd4936, rd4937⟩, rfl⟩ := hp
    have h4924 := HK.trans h1 h4923 (by decide)
    refine m_iconst F (v := 0) (by decide) e_X7_readNumber_22 ?_
    exact m_iret F hQ e_X7_readNumber_23 (⟨h4924, Or.inr (Or.inl ⟨by decide, ⟨rd4925, rd4926, rd4927, rd4928, rd4929, rd4930, rd4931, rd4932, rd4933, rd4934, rd4935, rd4936, rd4937⟩, rfl⟩)⟩)
