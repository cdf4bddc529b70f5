/-- names held, as they were read -/
def TB (P : NP) (nl : Nat) (nm : Nat → Nat) : Prop := ∀ i, i < nl → nI (bsel P i) = nI (nm i)
theorem TB.mk4 {P : NP} {nl : Nat} {nm : Nat → Nat} (hn : nl ≤ 4) (h0 : 0 < nl → nI P.b0 = nI (nm 0)) (h1 : 1 < nl → nI P.b1 = nI (nm 1)) (h2 : 2 < nl → nI P.b2 = nI (nm 2)) (h3 : 3 < nl → nI P.b3 = nI (nm 3)) : TB P nl nm := by
  intro i hi
  rcases (show i = 0 ∨ i = 1 ∨ i = 2 ∨ i = 3 by omega) with rfl | rfl | rfl | rfl
  · exact h0 hi
  · exact h1 hi
  · exact h2 hi
  · exact h3 hi
theorem bsel_eq {P Q : NP} (e0 : Q.b0 = P.b0) (e1 : Q.b1 = P.b1) (e2 : Q.b2 = P.b2) (e3 : Q.b3 = P.b3) (i : Nat) : bsel Q i = bsel P i := by
  unfold bsel; rw [e0, e1, e2, e3]
theorem TB.to {P Q : NP} {nl : Nat} {nm : Nat → Nat} (h : TB P nl nm) (e0 : Q.b0 = P.b0) (e1 : Q.b1 = P.b1) (e2 : Q.b2 = P.b2) (e3 : Q.b3 = P.b3) : TB Q nl nm := fun i hi => by
  rw [bsel_eq e0 e1 e2 e3]; exact h i hi
theorem MR.st {σ τ : Mem} {c nl l : Nat} {nm : Nat → Nat} (h : MR σ c nl nm) (hl : l < 4) (e2 : ∀ i, i ≠ l → elI τ (c + 3) i = elI σ (c + 3) i) : MR τ c nl nm := fun i hi => ⟨(h i hi).1, (e2 (4 + i) (by omega)).trans (h i hi).2⟩
set_option maxRecDepth 20000 in
theorem lq_X10_takeTextE_179 {V : VX} {X : MX} {N : Nat} {σ : Mem} {c T Z u h : Nat} {P : NP} {L : Nat → LQ}  {nl : Nat} {nm : Nat → Nat} (F : Fx V X yX10_takeText cX10_takeText 2 none (rmd 1 0 0)) (hQ : Rt V X 0 0 N (fun r τ => ∃ P9 : NP, OKP P9 ∧ RT P P9 ∧ TB P9 nl nm ∧ HS V c (⟨T, Z, u, h, P9, L⟩ : RG) [0, 1, 2, 17, 18, 19, 20, 21, 22, 23] σ τ ∧ r = none)) (hob : OKB L) (hP : OKP P) (hp0 : MR σ c nl nm) (hp1 : nl ≤ 4)  : ∀ (fuel : Nat) (i : Nat) (P1 : NP) (τ : Mem), HS V c (⟨T, Z, u, h, P1, L⟩ : RG) [0, 1, 2, 17, 18, 19, 20, 21, 22, 23] σ τ → OKP P1 → RT3 P P1 → i ≤ 192 ∧ TB P1 nl nm → 192 - i < fuel → Wm V X 2 N τ 0 0 179 [(0, .ref c), (1, .int (nI i))] [] := by
  intro fuel
  induction fuel with
  | zero => intros; rename_i hm; exact absurd hm (Nat.not_lt_zero _)
  | succ fuel ih =>
    intro i P1 τ h1 hP1 hR1 hi hm
    have hPP := hP
    unfold OKP at hPP
    have hPP1 := hP1
    unfold OKP at hPP1
    unfold RT3 at hR1
    obtain ⟨hi0, hi1⟩ := hi
    refine m_iload_n F rfl e_X10_takeText_179 ?_
    refine m_sipush F (v := 192) (by decide) e_X10_takeText_180 ?_
    refine m_icmp_ge F e_X10_takeText_183 (fun q183 => ?_) (fun q183 => ?_)
    · have c183 : i ≥ 192 := (nI_leI (a := 192) (b := i) (by omega) (by omega)).mp q183
      refine m_iconst F (v := 0) (by decide) e_X10_takeText_208 ?_
      refine m_istore_n F (lv' := [(1, .int 0), (0, .ref c)]) e_X10_takeText_209 (by decide) rfl ?_
      refine m_iload_n F rfl e_X10_takeText_210 ?_
      refine m_bipush F (v := 8) (by decide) e_X10_takeText_211 ?_
      refine m_icmp_ge F e_X10_takeText_213 (fun q => absurd q (by decide)) (fun _ => ?_)
      refine m_aload_n F rfl e_X10_takeText_216 ?_
      refine r_get F e_X10_takeText_217 fl_X10_40 h1 rfl (fun v hv f16724 => ?_)
      obtain rfl : v = .ref (c + 11) := hv
      refine m_iload_n F rfl e_X10_takeText_220 ?_
      refine m_aload_n F rfl e_X10_takeText_221 ?_
      refine r_getC F e_X10_takeText_222 fl_X10_40 h1 (f16724) ?_
      refine m_bipush F (v := 8) (by decide) e_X10_takeText_225 ?_
      refine m_iload_n F rfl e_X10_takeText_227 ?_
      refine m_iadd F e_X10_takeText_228 ?_
      refine Wm.topE (w := 8) (by decide) ?_
      refine r_iald F (len := 16) (j := 8) e_X10_takeText_229 h1 (fun _ h => h) (by decide) (by decide) (by unfold vp_in; decide) (fun x16725 h16726 f16727 => ?_)
      obtain ⟨n16728, hn16728, rfl⟩ := h16726
      refine r_iast F (g' := (⟨T, Z, u, h, P1, L⟩ : RG)) (len := 16) (j := 0) e_X10_takeText_230 h1 (fun _ h => h) (fun f h => ⟨f, rfl, h⟩) (by decide) (by decide) (by decide) (by unfold vp_in; decide) ⟨n16728, by omega, rfl⟩ (fun _ _ _ h => h) (fun _ _ _ h => h) (fun σ16729 h16730 g16731 f16732 g16733 => ?_)
      refine m_aload_n F rfl e_X10_takeText_231 ?_
      refine r_get F e_X10_takeText_232 fl_X10_43 h16730 rfl (fun v hv f16734 => ?_)
      obtain rfl : v = .ref (c + 12) := hv
      refine m_iload_n F rfl e_X10_takeText_235 ?_
      refine m_aload_n F rfl e_X10_takeText_236 ?_
      refine r_getC F e_X10_takeText_237 fl_X10_43 h16730 (f16734) ?_
      refine m_bipush F (v := 8) (by decide) e_X10_takeText_240 ?_
      refine m_iload_n F rfl e_X10_takeText_242 ?_
      refine m_iadd F e_X10_takeText_243 ?_
      refine Wm.topE (w := 8) (by decide) ?_
      refine r_iald F (len := 16) (j := 8) e_X10_takeText_244 h16730 (fun _ h => h) (by decide) (by decide) (by unfold vp_in; decide) (fun x16735 h16736 f16737 => ?_)
      obtain ⟨n16738, hn16738, rfl, pn16738, rn16738⟩ := h16736
      refine r_iast F (g' := (⟨T, Z, u, h, (mkP P1.n0 P1.n2 P1.n5 P1.n7 P1.m0 P1.m5 (min 1 P1.w7) P1.w7 P1.kk P1.a P1.b0 P1.b1 P1.b2 P1.b3), L⟩ : RG)) (len := 16) (j := 0) e_X10_takeText_245 h16730 (fun _ h => h) (fun f h => ⟨f, rfl, h⟩) (by decide) (by decide) (by decide) (by unfold vp_in; decide) ⟨n16738, by omega, rfl, fun _ h8 => rn16738 (by omega) (show 8 < 8 + P1.w7 by have h6 : 0 < min 1 P1.w7 := h8; omega), fun h7 _ => absurd h7 (by omega)⟩ (fun i hi y hy => by obtain ⟨n9, a9, b9, c9, d9⟩ := hy; exact ⟨n9, a9, b9, fun h7 h8 => c9 h7 (show i < P1.w2 by have h6 : i < min 1 P1.w7 := h8; omega), d9⟩) (CR.chg (by intro k hk i x h; unfold EI at h ⊢; split at h <;> first | exact h | exact absurd rfl hk | trivial) rfl rfl) (fun σ16739 h16740 g16741 f16742 g16743 => ?_)
      obtain ⟨P16744, eP16744⟩ : ∃ P9, P9 = (mkP P1.n0 P1.n2 P1.n5 P1.n7 P1.m0 P1.m5 (min 1 P1.w7) P1.w7 P1.kk P1.a P1.b0 P1.b1 P1.b2 P1.b3) := ⟨_, rfl⟩
      rw [← eP16744] at h16740
      have fP16744 : P16744.n0 = P1.n0 ∧ P16744.n2 = P1.n2 ∧ P16744.n5 = P1.n5 ∧ P16744.n7 = P1.n7 ∧ P16744.m0 = P1.m0 ∧ P16744.m5 = P1.m5 ∧ P16744.w2 = min 1 P1.w7 ∧ P16744.w7 = P1.w7 ∧ P16744.kk = P1.kk ∧ P16744.a = P1.a ∧ P16744.b0 = P1.b0 ∧ P16744.b1 = P1.b1 ∧ P16744.b2 = P1.b2 ∧ P16744.b3 = P1.b3 := by rw [eP16744]; exact ⟨rfl, rfl, rfl, rfl, rfl, rfl, rfl, rfl, rfl, rfl, rfl, rfl, rfl, rfl⟩
      refine m_iinc F (v := 1) (lv' := [(1, .int 1), (0, .ref c)]) e_X10_takeText_246 rfl (by decide) (by decide) rfl ?_
      refine m_goto F e_X10_takeText_249 ?_
      refine m_iload_n F rfl e_X10_takeText_210 ?_
      refine m_bipush F (v := 8) (by decide) e_X10_takeText_211 ?_
      refine m_icmp_ge F e_X10_takeText_213 (fun q => absurd q (by decide)) (fun _ => ?_)
      refine m_aload_n F rfl e_X10_takeText_216 ?_
      refine r_getC F e_X10_takeText_217 fl_X10_40 h16740 ((fld_eq (g16741 _ (by omega))).trans ((fld_eq (g16731 _ (by omega))).trans f16724)) ?_
      refine m_iload_n F rfl e_X10_takeText_220 ?_
      refine m_aload_n F rfl e_X10_takeText_221 ?_
      refine r_getC F e_X10_takeText_222 fl_X10_40 h16740 ((fld_eq (g16741 _ (by omega))).trans ((fld_eq (g16731 _ (by omega))).trans f16724)) ?_
      refine m_bipush F (v := 8) (by decide) e_X10_takeText_225 ?_
      refine m_iload_n F rfl e_X10_takeText_227 ?_
      refine m_iadd F e_X10_takeText_228 ?_
      refine Wm.topE (w := 9) (by decide) ?_
      refine r_iald F (len := 16) (j := 9) e_X10_takeText_229 h16740 (fun _ h => h) (by decide) (by decide) (by unfold vp_in; decide) (fun x16745 h16746 f16747 => ?_)
      obtain ⟨n16748, hn16748, rfl⟩ := h16746
      refine r_iast F (g' := (⟨T, Z, u, h, P16744, L⟩ : RG)) (len := 16) (j := 1) e_X10_takeText_230 h16740 (fun _ h => h) (fun f h => ⟨f, rfl, h⟩) (by decide) (by decide) (by decide) (by unfold vp_in; decide) ⟨n16748, by omega, rfl⟩ (fun _ _ _ h => h) (fun _ _ _ h => h) (fun σ16749 h16750 g16751 f16752 g16753 => ?_)
      refine m_aload_n F rfl e_X10_takeText_231 ?_
      refine r_getC F e_X10_takeText_232 fl_X10_43 h16750 ((fld_eq (g16751 _ (by omega))).trans ((fld_eq (g16741 _ (by omega))).trans f16734)) ?_
      refine m_iload_n F rfl e_X10_takeText_235 ?_
      refine m_aload_n F rfl e_X10_takeText_236 ?_
      refine r_getC F e_X10_takeText_237 fl_X10_43 h16750 ((fld_eq (g16751 _ (by omega))).trans ((fld_eq (g16741 _ (by omega))).trans f16734)) ?_
      refine m_bipush F (v := 8) (by decide) e_X10_takeText_240 ?_
      refine m_iload_n F rfl e_X10_takeText_242 ?_
      refine m_iadd F e_X10_takeText_243 ?_
      refine Wm.topE (w := 9) (by decide) ?_
      refine r_iald F (len := 16) (j := 9) e_X10_takeText_244 h16750 (fun _ h => h) (by decide) (by decide) (by unfold vp_in; decide) (fun x16754 h16755 f16756 => ?_)
      obtain ⟨n16757, hn16757, rfl, pn16757, rn16757⟩ := h16755
      refine r_iast F (g' := (⟨T, Z, u, h, (mkP P16744.n0 P16744.n2 P16744.n5 P16744.n7 P16744.m0 P16744.m5 (min 2 P16744.w7) P16744.w7 P16744.kk P16744.a P16744.b0 P16744.b1 P16744.b2 P16744.b3), L⟩ : RG)) (len := 16) (j := 1) e_X10_takeText_245 h16750 (fun _ h => h) (fun f h => ⟨f, rfl, h⟩) (by decide) (by decide) (by decide) (by unfold vp_in; decide) ⟨n16757, by omega, rfl, fun _ h8 => rn16757 (by omega) (show 9 < 8 + P16744.w7 by have h6 : 1 < min 2 P16744.w7 := h8; omega), fun h7 _ => absurd h7 (by omega)⟩ (fun i hi y hy => by obtain ⟨n9, a9, b9, c9, d9⟩ := hy; exact ⟨n9, a9, b9, fun h7 h8 => c9 h7 (show i < P16744.w2 by have h6 : i < min 2 P16744.w7 := h8; omega), d9⟩) (CR.chg (by intro k hk i x h; unfold EI at h ⊢; split at h <;> first | exact h | exact absurd rfl hk | trivial) rfl rfl) (fun σ16758 h16759 g16760 f16761 g16762 => ?_)
      obtain ⟨P16763, eP16763⟩ : ∃ P9, P9 = (mkP P16744.n0 P16744.n2 P16744.n5 P16744.n7 P16744.m0 P16744.m5 (min 2 P16744.w7) P16744.w7 P16744.kk P16744.a P16744.b0 P16744.b1 P16744.b2 P16744.b3) := ⟨_, rfl⟩
      rw [← eP16763] at h16759
      have fP16763 : P16763.n0 = P16744.n0 ∧ P16763.n2 = P16744.n2 ∧ P16763.n5 = P16744.n5 ∧ P16763.n7 = P16744.n7 ∧ P16763.m0 = P16744.m0 ∧ P16763.m5 = P16744.m5 ∧ P16763.w2 = min 2 P16744.w7 ∧ P16763.w7 = P16744.w7 ∧ P16763.kk = P16744.kk ∧ P16763.a = P16744.a ∧ P16763.b0 = P16744.b0 ∧ P16763.b1 = P16744.b1 ∧ P16763.b2 = P16744.b2 ∧ P16763.b3 = P16744.b3 := by rw [eP16763]; exact ⟨rfl, rfl, rfl, rfl, rfl, rfl, rfl, rfl, rfl, rfl, rfl, rfl, rfl, rfl⟩
      refine m_iinc F (v := 2) (lv' := [(1, .int 2), (0, .ref c)]) e_X10_takeText_246 rfl (by decide) (by decide) rfl ?_
      refine m_goto F e_X10_takeText_249 ?_
      refine m_iload_n F rfl e_X10_takeText_210 ?_
      refine m_bipush F (v := 8) (by decide) e_X10_takeText_211 ?_
      refine m_icmp_ge F e_X10_takeText_213 (fun q => absurd q (by decide)) (fun _ => ?_)
      refine m_aload_n F rfl e_X10_takeText_216 ?_
      refine r_getC F e_X10_takeText_217 fl_X10_40 h16759 ((fld_eq (g16760 _ (by omega))).trans ((fld_eq (g16751 _ (by omega))).trans ((fld_eq (g16741 _ (by omega))).trans ((fld_eq (g16731 _ (by omega))).trans f16724)))) ?_
      refine m_iload_n F rfl e_X10_takeText_220 ?_
      refine m_aload_n F rfl e_X10_takeText_221 ?_
      refine r_getC F e_X10_takeText_222 fl_X10_40 h16759 ((fld_eq (g16760 _ (by omega))).trans ((fld_eq (g16751 _ (by omega))).trans ((fld_eq (g16741 _ (by omega))).trans ((fld_eq (g16731 _ (by omega))).trans f16724)))) ?_
      refine m_bipush F (v := 8) (by decide) e_X10_takeText_225 ?_
      refine m_iload_n F rfl e_X10_takeText_227 ?_
      refine m_iadd F e_X10_takeText_228 ?_
      refine Wm.topE (w := 10) (by decide) ?_
      refine r_iald F (len := 16) (j := 10) e_X10_takeText_229 h16759 (fun _ h => h) (by decide) (by decide) (by unfold vp_in; decide) (fun x16764 h16765 f16766 => ?_)
      obtain ⟨n16767, hn16767, rfl⟩ := h16765
      refine r_iast F (g' := (⟨T, Z, u, h, P16763, L⟩ : RG)) (len := 16) (j := 2) e_X10_takeText_230 h16759 (fun _ h => h) (fun f h => ⟨f, rfl, h⟩) (by decide) (by decide) (by decide) (by unfold vp_in; decide) ⟨n16767, by omega, rfl⟩ (fun _ _ _ h => h) (fun _ _ _ h => h) (fun σ16768 h16769 g16770 f16771 g16772 => ?_)
      refine m_aload_n F rfl e_X10_takeText_231 ?_
      refine r_getC F e_X10_takeText_232 fl_X10_43 h16769 ((fld_eq (g16770 _ (by omega))).trans ((fld_eq (g16760 _ (by omega))).trans ((fld_eq (g16751 _ (by omega))).trans ((fld_eq (g16741 _ (by omega))).trans f16734)))) ?_
      refine m_iload_n F rfl e_X10_takeText_235 ?_
      refine m_aload_n F rfl e_X10_takeText_236 ?_
      refine r_getC F e_X10_takeText_237 fl_X10_43 h16769 ((fld_eq (g16770 _ (by omega))).trans ((fld_eq (g16760 _ (by omega))).trans ((fld_eq (g16751 _ (by omega))).trans ((fld_eq (g16741 _ (by omega))).trans f16734)))) ?_
      refine m_bipush F (v := 8) (by decide) e_X10_takeText_240 ?_
      refine m_iload_n F rfl e_X10_takeText_242 ?_
      refine m_iadd F e_X10_takeText_243 ?_
      refine Wm.topE (w := 10) (by decide) ?_
      refine r_iald F (len := 16) (j := 10) e_X10_takeText_244 h16769 (fun _ h => h) (by decide) (by decide) (by unfold vp_in; decide) (fun x16773 h16774 f16775 => ?_)
      obtain ⟨n16776, hn16776, rfl, pn16776, rn16776⟩ := h16774
      refine r_iast F (g' := (⟨T, Z, u, h, (mkP P16763.n0 P16763.n2 P16763.n5 P16763.n7 P16763.m0 P16763.m5 (min 3 P16763.w7) P16763.w7 P16763.kk P16763.a P16763.b0 P16763.b1 P16763.b2 P16763.b3), L⟩ : RG)) (len := 16) (j := 2) e_X10_takeText_245 h16769 (fun _ h => h) (fun f h => ⟨f, rfl, h⟩) (by decide) (by decide) (by decide) (by unfold vp_in; decide) ⟨n16776, by omega, rfl, fun _ h8 => rn16776 (by omega) (show 10 < 8 + P16763.w7 by have h6 : 2 < min 3 P16763.w7 := h8; omega), fun h7 _ => absurd h7 (by omega)⟩ (fun i hi y hy => by obtain ⟨n9, a9, b9, c9, d9⟩ := hy; exact ⟨n9, a9, b9, fun h7 h8 => c9 h7 (show i < P16763.w2 by have h6 : i < min 3 P16763.w7 := h8; omega), d9⟩) (CR.chg (by intro k hk i x h; unfold EI at h ⊢; split at h <;> first | exact h | exact absurd rfl hk | trivial) rfl rfl) (fun σ16777 h16778 g16779 f16780 g16781 => ?_)
      obtain ⟨P16782, eP16782⟩ : ∃ P9, P9 = (mkP P16763.n0 P16763.n2 P16763.n5 P16763.n7 P16763.m0 P16763.m5 (min 3 P16763.w7) P16763.w7 P16763.kk P16763.a P16763.b0 P16763.b1 P16763.b2 P16763.b3) := ⟨_, rfl⟩
      rw [← eP16782] at h16778
      have fP16782 : P16782.n0 = P16763.n0 ∧ P16782.n2 = P16763.n2 ∧ P16782.n5 = P16763.n5 ∧ P16782.n7 = P16763.n7 ∧ P16782.m0 = P16763.m0 ∧ P16782.m5 = P16763.m5 ∧ P16782.w2 = min 3 P16763.w7 ∧ P16782.w7 = P16763.w7 ∧ P16782.kk = P16763.kk ∧ P16782.a = P16763.a ∧ P16782.b0 = P16763.b0 ∧ P16782.b1 = P16763.b1 ∧ P16782.b2 = P16763.b2 ∧ P16782.b3 = P16763.b3 := by rw [eP16782]; exact ⟨rfl, rfl, rfl, rfl, rfl, rfl, rfl, rfl, rfl, rfl, rfl, rfl, rfl, rfl⟩
      refine m_iinc F (v := 3) (lv' := [(1, .int 3), (0, .ref c)]) e_X10_takeText_246 rfl (by decide) (by decide) rfl ?_
      refine m_goto F e_X10_takeText_249 ?_
      refine m_iload_n F rfl e_X10_takeText_210 ?_
      refine m_bipush F (v := 8) (by decide) e_X10_takeText_211 ?_
      refine m_icmp_ge F e_X10_takeText_213 (fun q => absurd q (by decide)) (fun _ => ?_)
      refine m_aload_n F rfl e_X10_takeText_216 ?_
      refine r_getC F e_X10_takeText_217 fl_X10_40 h16778 ((fld_eq (g16779 _ (by omega))).trans ((fld_eq (g16770 _ (by omega))).trans ((fld_eq (g16760 _ (by omega))).trans ((fld_eq (g16751 _ (by omega))).trans ((fld_eq (g16741 _ (by omega))).trans ((fld_eq (g16731 _ (by omega))).trans f16724)))))) ?_
      refine m_iload_n F rfl e_X10_takeText_220 ?_
      refine m_aload_n F rfl e_X10_takeText_221 ?_
      refine r_getC F e_X10_takeText_222 fl_X10_40 h16778 ((fld_eq (g16779 _ (by omega))).trans ((fld_eq (g16770 _ (by omega))).trans ((fld_eq (g16760 _ (by omega))).trans ((fld_eq (g16751 _ (by omega))).trans ((fld_eq (g16741 _ (by omega))).trans ((fld_eq (g16731 _ (by omega))).trans f16724)))))) ?_
      refine m_bipush F (v := 8) (by decide) e_X10_takeText_225 ?_
      refine m_iload_n F rfl e_X10_takeText_227 ?_
      refine m_iadd F e_X10_takeText_228 ?_
      refine Wm.topE (w := 11) (by decide) ?_
      refine r_iald F (len := 16) (j := 11) e_X10_takeText_229 h16778 (fun _ h => h) (by decide) (by decide) (by unfold vp_in; decide) (fun x16783 h16784 f16785 => ?_)
      obtain ⟨n16786, hn16786, rfl⟩ := h16784
      refine r_iast F (g' := (⟨T, Z, u, h, P16782, L⟩ : RG)) (len := 16) (j := 3) e_X10_takeText_230 h16778 (fun _ h => h) (fun f h => ⟨f, rfl, h⟩) (by decide) (by decide) (by decide) (by unfold vp_in; decide) ⟨n16786, by omega, rfl⟩ (fun _ _ _ h => h) (fun _ _ _ h => h) (fun σ16787 h16788 g16789 f16790 g16791 => ?_)
      refine m_aload_n F rfl e_X10_takeText_231 ?_
      refine r_getC F e_X10_takeText_232 fl_X10_43 h16788 ((fld_eq (g16789 _ (by omega))).trans ((fld_eq (g16779 _ (by omega))).trans ((fld_eq (g16770 _ (by omega))).trans ((fld_eq (g16760 _ (by omega))).trans ((fld_eq (g16751 _ (by omega))).trans ((fld_eq (g16741 _ (by omega))).trans f16734)))))) ?_
      refine m_iload_n F rfl e_X10_takeText_235 ?_
      refine m_aload_n F rfl e_X10_takeText_236 ?_
      refine r_getC F e_X10_takeText_237 fl_X10_43 h16788 ((fld_eq (g16789 _ (by omega))).trans ((fld_eq (g16779 _ (by omega))).trans ((fld_eq (g16770 _ (by omega))).trans ((fld_eq (g16760 _ (by omega))).trans ((fld_eq (g16751 _ (by omega))).trans ((fld_eq (g16741 _ (by omega))).trans f16734)))))) ?_
      refine m_bipush F (v := 8) (by decide) e_X10_takeText_240 ?_
      refine m_iload_n F rfl e_X10_takeText_242 ?_
      refine m_iadd F e_X10_takeText_243 ?_
      refine Wm.topE (w := 11) (by decide) ?_
      refine r_iald F (len := 16) (j := 11) e_X10_takeText_244 h16788 (fun _ h => h) (by decide) (by decide) (by unfold vp_in; decide) (fun x16792 h16793 f16794 => ?_)
      obtain ⟨n16795, hn16795, rfl, pn16795, rn16795⟩ := h16793
      refine r_iast F (g' := (⟨T, Z, u, h, (mkP P16782.n0 P16782.n2 P16782.n5 P16782.n7 P16782.m0 P16782.m5 (min 4 P16782.w7) P16782.w7 P16782.kk P16782.a P16782.b0 P16782.b1 P16782.b2 P16782.b3), L⟩ : RG)) (len := 16) (j := 3) e_X10_takeText_245 h16788 (fun _ h => h) (fun f h => ⟨f, rfl, h⟩) (by decide) (by decide) (by decide) (by unfold vp_in; decide) ⟨n16795, by omega, rfl, fun _ h8 => rn16795 (by omega) (show 11 < 8 + P16782.w7 by have h6 : 3 < min 4 P16782.w7 := h8; omega), fun h7 _ => absurd h7 (by omega)⟩ (fun i hi y hy => by obtain ⟨n9, a9, b9, c9, d9⟩ := hy; exact ⟨n9, a9, b9, fun h7 h8 => c9 h7 (show i < P16782.w2 by have h6 : i < min 4 P16782.w7 := h8; omega), d9⟩) (CR.chg (by intro k hk i x h; unfold EI at h ⊢; split at h <;> first | exact h | exact absurd rfl hk | trivial) rfl rfl) (fun σ16796 h16797 g16798 f16799 g16800 => ?_)
      obtain ⟨P16801, eP16801⟩ : ∃ P9, P9 = (mkP P16782.n0 P16782.n2 P16782.n5 P16782.n7 P16782.m0 P16782.m5 (min 4 P16782.w7) P16782.w7 P16782.kk P16782.a P16782.b0 P16782.b1 P16782.b2 P16782.b3) := ⟨_, rfl⟩
      rw [← eP16801] at h16797
      have fP16801 : P16801.n0 = P16782.n0 ∧ P16801.n2 = P16782.n2 ∧ P16801.n5 = P16782.n5 ∧ P16801.n7 = P16782.n7 ∧ P16801.m0 = P16782.m0 ∧ P16801.m5 = P16782.m5 ∧ P16801.w2 = min 4 P16782.w7 ∧ P16801.w7 = P16782.w7 ∧ P16801.kk = P16782.kk ∧ P16801.a = P16782.a ∧ P16801.b0 = P16782.b0 ∧ P16801.b1 = P16782.b1 ∧ P16801.b2 = P16782.b2 ∧ P16801.b3 = P16782.b3 := by rw [eP16801]; exact ⟨rfl, rfl, rfl, rfl, rfl, rfl, rfl, rfl, rfl, rfl, rfl, rfl, rfl, rfl⟩
      refine m_iinc F (v := 4) (lv' := [(1, .int 4), (0, .ref c)]) e_X10_takeText_246 rfl (by decide) (by decide) rfl ?_
      refine m_goto F e_X10_takeText_249 ?_
      refine m_iload_n F rfl e_X10_takeText_210 ?_
      refine m_bipush F (v := 8) (by decide) e_X10_takeText_211 ?_
      refine m_icmp_ge F e_X10_takeText_213 (fun q => absurd q (by decide)) (fun _ => ?_)
      refine m_aload_n F rfl e_X10_takeText_216 ?_
      refine r_getC F e_X10_takeText_217 fl_X10_40 h16797 ((fld_eq (g16798 _ (by omega))).trans ((fld_eq (g16789 _ (by omega))).trans ((fld_eq (g16779 _ (by omega))).trans ((fld_eq (g16770 _ (by omega))).trans ((fld_eq (g16760 _ (by omega))).trans ((fld_eq (g16751 _ (by omega))).trans ((fld_eq (g16741 _ (by omega))).trans ((fld_eq (g16731 _ (by omega))).trans f16724)))))))) ?_
      refine m_iload_n F rfl e_X10_takeText_220 ?_
      refine m_aload_n F rfl e_X10_takeText_221 ?_
      refine r_getC F e_X10_takeText_222 fl_X10_40 h16797 ((fld_eq (g16798 _ (by omega))).trans ((fld_eq (g16789 _ (by omega))).trans ((fld_eq (g16779 _ (by omega))).trans ((fld_eq (g16770 _ (by omega))).trans ((fld_eq (g16760 _ (by omega))).trans ((fld_eq (g16751 _ (by omega))).trans ((fld_eq (g16741 _ (by omega))).trans ((fld_eq (g16731 _ (by omega))).trans f16724)))))))) ?_
      refine m_bipush F (v := 8) (by decide) e_X10_takeText_225 ?_
      refine m_iload_n F rfl e_X10_takeText_227 ?_
      refine m_iadd F e_X10_takeText_228 ?_
      refine Wm.topE (w := 12) (by decide) ?_
      refine r_iald F (len := 16) (j := 12) e_X10_takeText_229 h16797 (fun _ h => h) (by decide) (by decide) (by unfold vp_in; decide) (fun x16802 h16803 f16804 => ?_)
      obtain ⟨n16805, hn16805, rfl⟩ := h16803
      refine r_iast F (g' := (⟨T, Z, u, h, P16801, L⟩ : RG)) (len := 16) (j := 4) e_X10_takeText_230 h16797 (fun _ h => h) (fun f h => ⟨f, rfl, h⟩) (by decide) (by decide) (by decide) (by unfold vp_in; decide) ⟨n16805, by omega, rfl⟩ (fun _ _ _ h => h) (fun _ _ _ h => h) (fun σ16806 h16807 g16808 f16809 g16810 => ?_)
      refine m_aload_n F rfl e_X10_takeText_231 ?_
      refine r_getC F e_X10_takeText_232 fl_X10_43 h16807 ((fld_eq (g16808 _ (by omega))).trans ((fld_eq (g16798 _ (by omega))).trans ((fld_eq (g16789 _ (by omega))).trans ((fld_eq (g16779 _ (by omega))).trans ((fld_eq (g16770 _ (by omega))).trans ((fld_eq (g16760 _ (by omega))).trans ((fld_eq (g16751 _ (by omega))).trans ((fld_eq (g16741 _ (by omega))).trans f16734)))))))) ?_
      refine m_iload_n F rfl e_X10_takeText_235 ?_
      refine m_aload_n F rfl e_X10_takeText_236 ?_
      refine r_getC F e_X10_takeText_237 fl_X10_43 h16807 ((fld_eq (g16808 _ (by omega))).trans ((fld_eq (g16798 _ (by omega))).trans ((fld_eq (g16789 _ (by omega))).trans ((fld_eq (g16779 _ (by omega))).trans ((fld_eq (g16770 _ (by omega))).trans ((fld_eq (g16760 _ (by omega))).trans ((fld_eq (g16751 _ (by omega))).trans ((fld_eq (g16741 _ (by omega))).trans f16734)))))))) ?_
      refine m_bipush F (v := 8) (by decide) e_X10_takeText_240 ?_
      refine m_iload_n F rfl e_X10_takeText_242 ?_
      refine m_iadd F e_X10_takeText_243 ?_
      refine Wm.topE (w := 12) (by decide) ?_
      refine r_iald F (len := 16) (j := 12) e_X10_takeText_244 h16807 (fun _ h => h) (by decide) (by decide) (by unfold vp_in; decide) (fun x16811 h16812 f16813 => ?_)
      obtain ⟨n16814, hn16814, rfl, pn16814, rn16814⟩ := h16812
      refine r_iast F (g' := (⟨T, Z, u, h, (mkP P16801.n0 P16801.n2 P16801.n5 P16801.n7 P16801.m0 P16801.m5 (min 5 P16801.w7) P16801.w7 P16801.kk P16801.a P16801.b0 P16801.b1 P16801.b2 P16801.b3), L⟩ : RG)) (len := 16) (j := 4) e_X10_takeText_245 h16807 (fun _ h => h) (fun f h => ⟨f, rfl, h⟩) (by decide) (by decide) (by decide) (by unfold vp_in; decide) ⟨n16814, by omega, rfl, fun _ h8 => rn16814 (by omega) (show 12 < 8 + P16801.w7 by have h6 : 4 < min 5 P16801.w7 := h8; omega), fun h7 _ => absurd h7 (by omega)⟩ (fun i hi y hy => by obtain ⟨n9, a9, b9, c9, d9⟩ := hy; exact ⟨n9, a9, b9, fun h7 h8 => c9 h7 (show i < P16801.w2 by have h6 : i < min 5 P16801.w7 := h8; omega), d9⟩) (CR.chg (by intro k hk i x h; unfold EI at h ⊢; split at h <;> first | exact h | exact absurd rfl hk | trivial) rfl rfl) (fun σ16815 h16816 g16817 f16818 g16819 => ?_)
      obtain ⟨P16820, eP16820⟩ : ∃ P9, P9 = (mkP P16801.n0 P16801.n2 P16801.n5 P16801.n7 P16801.m0 P16801.m5 (min 5 P16801.w7) P16801.w7 P16801.kk P16801.a P16801.b0 P16801.b1 P16801.b2 P16801.b3) := ⟨_, rfl⟩
      rw [← eP16820] at h16816
      have fP16820 : P16820.n0 = P16801.n0 ∧ P16820.n2 = P16801.n2 ∧ P16820.n5 = P16801.n5 ∧ P16820.n7 = P16801.n7 ∧ P16820.m0 = P16801.m0 ∧ P16820.m5 = P16801.m5 ∧ P16820.w2 = min 5 P16801.w7 ∧ P16820.w7 = P16801.w7 ∧ P16820.kk = P16801.kk ∧ P16820.a = P16801.a ∧ P16820.b0 = P16801.b0 ∧ P16820.b1 = P16801.b1 ∧ P16820.b2 = P16801.b2 ∧ P16820.b3 = P16801.b3 := by rw [eP16820]; exact ⟨rfl, rfl, rfl, rfl, rfl, rfl, rfl, rfl, rfl, rfl, rfl, rfl, rfl, rfl⟩
      refine m_iinc F (v := 5) (lv' := [(1, .int 5), (0, .ref c)]) e_X10_takeText_246 rfl (by decide) (by decide) rfl ?_
      refine m_goto F e_X10_takeText_249 ?_
      refine m_iload_n F rfl e_X10_takeText_210 ?_
      refine m_bipush F (v := 8) (by decide) e_X10_takeText_211 ?_
      refine m_icmp_ge F e_X10_takeText_213 (fun q => absurd q (by decide)) (fun _ => ?_)
      refine m_aload_n F rfl e_X10_takeText_216 ?_
      refine r_getC F e_X10_takeText_217 fl_X10_40 h16816 ((fld_eq (g16817 _ (by omega))).trans ((fld_eq (g16808 _ (by omega))).trans ((fld_eq (g16798 _ (by omega))).trans ((fld_eq (g16789 _ (by omega))).trans ((fld_eq (g16779 _ (by omega))).trans ((fld_eq (g16770 _ (by omega))).trans ((fld_eq (g16760 _ (by omega))).trans ((fld_eq (g16751 _ (by omega))).trans ((fld_eq (g16741 _ (by omega))).trans ((fld_eq (g16731 _ (by omega))).trans f16724)))))))))) ?_
      refine m_iload_n F rfl e_X10_takeText_220 ?_
      refine m_aload_n F rfl e_X10_takeText_221 ?_
      refine r_getC F e_X10_takeText_222 fl_X10_40 h16816 ((fld_eq (g16817 _ (by omega))).trans ((fld_eq (g16808 _ (by omega))).trans ((fld_eq (g16798 _ (by omega))).trans ((fld_eq (g16789 _ (by omega))).trans ((fld_eq (g16779 _ (by omega))).trans ((fld_eq (g16770 _ (by omega))).trans ((fld_eq (g16760 _ (by omega))).trans ((fld_eq (g16751 _ (by omega))).trans ((fld_eq (g16741 _ (by omega))).trans ((fld_eq (g16731 _ (by omega))).trans f16724)))))))))) ?_
      refine m_bipush F (v := 8) (by decide) e_X10_takeText_225 ?_
      refine m_iload_n F rfl e_X10_takeText_227 ?_
      refine m_iadd F e_X10_takeText_228 ?_
      refine Wm.topE (w := 13) (by decide) ?_
      refine r_iald F (len := 16) (j := 13) e_X10_takeText_229 h16816 (fun _ h => h) (by decide) (by decide) (by unfold vp_in; decide) (fun x16821 h16822 f16823 => ?_)
      obtain ⟨n16824, hn16824, rfl⟩ := h16822
      refine r_iast F (g' := (⟨T, Z, u, h, P16820, L⟩ : RG)) (len := 16) (j := 5) e_X10_takeText_230 h16816 (fun _ h => h) (fun f h => ⟨f, rfl, h⟩) (by decide) (by decide) (by decide) (by unfold vp_in; decide) ⟨n16824, by omega, rfl⟩ (fun _ _ _ h => h) (fun _ _ _ h => h) (fun σ16825 h16826 g16827 f16828 g16829 => ?_)
      refine m_aload_n F rfl e_X10_takeText_231 ?_
      refine r_getC F e_X10_takeText_232 fl_X10_43 h16826 ((fld_eq (g16827 _ (by omega))).trans ((fld_eq (g16817 _ (by omega))).trans ((fld_eq (g16808 _ (by omega))).trans ((fld_eq (g16798 _ (by omega))).trans ((fld_eq (g16789 _ (by omega))).trans ((fld_eq (g16779 _ (by omega))).trans ((fld_eq (g16770 _ (by omega))).trans ((fld_eq (g16760 _ (by omega))).trans ((fld_eq (g16751 _ (by omega))).trans ((fld_eq (g16741 _ (by omega))).trans f16734)))))))))) ?_
      refine m_iload_n F rfl e_X10_takeText_235 ?_
      refine m_aload_n F rfl e_X10_takeText_236 ?_
      refine r_getC F e_X10_takeText_237 fl_X10_43 h16826 ((fld_eq (g16827 _ (by omega))).trans ((fld_eq (g16817 _ (by omega))).trans ((fld_eq (g16808 _ (by omega))).trans ((fld_eq (g16798 _ (by omega))).trans ((fld_eq (g16789 _ (by omega))).trans ((fld_eq (g16779 _ (by omega))).trans ((fld_eq (g16770 _ (by omega))).trans ((fld_eq (g16760 _ (by omega))).trans ((fld_eq (g16751 _ (by omega))).trans ((fld_eq (g16741 _ (by omega))).trans f16734)))))))))) ?_
      refine m_bipush F (v := 8) (by decide) e_X10_takeText_240 ?_
      refine m_iload_n F rfl e_X10_takeText_242 ?_
      refine m_iadd F e_X10_takeText_243 ?_
      refine Wm.topE (w := 13) (by decide) ?_
      refine r_iald F (len := 16) (j := 13) e_X10_takeText_244 h16826 (fun _ h => h) (by decide) (by decide) (by unfold vp_in; decide) (fun x16830 h16831 f16832 => ?_)
      obtain ⟨n16833, hn16833, rfl, pn16833, rn16833⟩ := h16831
      refine r_iast F (g' := (⟨T, Z, u, h, (mkP P16820.n0 P16820.n2 P16820.n5 P16820.n7 P16820.m0 P16820.m5 (min 6 P16820.w7) P16820.w7 P16820.kk P16820.a P16820.b0 P16820.b1 P16820.b2 P16820.b3), L⟩ : RG)) (len := 16) (j := 5) e_X10_takeText_245 h16826 (fun _ h => h) (fun f h => ⟨f, rfl, h⟩) (by decide) (by decide) (by decide) (by unfold vp_in; decide) ⟨n16833, by omega, rfl, fun _ h8 => rn16833 (by omega) (show 13 < 8 + P16820.w7 by have h6 : 5 < min 6 P16820.w7 := h8; omega), fun h7 _ => absurd h7 (by omega)⟩ (fun i hi y hy => by obtain ⟨n9, a9, b9, c9, d9⟩ := hy; exact ⟨n9, a9, b9, fun h7 h8 => c9 h7 (show i < P16820.w2 by have h6 : i < min 6 P16820.w7 := h8; omega), d9⟩) (CR.chg (by intro k hk i x h; unfold EI at h ⊢; split at h <;> first | exact h | exact absurd rfl hk | trivial) rfl rfl) (fun σ16834 h16835 g16836 f16837 g16838 => ?_)
      obtain ⟨P16839, eP16839⟩ : ∃ P9, P9 = (mkP P16820.n0 P16820.n2 P16820.n5 P16820.n7 P16820.m0 P16820.m5 (min 6 P16820.w7) P16820.w7 P16820.kk P16820.a P16820.b0 P16820.b1 P16820.b2 P16820.b3) := ⟨_, rfl⟩
      rw [← eP16839] at h16835
      have fP16839 : P16839.n0 = P16820.n0 ∧ P16839.n2 = P16820.n2 ∧ P16839.n5 = P16820.n5 ∧ P16839.n7 = P16820.n7 ∧ P16839.m0 = P16820.m0 ∧ P16839.m5 = P16820.m5 ∧ P16839.w2 = min 6 P16820.w7 ∧ P16839.w7 = P16820.w7 ∧ P16839.kk = P16820.kk ∧ P16839.a = P16820.a ∧ P16839.b0 = P16820.b0 ∧ P16839.b1 = P16820.b1 ∧ P16839.b2 = P16820.b2 ∧ P16839.b3 = P16820.b3 := by rw [eP16839]; exact ⟨rfl, rfl, rfl, rfl, rfl, rfl, rfl, rfl, rfl, rfl, rfl, rfl, rfl, rfl⟩
      refine m_iinc F (v := 6) (lv' := [(1, .int 6), (0, .ref c)]) e_X10_takeText_246 rfl (by decide) (by decide) rfl ?_
      refine m_goto F e_X10_takeText_249 ?_
      refine m_iload_n F rfl e_X10_takeText_210 ?_
      refine m_bipush F (v := 8) (by decide) e_X10_takeText_211 ?_
      refine m_icmp_ge F e_X10_takeText_213 (fun q => absurd q (by decide)) (fun _ => ?_)
      refine m_aload_n F rfl e_X10_takeText_216 ?_
      refine r_getC F e_X10_takeText_217 fl_X10_40 h16835 ((fld_eq (g16836 _ (by omega))).trans ((fld_eq (g16827 _ (by omega))).trans ((fld_eq (g16817 _ (by omega))).trans ((fld_eq (g16808 _ (by omega))).trans ((fld_eq (g16798 _ (by omega))).trans ((fld_eq (g16789 _ (by omega))).trans ((fld_eq (g16779 _ (by omega))).trans ((fld_eq (g16770 _ (by omega))).trans ((fld_eq (g16760 _ (by omega))).trans ((fld_eq (g16751 _ (by omega))).trans ((fld_eq (g16741 _ (by omega))).trans ((fld_eq (g16731 _ (by omega))).trans f16724)))))))))))) ?_
      refine m_iload_n F rfl e_X10_takeText_220 ?_
      refine m_aload_n F rfl e_X10_takeText_221 ?_
      refine r_getC F e_X10_takeText_222 fl_X10_40 h16835 ((fld_eq (g16836 _ (by omega))).trans ((fld_eq (g16827 _ (by omega))).trans ((fld_eq (g16817 _ (by omega))).trans ((fld_eq (g16808 _ (by omega))).trans ((fld_eq (g16798 _ (by omega))).trans ((fld_eq (g16789 _ (by omega))).trans ((fld_eq (g16779 _ (by omega))).trans ((fld_eq (g16770 _ (by omega))).trans ((fld_eq (g16760 _ (by omega))).trans ((fld_eq (g16751 _ (by omega))).trans ((fld_eq (g16741 _ (by omega))).trans ((fld_eq (g16731 _ (by omega))).trans f16724)))))))))))) ?_
      refine m_bipush F (v := 8) (by decide) e_X10_takeText_225 ?_
      refine m_iload_n F rfl e_X10_takeText_227 ?_
      refine m_iadd F e_X10_takeText_228 ?_
      refine Wm.topE (w := 14) (by decide) ?_
      refine r_iald F (len := 16) (j := 14) e_X10_takeText_229 h16835 (fun _ h => h) (by decide) (by decide) (by unfold vp_in; decide) (fun x16840 h16841 f16842 => ?_)
      obtain ⟨n16843, hn16843, rfl⟩ := h16841
      refine r_iast F (g' := (⟨T, Z, u, h, P16839, L⟩ : RG)) (len := 16) (j := 6) e_X10_takeText_230 h16835 (fun _ h => h) (fun f h => ⟨f, rfl, h⟩) (by decide) (by decide) (by decide) (by unfold vp_in; decide) ⟨n16843, by omega, rfl⟩ (fun _ _ _ h => h) (fun _ _ _ h => h) (fun σ16844 h16845 g16846 f16847 g16848 => ?_)
      refine m_aload_n F rfl e_X10_takeText_231 ?_
      refine r_getC F e_X10_takeText_232 fl_X10_43 h16845 ((fld_eq (g16846 _ (by omega))).trans ((fld_eq (g16836 _ (by omega))).trans ((fld_eq (g16827 _ (by omega))).trans ((fld_eq (g16817 _ (by omega))).trans ((fld_eq (g16808 _ (by omega))).trans ((fld_eq (g16798 _ (by omega))).trans ((fld_eq (g16789 _ (by omega))).trans ((fld_eq (g16779 _ (by omega))).trans ((fld_eq (g16770 _ (by omega))).trans ((fld_eq (g16760 _ (by omega))).trans ((fld_eq (g16751 _ (by omega))).trans ((fld_eq (g16741 _ (by omega))).trans f16734)))))))))))) ?_
      refine m_iload_n F rfl e_X10_takeText_235 ?_
      refine m_aload_n F rfl e_X10_takeText_236 ?_
      refine r_getC F e_X10_takeText_237 fl_X10_43 h16845 ((fld_eq (g16846 _ (by omega))).trans ((fld_eq (g16836 _ (by omega))).trans ((fld_eq (g16827 _ (by omega))).trans ((fld_eq (g16817 _ (by omega))).trans ((fld_eq (g16808 _ (by omega))).trans ((fld_eq (g16798 _ (by omega))).trans ((fld_eq (g16789 _ (by omega))).trans ((fld_eq (g16779 _ (by omega))).trans ((fld_eq (g16770 _ (by omega))).trans ((fld_eq (g16760 _ (by omega))).trans ((fld_eq (g16751 _ (by omega))).trans ((fld_eq (g16741 _ (by omega))).trans f16734)))))))))))) ?_
      refine m_bipush F (v := 8) (by decide) e_X10_takeText_240 ?_
      refine m_iload_n F rfl e_X10_takeText_242 ?_
      refine m_iadd F e_X10_takeText_243 ?_
      refine Wm.topE (w := 14) (by decide) ?_
      refine r_iald F (len := 16) (j := 14) e_X10_takeText_244 h16845 (fun _ h => h) (by decide) (by decide) (by unfold vp_in; decide) (fun x16849 h16850 f16851 => ?_)
      obtain ⟨n16852, hn16852, rfl, pn16852, rn16852⟩ := h16850
      refine r_iast F (g' := (⟨T, Z, u, h, (mkP P16839.n0 P16839.n2 P16839.n5 P16839.n7 P16839.m0 P16839.m5 (min 7 P16839.w7) P16839.w7 P16839.kk P16839.a P16839.b0 P16839.b1 P16839.b2 P16839.b3), L⟩ : RG)) (len := 16) (j := 6) e_X10_takeText_245 h16845 (fun _ h => h) (fun f h => ⟨f, rfl, h⟩) (by decide) (by decide) (by decide) (by unfold vp_in; decide) ⟨n16852, by omega, rfl, fun _ h8 => rn16852 (by omega) (show 14 < 8 + P16839.w7 by have h6 : 6 < min 7 P16839.w7 := h8; omega), fun h7 _ => absurd h7 (by omega)⟩ (fun i hi y hy => by obtain ⟨n9, a9, b9, c9, d9⟩ := hy; exact ⟨n9, a9, b9, fun h7 h8 => c9 h7 (show i < P16839.w2 by have h6 : i < min 7 P16839.w7 := h8; omega), d9⟩) (CR.chg (by intro k hk i x h; unfold EI at h ⊢; split at h <;> first | exact h | exact absurd rfl hk | trivial) rfl rfl) (fun σ16853 h16854 g16855 f16856 g16857 => ?_)
      obtain ⟨P16858, eP16858⟩ : ∃ P9, P9 = (mkP P16839.n0 P16839.n2 P16839.n5 P16839.n7 P16839.m0 P16839.m5 (min 7 P16839.w7) P16839.w7 P16839.kk P16839.a P16839.b0 P16839.b1 P16839.b2 P16839.b3) := ⟨_, rfl⟩
      rw [← eP16858] at h16854
      have fP16858 : P16858.n0 = P16839.n0 ∧ P16858.n2 = P16839.n2 ∧ P16858.n5 = P16839.n5 ∧ P16858.n7 = P16839.n7 ∧ P16858.m0 = P16839.m0 ∧ P16858.m5 = P16839.m5 ∧ P16858.w2 = min 7 P16839.w7 ∧ P16858.w7 = P16839.w7 ∧ P16858.kk = P16839.kk ∧ P16858.a = P16839.a ∧ P16858.b0 = P16839.b0 ∧ P16858.b1 = P16839.b1 ∧ P16858.b2 = P16839.b2 ∧ P16858.b3 = P16839.b3 := by rw [eP16858]; exact ⟨rfl, rfl, rfl, rfl, rfl, rfl, rfl, rfl, rfl, rfl, rfl, rfl, rfl, rfl⟩
      refine m_iinc F (v := 7) (lv' := [(1, .int 7), (0, .ref c)]) e_X10_takeText_246 rfl (by decide) (by decide) rfl ?_
      refine m_goto F e_X10_takeText_249 ?_
      refine m_iload_n F rfl e_X10_takeText_210 ?_
      refine m_bipush F (v := 8) (by decide) e_X10_takeText_211 ?_
      refine m_icmp_ge F e_X10_takeText_213 (fun q => absurd q (by decide)) (fun _ => ?_)
      refine m_aload_n F rfl e_X10_takeText_216 ?_
      refine r_getC F e_X10_takeText_217 fl_X10_40 h16854 ((fld_eq (g16855 _ (by omega))).trans ((fld_eq (g16846 _ (by omega))).trans ((fld_eq (g16836 _ (by omega))).trans ((fld_eq (g16827 _ (by omega))).trans ((fld_eq (g16817 _ (by omega))).trans ((fld_eq (g16808 _ (by omega))).trans ((fld_eq (g16798 _ (by omega))).trans ((fld_eq (g16789 _ (by omega))).trans ((fld_eq (g16779 _ (by omega))).trans ((fld_eq (g16770 _ (by omega))).trans ((fld_eq (g16760 _ (by omega))).trans ((fld_eq (g16751 _ (by omega))).trans ((fld_eq (g16741 _ (by omega))).trans ((fld_eq (g16731 _ (by omega))).trans f16724)))))))))))))) ?_
      refine m_iload_n F rfl e_X10_takeText_220 ?_
      refine m_aload_n F rfl e_X10_takeText_221 ?_
      refine r_getC F e_X10_takeText_222 fl_X10_40 h16854 ((fld_eq (g16855 _ (by omega))).trans ((fld_eq (g16846 _ (by omega))).trans ((fld_eq (g16836 _ (by omega))).trans ((fld_eq (g16827 _ (by omega))).trans ((fld_eq (g16817 _ (by omega))).trans ((fld_eq (g16808 _ (by omega))).trans ((fld_eq (g16798 _ (by omega))).trans ((fld_eq (g16789 _ (by omega))).trans ((fld_eq (g16779 _ (by omega))).trans ((fld_eq (g16770 _ (by omega))).trans ((fld_eq (g16760 _ (by omega))).trans ((fld_eq (g16751 _ (by omega))).trans ((fld_eq (g16741 _ (by omega))).trans ((fld_eq (g16731 _ (by omega))).trans f16724)))))))))))))) ?_
      refine m_bipush F (v := 8) (by decide) e_X10_takeText_225 ?_
      refine m_iload_n F rfl e_X10_takeText_227 ?_
      refine m_iadd F e_X10_takeText_228 ?_
      refine Wm.topE (w := 15) (by decide) ?_
      refine r_iald F (len := 16) (j := 15) e_X10_takeText_229 h16854 (fun _ h => h) (by decide) (by decide) (by unfold vp_in; decide) (fun x16859 h16860 f16861 => ?_)
      obtain ⟨n16862, hn16862, rfl⟩ := h16860
      refine r_iast F (g' := (⟨T, Z, u, h, P16858, L⟩ : RG)) (len := 16) (j := 7) e_X10_takeText_230 h16854 (fun _ h => h) (fun f h => ⟨f, rfl, h⟩) (by decide) (by decide) (by decide) (by unfold vp_in; decide) ⟨n16862, by omega, rfl⟩ (fun _ _ _ h => h) (fun _ _ _ h => h) (fun σ16863 h16864 g16865 f16866 g16867 => ?_)
      refine m_aload_n F rfl e_X10_takeText_231 ?_
      refine r_getC F e_X10_takeText_232 fl_X10_43 h16864 ((fld_eq (g16865 _ (by omega))).trans ((fld_eq (g16855 _ (by omega))).trans ((fld_eq (g16846 _ (by omega))).trans ((fld_eq (g16836 _ (by omega))).trans ((fld_eq (g16827 _ (by omega))).trans ((fld_eq (g16817 _ (by omega))).trans ((fld_eq (g16808 _ (by omega))).trans ((fld_eq (g16798 _ (by omega))).trans ((fld_eq (g16789 _ (by omega))).trans ((fld_eq (g16779 _ (by omega))).trans ((fld_eq (g16770 _ (by omega))).trans ((fld_eq (g16760 _ (by omega))).trans ((fld_eq (g16751 _ (by omega))).trans ((fld_eq (g16741 _ (by omega))).trans f16734)))))))))))))) ?_
      refine m_iload_n F rfl e_X10_takeText_235 ?_
      refine m_aload_n F rfl e_X10_takeText_236 ?_
      refine r_getC F e_X10_takeText_237 fl_X10_43 h16864 ((fld_eq (g16865 _ (by omega))).trans ((fld_eq (g16855 _ (by omega))).trans ((fld_eq (g16846 _ (by omega))).trans ((fld_eq (g16836 _ (by omega))).trans ((fld_eq (g16827 _ (by omega))).trans ((fld_eq (g16817 _ (by omega))).trans ((fld_eq (g16808 _ (by omega))).trans ((fld_eq (g16798 _ (by omega))).trans ((fld_eq (g16789 _ (by omega))).trans ((fld_eq (g16779 _ (by omega))).trans ((fld_eq (g16770 _ (by omega))).trans ((fld_eq (g16760 _ (by omega))).trans ((fld_eq (g16751 _ (by omega))).trans ((fld_eq (g16741 _ (by omega))).trans f16734)))))))))))))) ?_
      refine m_bipush F (v := 8) (by decide) e_X10_takeText_240 ?_
      refine m_iload_n F rfl e_X10_takeText_242 ?_
      refine m_iadd F e_X10_takeText_243 ?_
      refine Wm.topE (w := 15) (by decide) ?_
      refine r_iald F (len := 16) (j := 15) e_X10_takeText_244 h16864 (fun _ h => h) (by decide) (by decide) (by unfold vp_in; decide) (fun x16868 h16869 f16870 => ?_)
      obtain ⟨n16871, hn16871, rfl, pn16871, rn16871⟩ := h16869
      refine r_iast F (g' := (⟨T, Z, u, h, (mkP P16858.n0 P16858.n2 P16858.n5 P16858.n7 P16858.m0 P16858.m5 (min 8 P16858.w7) P16858.w7 P16858.kk P16858.a P16858.b0 P16858.b1 P16858.b2 P16858.b3), L⟩ : RG)) (len := 16) (j := 7) e_X10_takeText_245 h16864 (fun _ h => h) (fun f h => ⟨f, rfl, h⟩) (by decide) (by decide) (by decide) (by unfold vp_in; decide) ⟨n16871, by omega, rfl, fun _ h8 => rn16871 (by omega) (show 15 < 8 + P16858.w7 by have h6 : 7 < min 8 P16858.w7 := h8; omega), fun h7 _ => absurd h7 (by omega)⟩ (fun i hi y hy => by obtain ⟨n9, a9, b9, c9, d9⟩ := hy; exact ⟨n9, a9, b9, fun h7 h8 => c9 h7 (show i < P16858.w2 by have h6 : i < min 8 P16858.w7 := h8; omega), d9⟩) (CR.chg (by intro k hk i x h; unfold EI at h ⊢; split at h <;> first | exact h | exact absurd rfl hk | trivial) rfl rfl) (fun σ16872 h16873 g16874 f16875 g16876 => ?_)
      obtain ⟨P16877, eP16877⟩ : ∃ P9, P9 = (mkP P16858.n0 P16858.n2 P16858.n5 P16858.n7 P16858.m0 P16858.m5 (min 8 P16858.w7) P16858.w7 P16858.kk P16858.a P16858.b0 P16858.b1 P16858.b2 P16858.b3) := ⟨_, rfl⟩
      rw [← eP16877] at h16873
      have fP16877 : P16877.n0 = P16858.n0 ∧ P16877.n2 = P16858.n2 ∧ P16877.n5 = P16858.n5 ∧ P16877.n7 = P16858.n7 ∧ P16877.m0 = P16858.m0 ∧ P16877.m5 = P16858.m5 ∧ P16877.w2 = min 8 P16858.w7 ∧ P16877.w7 = P16858.w7 ∧ P16877.kk = P16858.kk ∧ P16877.a = P16858.a ∧ P16877.b0 = P16858.b0 ∧ P16877.b1 = P16858.b1 ∧ P16877.b2 = P16858.b2 ∧ P16877.b3 = P16858.b3 := by rw [eP16877]; exact ⟨rfl, rfl, rfl, rfl, rfl, rfl, rfl, rfl, rfl, rfl, rfl, rfl, rfl, rfl⟩
      refine m_iinc F (v := 8) (lv' := [(1, .int 8), (0, .ref c)]) e_X10_takeText_246 rfl (by decide) (by decide) rfl ?_
      refine m_goto F e_X10_takeText_249 ?_
      refine m_iload_n F rfl e_X10_takeText_210 ?_
      refine m_bipush F (v := 8) (by decide) e_X10_takeText_211 ?_
      refine m_icmp_ge F e_X10_takeText_213 (fun _ => ?_) (fun q => absurd (by decide) q)
      have oP16878 : OKP P16877 := by unfold OKP; omega
      exact m_vret F hQ e_X10_takeText_252 (⟨P16877, oP16878, (by unfold RT; omega), TB.to hi1 (by omega) (by omega) (by omega) (by omega), h16873, rfl⟩)
    · have c183 : i < 192 := by have hh := mt (nI_leI (a := 192) (b := i) (by omega) (by omega)).mpr q183; omega
      refine m_aload_n F rfl e_X10_takeText_186 ?_
      refine r_get F e_X10_takeText_187 fl_X10_37 h1 rfl (fun v hv f16879 => ?_)
      obtain rfl : v = .ref (c + 10) := hv
      refine m_iload_n F rfl e_X10_takeText_190 ?_
      refine m_aload_n F rfl e_X10_takeText_191 ?_
      refine r_getC F e_X10_takeText_192 fl_X10_37 h1 (f16879) ?_
      refine m_sipush F (v := 192) (by decide) e_X10_takeText_195 ?_
      refine m_iload_n F rfl e_X10_takeText_198 ?_
      refine m_iadd F e_X10_takeText_199 ?_
      refine Wm.topE (w := nI (192 + i)) (nI_add 192 i) ?_
      refine r_iald F (len := 384) (j := 192 + i) e_X10_takeText_200 h1 (fun _ h => h) (by decide) (nI_clamp (by omega)) (vp_in_nI (by omega) (by decide)) (fun x16880 h16881 f16882 => ?_)
      refine r_iast F (g' := (⟨T, Z, u, h, P1, L⟩ : RG)) (len := 384) (j := i) e_X10_takeText_201 h1 (fun _ h => h) (fun f h => ⟨f, rfl, h⟩) (by decide) (by decide) (nI_clamp (by omega)) (vp_in_nI (by omega) (by decide)) trivial (fun _ _ _ h => h) (fun _ _ _ h => h) (fun σ16883 h16884 g16885 f16886 g16887 => ?_)
      refine m_iinc F (v := nI (i + 1)) (lv' := [(1, .int (nI (i + 1))), (0, .ref c)]) e_X10_takeText_202 rfl (nI_add i 1) (by decide) rfl ?_
      refine m_goto F e_X10_takeText_205 ?_
      refine Wm.lvsub (lv' := [(0, .ref c), (1, .int (nI (i + 1)))]) ?_ [1, 0] rfl
      exact ih (i + 1) P1 _ h16884 hP1 (by unfold RT3; omega) ⟨by omega, hi1⟩ (by omega)
set_option maxHeartbeats 16000000 in
set_option maxRecDepth 20000 in
theorem q_X10_takeTextE (l : Launch) (V : VX) (c T Z u h : Nat) (P : NP) (L : Nat → LQ) (N : Nat) (σ : Mem) (nl : Nat) (nm : Nat → Nat) (h0 : HR V c ⟨T, Z, u, h, P, L⟩ σ) (hob : OKB L) (hP : OKP P) (hp0 : MR σ c nl nm) (hp1 : nl ≤ 4) : Ct l V yX10_takeText cX10_takeText 2 none 1 0 0 N σ [.ref c] (fun r τ => ∃ P9 : NP, OKP P9 ∧ RT P P9 ∧ TB P9 nl nm ∧ HS V c (⟨T, Z, u, h, P9, L⟩ : RG) [0, 1, 2, 17, 18, 19, 20, 21, 22, 23] σ τ ∧ r = none) := by
  refine Ct.of (by decide) (Nat.le_of_ble_eq_true rfl) [(0, .ref c)] rfl (fun X hX F hQ => ?_)
  have hPP := hP
  unfold OKP at hPP
  have h1 : HS V c ⟨T, Z, u, h, P, L⟩ [0, 1, 2, 17, 18, 19, 20, 21, 22, 23] σ σ := HS.start h0
  have h2 : HS V c (⟨T, Z, u, h, (mkP P.n0 P.n2 P.n5 P.n7 0 P.m5 0 P.w7 P.kk P.a P.b0 P.b1 P.b2 P.b3), L⟩ : RG) [0, 1, 2, 17, 18, 19, 20, 21, 22, 23] σ σ := HS.start (HR.forget h0)
  obtain ⟨P16888, eP16888⟩ : ∃ P9, P9 = (mkP P.n0 P.n2 P.n5 P.n7 0 P.m5 0 P.w7 P.kk P.a P.b0 P.b1 P.b2 P.b3) := ⟨_, rfl⟩
  rw [← eP16888] at h2
  have fP16888 : P16888.n0 = P.n0 ∧ P16888.n2 = P.n2 ∧ P16888.n5 = P.n5 ∧ P16888.n7 = P.n7 ∧ P16888.m0 = 0 ∧ P16888.m5 = P.m5 ∧ P16888.w2 = 0 ∧ P16888.w7 = P.w7 ∧ P16888.kk = P.kk ∧ P16888.a = P.a ∧ P16888.b0 = P.b0 ∧ P16888.b1 = P.b1 ∧ P16888.b2 = P.b2 ∧ P16888.b3 = P.b3 := by rw [eP16888]; exact ⟨rfl, rfl, rfl, rfl, rfl, rfl, rfl, rfl, rfl, rfl, rfl, rfl, rfl, rfl⟩
  refine m_iconst F (v := 0) (by decide) e_X10_takeText_0 ?_
  refine m_istore_n F (lv' := [(1, .int 0), (0, .ref c)]) e_X10_takeText_1 (by decide) rfl ?_
  refine m_iload_n F rfl e_X10_takeText_2 ?_
  refine m_iconst F (v := 5) (by decide) e_X10_takeText_3 ?_
  refine m_icmp_ge F e_X10_takeText_4 (fun q => absurd q (by decide)) (fun _ => ?_)
  refine m_aload_n F rfl e_X10_takeText_7 ?_
  refine r_get F e_X10_takeText_8 fl_X10_13 h2 rfl (fun v hv f16889 => ?_)
  obtain rfl : v = .ref (c + 2) := hv
  refine m_iload_n F rfl e_X10_takeText_11 ?_
  refine m_aload_n F rfl e_X10_takeText_12 ?_
  refine m_iload_n F rfl e_X10_takeText_13 ?_
  have oP16893 : OKP P16888 := by unfold OKP; omega
  refine r_callV F e_X10_takeText_14 (q_X10_reading0 (x_l X) V c T Z u h P16888 L _ _  h2.1 (hob) oP16893 ) cb_X10_reading ml_X10_157 im_X10_reading se_X10_reading h2 rfl rfl (rest := [.int 0, .ref (c + 2)]) rfl (Nat.le_of_ble_eq_true rfl) ⟨Nat.le_of_ble_eq_true rfl, Nat.le_of_ble_eq_true rfl⟩ ⟨Nat.le_of_ble_eq_true rfl, Nat.le_of_ble_eq_true rfl⟩ (fun r σ16890 hp => ?_)
  obtain ⟨h16891, rfl⟩ := hp
  have h16892 := HS.trans h2 h16891 (by decide)
  have ga16894 := hp0.of (h16891.2 (c + 3) (by rw [kC_at (k := 3) (by decide)]; decide))
  refine r_iast F (g' := (⟨T, Z, u, h, (mkP P16888.n5 P16888.n2 P16888.n5 P16888.n7 P16888.m0 P16888.m5 P16888.w2 P16888.w7 P16888.kk P16888.a P16888.b0 P16888.b1 P16888.b2 P16888.b3), L⟩ : RG)) (len := 10) (j := 0) e_X10_takeText_17 h16892 (fun _ h => h) (fun f h => ⟨f, rfl, h⟩) (by decide) (by decide) (by decide) (by unfold vp_in; decide) (by refine ⟨?_, ?_, ?_, ?_, ?_, ?_⟩ <;> intro e <;> first | exact absurd e (by decide) | rfl | exact ⟨_, by omega, rfl⟩) (fun i hi y hy => ⟨fun e => absurd e hi, hy.2.1, hy.2.2.1, hy.2.2.2.1, hy.2.2.2.2.1, hy.2.2.2.2.2⟩) (CR.chg (by intro k hk i x h; unfold EI at h ⊢; split at h <;> first | exact h | exact absurd rfl hk | trivial) rfl rfl) (fun σ16895 h16896 g16897 f16898 g16899 => ?_)
  have ga16900 := ga16894.of (g16897 _ (by omega))
  obtain ⟨P16901, eP16901⟩ : ∃ P9, P9 = (mkP P16888.n5 P16888.n2 P16888.n5 P16888.n7 P16888.m0 P16888.m5 P16888.w2 P16888.w7 P16888.kk P16888.a P16888.b0 P16888.b1 P16888.b2 P16888.b3) := ⟨_, rfl⟩
  rw [← eP16901] at h16896
  have fP16901 : P16901.n0 = P16888.n5 ∧ P16901.n2 = P16888.n2 ∧ P16901.n5 = P16888.n5 ∧ P16901.n7 = P16888.n7 ∧ P16901.m0 = P16888.m0 ∧ P16901.m5 = P16888.m5 ∧ P16901.w2 = P16888.w2 ∧ P16901.w7 = P16888.w7 ∧ P16901.kk = P16888.kk ∧ P16901.a = P16888.a ∧ P16901.b0 = P16888.b0 ∧ P16901.b1 = P16888.b1 ∧ P16901.b2 = P16888.b2 ∧ P16901.b3 = P16888.b3 := by rw [eP16901]; exact ⟨rfl, rfl, rfl, rfl, rfl, rfl, rfl, rfl, rfl, rfl, rfl, rfl, rfl, rfl⟩
  refine m_iinc F (v := 1) (lv' := [(1, .int 1), (0, .ref c)]) e_X10_takeText_18 rfl (by decide) (by decide) rfl ?_
  refine m_goto F e_X10_takeText_21 ?_
  refine m_iload_n F rfl e_X10_takeText_2 ?_
  refine m_iconst F (v := 5) (by decide) e_X10_takeText_3 ?_
  refine m_icmp_ge F e_X10_takeText_4 (fun q => absurd q (by decide)) (fun _ => ?_)
  refine m_aload_n F rfl e_X10_takeText_7 ?_
  refine r_getC F e_X10_takeText_8 fl_X10_13 h16896 ((fld_eq (g16897 _ (by omega))).trans ((fld_eq (h16891.2 c (by rw [show kC c c = 1 from kC_at (k := 0) (by decide)]; decide))).trans f16889)) ?_
  refine m_iload_n F rfl e_X10_takeText_11 ?_
  refine m_aload_n F rfl e_X10_takeText_12 ?_
  refine m_iload_n F rfl e_X10_takeText_13 ?_
  have oP16905 : OKP P16901 := by unfold OKP; omega
  refine r_callV F e_X10_takeText_14 (q_X10_reading1 (x_l X) V c T Z u h P16901 L _ _  h16896.1 (hob) oP16905 ) cb_X10_reading ml_X10_157 im_X10_reading se_X10_reading h16896 rfl rfl (rest := [.int 1, .ref (c + 2)]) rfl (Nat.le_of_ble_eq_true rfl) ⟨Nat.le_of_ble_eq_true rfl, Nat.le_of_ble_eq_true rfl⟩ ⟨Nat.le_of_ble_eq_true rfl, Nat.le_of_ble_eq_true rfl⟩ (fun r σ16902 hp => ?_)
  obtain ⟨h16903, x16906, rfl⟩ := hp
  have h16904 := HS.trans h16896 h16903 (by decide)
  have ga16907 := ga16900.of (h16903.2 (c + 3) (by rw [kC_at (k := 3) (by decide)]; decide))
  refine r_iast F (g' := (⟨T, Z, u, h, P16901, L⟩ : RG)) (len := 10) (j := 1) e_X10_takeText_17 h16904 (fun _ h => h) (fun f h => ⟨f, rfl, h⟩) (by decide) (by decide) (by decide) (by unfold vp_in; decide) (by refine ⟨?_, ?_, ?_, ?_, ?_, ?_⟩ <;> intro e <;> first | exact absurd e (by decide) | rfl | exact ⟨_, by omega, rfl⟩) (fun _ _ _ h => h) (fun _ _ _ h => h) (fun σ16908 h16909 g16910 f16911 g16912 => ?_)
  have ga16913 := ga16907.of (g16910 _ (by omega))
  refine m_iinc F (v := 2) (lv' := [(1, .int 2), (0, .ref c)]) e_X10_takeText_18 rfl (by decide) (by decide) rfl ?_
  refine m_goto F e_X10_takeText_21 ?_
  refine m_iload_n F rfl e_X10_takeText_2 ?_
  refine m_iconst F (v := 5) (by decide) e_X10_takeText_3 ?_
  refine m_icmp_ge F e_X10_takeText_4 (fun q => absurd q (by decide)) (fun _ => ?_)
  refine m_aload_n F rfl e_X10_takeText_7 ?_
  refine r_getC F e_X10_takeText_8 fl_X10_13 h16909 ((fld_eq (g16910 _ (by omega))).trans ((fld_eq (h16903.2 c (by rw [show kC c c = 1 from kC_at (k := 0) (by decide)]; decide))).trans ((fld_eq (g16897 _ (by omega))).trans ((fld_eq (h16891.2 c (by rw [show kC c c = 1 from kC_at (k := 0) (by decide)]; decide))).trans f16889)))) ?_
  refine m_iload_n F rfl e_X10_takeText_11 ?_
  refine m_aload_n F rfl e_X10_takeText_12 ?_
  refine m_iload_n F rfl e_X10_takeText_13 ?_
  refine r_callV F e_X10_takeText_14 (q_X10_reading2 (x_l X) V c T Z u h P16901 L _ _  h16909.1 (hob) oP16905 ) cb_X10_reading ml_X10_157 im_X10_reading se_X10_reading h16909 rfl rfl (rest := [.int 2, .ref (c + 2)]) rfl (Nat.le_of_ble_eq_true rfl) ⟨Nat.le_of_ble_eq_true rfl, Nat.le_of_ble_eq_true rfl⟩ ⟨Nat.le_of_ble_eq_true rfl, Nat.le_of_ble_eq_true rfl⟩ (fun r σ16914 hp => ?_)
  obtain ⟨h16915, rfl⟩ := hp
  have h16916 := HS.trans h16909 h16915 (by decide)
  have ga16917 := ga16913.of (h16915.2 (c + 3) (by rw [kC_at (k := 3) (by decide)]; decide))
  refine r_iast F (g' := (⟨T, Z, u, h, (mkP P16901.n0 P16901.n7 P16901.n5 P16901.n7 P16901.m0 P16901.m5 P16901.w2 P16901.w7 P16901.kk P16901.a P16901.b0 P16901.b1 P16901.b2 P16901.b3), L⟩ : RG)) (len := 10) (j := 2) e_X10_takeText_17 h16916 (fun _ h => h) (fun f h => ⟨f, rfl, h⟩) (by decide) (by decide) (by decide) (by unfold vp_in; decide) (by refine ⟨?_, ?_, ?_, ?_, ?_, ?_⟩ <;> intro e <;> first | exact absurd e (by decide) | rfl | exact ⟨_, by omega, rfl⟩) (fun i hi y hy => ⟨hy.1, fun e => absurd e hi, hy.2.2.1, hy.2.2.2.1, hy.2.2.2.2.1, hy.2.2.2.2.2⟩) (CR.chg (by intro k hk i x h; unfold EI at h ⊢; split at h <;> first | exact h | exact absurd rfl hk | trivial) rfl rfl) (fun σ16918 h16919 g16920 f16921 g16922 => ?_)
  have ga16923 := ga16917.of (g16920 _ (by omega))
  obtain ⟨P16924, eP16924⟩ : ∃ P9, P9 = (mkP P16901.n0 P16901.n7 P16901.n5 P16901.n7 P16901.m0 P16901.m5 P16901.w2 P16901.w7 P16901.kk P16901.a P16901.b0 P16901.b1 P16901.b2 P16901.b3) := ⟨_, rfl⟩
  rw [← eP16924] at h16919
  have fP16924 : P16924.n0 = P16901.n0 ∧ P16924.n2 = P16901.n7 ∧ P16924.n5 = P16901.n5 ∧ P16924.n7 = P16901.n7 ∧ P16924.m0 = P16901.m0 ∧ P16924.m5 = P16901.m5 ∧ P16924.w2 = P16901.w2 ∧ P16924.w7 = P16901.w7 ∧ P16924.kk = P16901.kk ∧ P16924.a = P16901.a ∧ P16924.b0 = P16901.b0 ∧ P16924.b1 = P16901.b1 ∧ P16924.b2 = P16901.b2 ∧ P16924.b3 = P16901.b3 := by rw [eP16924]; exact ⟨rfl, rfl, rfl, rfl, rfl, rfl, rfl, rfl, rfl, rfl, rfl, rfl, rfl, rfl⟩
  refine m_iinc F (v := 3) (lv' := [(1, .int 3), (0, .ref c)]) e_X10_takeText_18 rfl (by decide) (by decide) rfl ?_
  refine m_goto F e_X10_takeText_21 ?_
  refine m_iload_n F rfl e_X10_takeText_2 ?_
  refine m_iconst F (v := 5) (by decide) e_X10_takeText_3 ?_
  refine m_icmp_ge F e_X10_takeText_4 (fun q => absurd q (by decide)) (fun _ => ?_)
  refine m_aload_n F rfl e_X10_takeText_7 ?_
  refine r_getC F e_X10_takeText_8 fl_X10_13 h16919 ((fld_eq (g16920 _ (by omega))).trans ((fld_eq (h16915.2 c (by rw [show kC c c = 1 from kC_at (k := 0) (by decide)]; decide))).trans ((fld_eq (g16910 _ (by omega))).trans ((fld_eq (h16903.2 c (by rw [show kC c c = 1 from kC_at (k := 0) (by decide)]; decide))).trans ((fld_eq (g16897 _ (by omega))).trans ((fld_eq (h16891.2 c (by rw [show kC c c = 1 from kC_at (k := 0) (by decide)]; decide))).trans f16889)))))) ?_
  refine m_iload_n F rfl e_X10_takeText_11 ?_
  refine m_aload_n F rfl e_X10_takeText_12 ?_
  refine m_iload_n F rfl e_X10_takeText_13 ?_
  have oP16928 : OKP P16924 := by unfold OKP; omega
  refine r_callV F e_X10_takeText_14 (q_X10_reading3 (x_l X) V c T Z u h P16924 L _ _  h16919.1 (hob) oP16928 ) cb_X10_reading ml_X10_157 im_X10_reading se_X10_reading h16919 rfl rfl (rest := [.int 3, .ref (c + 2)]) rfl (Nat.le_of_ble_eq_true rfl) ⟨Nat.le_of_ble_eq_true rfl, Nat.le_of_ble_eq_true rfl⟩ ⟨Nat.le_of_ble_eq_true rfl, Nat.le_of_ble_eq_true rfl⟩ (fun r σ16925 hp => ?_)
  obtain ⟨h16926, n16929, hn16929, f16930, rfl⟩ := hp
  have h16927 := HS.trans h16919 h16926 (by decide)
  have ga16931 := ga16923.of (h16926.2 (c + 3) (by rw [kC_at (k := 3) (by decide)]; decide))
  refine r_iast F (g' := (⟨T, Z, u, h, P16924, L⟩ : RG)) (len := 10) (j := 3) e_X10_takeText_17 h16927 (fun _ h => h) (fun f h => ⟨f, rfl, h⟩) (by decide) (by decide) (by decide) (by unfold vp_in; decide) (by refine ⟨?_, ?_, ?_, ?_, ?_, ?_⟩ <;> intro e <;> first | exact absurd e (by decide) | rfl | exact ⟨_, by omega, rfl⟩) (fun _ _ _ h => h) (fun _ _ _ h => h) (fun σ16932 h16933 g16934 f16935 g16936 => ?_)
  have ga16937 := ga16931.of (g16934 _ (by omega))
  refine m_iinc F (v := 4) (lv' := [(1, .int 4), (0, .ref c)]) e_X10_takeText_18 rfl (by decide) (by decide) rfl ?_
  refine m_goto F e_X10_takeText_21 ?_
  refine m_iload_n F rfl e_X10_takeText_2 ?_
  refine m_iconst F (v := 5) (by decide) e_X10_takeText_3 ?_
  refine m_icmp_ge F e_X10_takeText_4 (fun q => absurd q (by decide)) (fun _ => ?_)
  refine m_aload_n F rfl e_X10_takeText_7 ?_
  refine r_getC F e_X10_takeText_8 fl_X10_13 h16933 ((fld_eq (g16934 _ (by omega))).trans ((fld_eq (h16926.2 c (by rw [show kC c c = 1 from kC_at (k := 0) (by decide)]; decide))).trans ((fld_eq (g16920 _ (by omega))).trans ((fld_eq (h16915.2 c (by rw [show kC c c = 1 from kC_at (k := 0) (by decide)]; decide))).trans ((fld_eq (g16910 _ (by omega))).trans ((fld_eq (h16903.2 c (by rw [show kC c c = 1 from kC_at (k := 0) (by decide)]; decide))).trans ((fld_eq (g16897 _ (by omega))).trans ((fld_eq (h16891.2 c (by rw [show kC c c = 1 from kC_at (k := 0) (by decide)]; decide))).trans f16889)))))))) ?_
  refine m_iload_n F rfl e_X10_takeText_11 ?_
  refine m_aload_n F rfl e_X10_takeText_12 ?_
  refine m_iload_n F rfl e_X10_takeText_13 ?_
  refine r_callV F e_X10_takeText_14 (q_X10_reading4 (x_l X) V c T Z u h P16924 L _ _  h16933.1 (hob) oP16928 ) cb_X10_reading ml_X10_157 im_X10_reading se_X10_reading h16933 rfl rfl (rest := [.int 4, .ref (c + 2)]) rfl (Nat.le_of_ble_eq_true rfl) ⟨Nat.le_of_ble_eq_true rfl, Nat.le_of_ble_eq_true rfl⟩ ⟨Nat.le_of_ble_eq_true rfl, Nat.le_of_ble_eq_true rfl⟩ (fun r σ16938 hp => ?_)
  obtain ⟨h16939, x16941, rfl⟩ := hp
  have h16940 := HS.trans h16933 h16939 (by decide)
  have ga16942 := ga16937.of (h16939.2 (c + 3) (by rw [kC_at (k := 3) (by decide)]; decide))
  refine r_iast F (g' := (⟨T, Z, u, h, P16924, L⟩ : RG)) (len := 10) (j := 4) e_X10_takeText_17 h16940 (fun _ h => h) (fun f h => ⟨f, rfl, h⟩) (by decide) (by decide) (by decide) (by unfold vp_in; decide) (by refine ⟨?_, ?_, ?_, ?_, ?_, ?_⟩ <;> intro e <;> first | exact absurd e (by decide) | rfl | exact ⟨_, by omega, rfl⟩) (fun _ _ _ h => h) (fun _ _ _ h => h) (fun σ16943 h16944 g16945 f16946 g16947 => ?_)
  have ga16948 := ga16942.of (g16945 _ (by omega))
  refine m_iinc F (v := 5) (lv' := [(1, .int 5), (0, .ref c)]) e_X10_takeText_18 rfl (by decide) (by decide) rfl ?_
  refine m_goto F e_X10_takeText_21 ?_
  refine m_iload_n F rfl e_X10_takeText_2 ?_
  refine m_iconst F (v := 5) (by decide) e_X10_takeText_3 ?_
  refine m_icmp_ge F e_X10_takeText_4 (fun _ => ?_) (fun q => absurd (by decide) q)
  refine m_iconst F (v := 0) (by decide) e_X10_takeText_24 ?_
  refine m_istore_n F (lv' := [(1, .int 0), (0, .ref c)]) e_X10_takeText_25 (by decide) rfl ?_
  refine m_iload_n F rfl e_X10_takeText_26 ?_
  refine m_iconst F (v := 4) (by decide) e_X10_takeText_27 ?_
  refine m_icmp_ge F e_X10_takeText_28 (fun q => absurd q (by decide)) (fun _ => ?_)
  refine m_aload_n F rfl e_X10_takeText_31 ?_
  refine r_get F e_X10_takeText_32 fl_X10_16 h16944 rfl (fun v hv f16949 => ?_)
  obtain rfl : v = .ref (c + 3) := hv
  refine m_iload_n F rfl e_X10_takeText_35 ?_
  refine m_aload_n F rfl e_X10_takeText_36 ?_
  refine r_getC F e_X10_takeText_37 fl_X10_16 h16944 (f16949) ?_
  refine m_iconst F (v := 4) (by decide) e_X10_takeText_40 ?_
  refine m_iload_n F rfl e_X10_takeText_41 ?_
  refine m_iadd F e_X10_takeText_42 ?_
  refine Wm.topE (w := 4) (by decide) ?_
  refine r_iald F (len := 8) (j := 4) e_X10_takeText_43 h16944 (fun _ h => h) (by decide) (by decide) (by unfold vp_in; decide) (fun x16950 h16951 f16952 => ?_)
  have hv0 : 0 < nl → x16950 = nI (nm 0) := fun h9 => Option.some.inj ((f16952).symm.trans (ga16948 0 h9).2)
  obtain ⟨nb16958, enb16958⟩ := nI_ex x16950
  refine r_iast F (g' := (⟨T, Z, u, h, (mkP P16924.n0 P16924.n2 P16924.n5 P16924.n7 P16924.m0 P16924.m5 P16924.w2 P16924.w7 P16924.kk P16924.a nb16958 P16924.b1 P16924.b2 P16924.b3), L⟩ : RG)) (len := 8) (j := 0) e_X10_takeText_44 h16944 (fun _ h => h) (fun f h => ⟨f, rfl, h⟩) (by decide) (by decide) (by decide) (by unfold vp_in; decide) (fun _ => enb16958) (fun i hi y hy h4 => (hy h4).trans (congrArg nI (bselN0 hi h4))) (CR.chg (by intro k hk i x h; unfold EI at h ⊢; split at h <;> first | exact h | exact absurd rfl hk | trivial) rfl rfl) (fun σ16953 h16954 g16955 f16956 g16957 => ?_)
  obtain ⟨P16959, eP16959⟩ : ∃ P9, P9 = (mkP P16924.n0 P16924.n2 P16924.n5 P16924.n7 P16924.m0 P16924.m5 P16924.w2 P16924.w7 P16924.kk P16924.a nb16958 P16924.b1 P16924.b2 P16924.b3) := ⟨_, rfl⟩
  rw [← eP16959] at h16954
  have fP16959 : P16959.n0 = P16924.n0 ∧ P16959.n2 = P16924.n2 ∧ P16959.n5 = P16924.n5 ∧ P16959.n7 = P16924.n7 ∧ P16959.m0 = P16924.m0 ∧ P16959.m5 = P16924.m5 ∧ P16959.w2 = P16924.w2 ∧ P16959.w7 = P16924.w7 ∧ P16959.kk = P16924.kk ∧ P16959.a = P16924.a ∧ P16959.b0 = nb16958 ∧ P16959.b1 = P16924.b1 ∧ P16959.b2 = P16924.b2 ∧ P16959.b3 = P16924.b3 := by rw [eP16959]; exact ⟨rfl, rfl, rfl, rfl, rfl, rfl, rfl, rfl, rfl, rfl, rfl, rfl, rfl, rfl⟩
  have ga16960 := MR.st (l := 0) ga16948 (by decide) g16957
  refine m_aload_n F rfl e_X10_takeText_45 ?_
  refine r_get F e_X10_takeText_46 fl_X10_19 h16954 rfl (fun v hv f16961 => ?_)
  obtain rfl : v = .ref (c + 4) := hv
  refine m_iload_n F rfl e_X10_takeText_49 ?_
  refine m_aload_n F rfl e_X10_takeText_50 ?_
  refine r_getC F e_X10_takeText_51 fl_X10_19 h16954 (f16961) ?_
  refine m_iconst F (v := 4) (by decide) e_X10_takeText_54 ?_
  refine m_iload_n F rfl e_X10_takeText_55 ?_
  refine m_iadd F e_X10_takeText_56 ?_
  refine Wm.topE (w := 4) (by decide) ?_
  refine r_iald F (len := 8) (j := 4) e_X10_takeText_57 h16954 (fun _ h => h) (by decide) (by decide) (by unfold vp_in; decide) (fun x16962 h16963 f16964 => ?_)
  refine r_iast F (g' := (⟨T, Z, u, h, P16959, L⟩ : RG)) (len := 8) (j := 0) e_X10_takeText_58 h16954 (fun _ h => h) (fun f h => ⟨f, rfl, h⟩) (by decide) (by decide) (by decide) (by unfold vp_in; decide) trivial (fun _ _ _ h => h) (fun _ _ _ h => h) (fun σ16965 h16966 g16967 f16968 g16969 => ?_)
  have ga16970 := ga16960.of (g16967 _ (by omega))
  refine m_aload_n F rfl e_X10_takeText_59 ?_
  refine r_get F e_X10_takeText_60 fl_X10_22 h16966 rfl (fun v hv f16971 => ?_)
  obtain rfl : v = .ref (c + 5) := hv
  refine m_iload_n F rfl e_X10_takeText_63 ?_
  refine m_aload_n F rfl e_X10_takeText_64 ?_
  refine r_getC F e_X10_takeText_65 fl_X10_22 h16966 (f16971) ?_
  refine m_iconst F (v := 4) (by decide) e_X10_takeText_68 ?_
  refine m_iload_n F rfl e_X10_takeText_69 ?_
  refine m_iadd F e_X10_takeText_70 ?_
  refine Wm.topE (w := 4) (by decide) ?_
  refine r_iald F (len := 8) (j := 4) e_X10_takeText_71 h16966 (fun _ h => h) (by decide) (by decide) (by unfold vp_in; decide) (fun x16972 h16973 f16974 => ?_)
  obtain ⟨n16975, hn16975, rfl, pn16975, rn16975⟩ := h16973
  refine r_iast F (g' := (⟨T, Z, u, h, (mkP P16959.n0 P16959.n2 P16959.n5 P16959.n7 (min 1 P16959.m5) P16959.m5 P16959.w2 P16959.w7 P16959.kk P16959.a P16959.b0 P16959.b1 P16959.b2 P16959.b3), L⟩ : RG)) (len := 8) (j := 0) e_X10_takeText_72 h16966 (fun _ h => h) (fun f h => ⟨f, rfl, h⟩) (by decide) (by decide) (by decide) (by unfold vp_in; decide) ⟨n16975, by omega, rfl, fun _ h8 => rn16975 (by omega) (show 4 < 4 + P16959.m5 by have h6 : 0 < min 1 P16959.m5 := h8; omega), fun h7 _ => absurd h7 (by omega)⟩ (fun i hi y hy => by obtain ⟨n9, a9, b9, c9, d9⟩ := hy; exact ⟨n9, a9, b9, fun h7 h8 => c9 h7 (show i < P16959.m0 by have h6 : i < min 1 P16959.m5 := h8; omega), d9⟩) (CR.chg (by intro k hk i x h; unfold EI at h ⊢; split at h <;> first | exact h | exact absurd rfl hk | trivial) rfl rfl) (fun σ16976 h16977 g16978 f16979 g16980 => ?_)
  have ga16981 := ga16970.of (g16978 _ (by omega))
  obtain ⟨P16982, eP16982⟩ : ∃ P9, P9 = (mkP P16959.n0 P16959.n2 P16959.n5 P16959.n7 (min 1 P16959.m5) P16959.m5 P16959.w2 P16959.w7 P16959.kk P16959.a P16959.b0 P16959.b1 P16959.b2 P16959.b3) := ⟨_, rfl⟩
  rw [← eP16982] at h16977
  have fP16982 : P16982.n0 = P16959.n0 ∧ P16982.n2 = P16959.n2 ∧ P16982.n5 = P16959.n5 ∧ P16982.n7 = P16959.n7 ∧ P16982.m0 = min 1 P16959.m5 ∧ P16982.m5 = P16959.m5 ∧ P16982.w2 = P16959.w2 ∧ P16982.w7 = P16959.w7 ∧ P16982.kk = P16959.kk ∧ P16982.a = P16959.a ∧ P16982.b0 = P16959.b0 ∧ P16982.b1 = P16959.b1 ∧ P16982.b2 = P16959.b2 ∧ P16982.b3 = P16959.b3 := by rw [eP16982]; exact ⟨rfl, rfl, rfl, rfl, rfl, rfl, rfl, rfl, rfl, rfl, rfl, rfl, rfl, rfl⟩
  refine m_aload_n F rfl e_X10_takeText_73 ?_
  refine r_get F e_X10_takeText_74 fl_X10_25 h16977 rfl (fun v hv f16983 => ?_)
  obtain rfl : v = .ref (c + 6) := hv
  refine m_iload_n F rfl e_X10_takeText_77 ?_
  refine m_aload_n F rfl e_X10_takeText_78 ?_
  refine r_getC F e_X10_takeText_79 fl_X10_25 h16977 (f16983) ?_
  refine m_iconst F (v := 4) (by decide) e_X10_takeText_82 ?_
  refine m_iload_n F rfl e_X10_takeText_83 ?_
  refine m_iadd F e_X10_takeText_84 ?_
  refine Wm.topE (w := 4) (by decide) ?_
  refine r_iald F (len := 8) (j := 4) e_X10_takeText_85 h16977 (fun _ h => h) (by decide) (by decide) (by unfold vp_in; decide) (fun x16984 h16985 f16986 => ?_)
  obtain ⟨n16987, hn16987, rfl⟩ := h16985
  refine r_iast F (g' := (⟨T, Z, u, h, P16982, L⟩ : RG)) (len := 8) (j := 0) e_X10_takeText_86 h16977 (fun _ h => h) (fun f h => ⟨f, rfl, h⟩) (by decide) (by decide) (by decide) (by unfold vp_in; decide) ⟨n16987, by omega, rfl⟩ (fun _ _ _ h => h) (fun _ _ _ h => h) (fun σ16988 h16989 g16990 f16991 g16992 => ?_)
  have ga16993 := ga16981.of (g16990 _ (by omega))
  refine m_aload_n F rfl e_X10_takeText_87 ?_
  refine r_get F e_X10_takeText_88 fl_X10_28 h16989 rfl (fun v hv f16994 => ?_)
  obtain rfl : v = .ref (c + 7) := hv
  refine m_iload_n F rfl e_X10_takeText_91 ?_
  refine m_aload_n F rfl e_X10_takeText_92 ?_
  refine r_getC F e_X10_takeText_93 fl_X10_28 h16989 (f16994) ?_
  refine m_iconst F (v := 4) (by decide) e_X10_takeText_96 ?_
  refine m_iload_n F rfl e_X10_takeText_97 ?_
  refine m_iadd F e_X10_takeText_98 ?_
  refine Wm.topE (w := 4) (by decide) ?_
  refine r_iald F (len := 8) (j := 4) e_X10_takeText_99 h16989 (fun _ h => h) (by decide) (by decide) (by unfold vp_in; decide) (fun x16995 h16996 f16997 => ?_)
  refine r_iast F (g' := (⟨T, Z, u, h, P16982, L⟩ : RG)) (len := 8) (j := 0) e_X10_takeText_100 h16989 (fun _ h => h) (fun f h => ⟨f, rfl, h⟩) (by decide) (by decide) (by decide) (by unfold vp_in; decide) trivial (fun _ _ _ h => h) (fun _ _ _ h => h) (fun σ16998 h16999 g17000 f17001 g17002 => ?_)
  have ga17003 := ga16993.of (g17000 _ (by omega))
  refine m_aload_n F rfl e_X10_takeText_101 ?_
  refine r_get F e_X10_takeText_102 fl_X10_31 h16999 rfl (fun v hv f17004 => ?_)
  obtain rfl : v = .ref (c + 8) := hv
  refine m_iload_n F rfl e_X10_takeText_105 ?_
  refine m_aload_n F rfl e_X10_takeText_106 ?_
  refine r_getC F e_X10_takeText_107 fl_X10_31 h16999 (f17004) ?_
  refine m_iconst F (v := 4) (by decide) e_X10_takeText_110 ?_
  refine m_iload_n F rfl e_X10_takeText_111 ?_
  refine m_iadd F e_X10_takeText_112 ?_
  refine Wm.topE (w := 4) (by decide) ?_
  refine r_iald F (len := 8) (j := 4) e_X10_takeText_113 h16999 (fun _ h => h) (by decide) (by decide) (by unfold vp_in; decide) (fun x17005 h17006 f17007 => ?_)
  refine r_iast F (g' := (⟨T, Z, u, h, P16982, L⟩ : RG)) (len := 8) (j := 0) e_X10_takeText_114 h16999 (fun _ h => h) (fun f h => ⟨f, rfl, h⟩) (by decide) (by decide) (by decide) (by unfold vp_in; decide) trivial (fun _ _ _ h => h) (fun _ _ _ h => h) (fun σ17008 h17009 g17010 f17011 g17012 => ?_)
  have ga17013 := ga17003.of (g17010 _ (by omega))
  refine m_aload_n F rfl e_X10_takeText_115 ?_
  refine r_get F e_X10_takeText_116 fl_X10_34 h17009 rfl (fun v hv f17014 => ?_)
  obtain rfl : v = .ref (c + 9) := hv
  refine m_iload_n F rfl e_X10_takeText_119 ?_
  refine m_aload_n F rfl e_X10_takeText_120 ?_
  refine r_getC F e_X10_takeText_121 fl_X10_34 h17009 (f17014) ?_
  refine m_iconst F (v := 4) (by decide) e_X10_takeText_124 ?_
  refine m_iload_n F rfl e_X10_takeText_125 ?_
  refine m_iadd F e_X10_takeText_126 ?_
  refine Wm.topE (w := 4) (by decide) ?_
  refine r_iald F (len := 8) (j := 4) e_X10_takeText_127 h17009 (fun _ h => h) (by decide) (by decide) (by unfold vp_in; decide) (fun x17015 h17016 f17017 => ?_)
  refine r_iast F (g' := (⟨T, Z, u, h, P16982, L⟩ : RG)) (len := 8) (j := 0) e_X10_takeText_128 h17009 (fun _ h => h) (fun f h => ⟨f, rfl, h⟩) (by decide) (by decide) (by decide) (by unfold vp_in; decide) trivial (fun _ _ _ h => h) (fun _ _ _ h => h) (fun σ17018 h17019 g17020 f17021 g17022 => ?_)
  have ga17023 := ga17013.of (g17020 _ (by omega))
  refine m_aload_n F rfl e_X10_takeText_129 ?_
  refine r_get F e_X10_takeText_130 fl_X10_46 h17019 rfl (fun v hv f17024 => ?_)
  obtain rfl : v = .ref (c + 13) := hv
  refine m_iload_n F rfl e_X10_takeText_133 ?_
  refine m_aload_n F rfl e_X10_takeText_134 ?_
  refine r_getC F e_X10_takeText_135 fl_X10_46 h17019 (f17024) ?_
  refine m_iconst F (v := 4) (by decide) e_X10_takeText_138 ?_
  refine m_iload_n F rfl e_X10_takeText_139 ?_
  refine m_iadd F e_X10_takeText_140 ?_
  refine Wm.topE (w := 4) (by decide) ?_
  refine r_iald F (len := 8) (j := 4) e_X10_takeText_141 h17019 (fun _ h => h) (by decide) (by decide) (by unfold vp_in; decide) (fun x17025 h17026 f17027 => ?_)
  obtain ⟨n17028, hn17028, rfl⟩ := h17026
  refine r_iast F (g' := (⟨T, Z, u, h, P16982, L⟩ : RG)) (len := 8) (j := 0) e_X10_takeText_142 h17019 (fun _ h => h) (fun f h => ⟨f, rfl, h⟩) (by decide) (by decide) (by decide) (by unfold vp_in; decide) ⟨n17028, by omega, rfl⟩ (fun _ _ _ h => h) (fun _ _ _ h => h) (fun σ17029 h17030 g17031 f17032 g17033 => ?_)
  have ga17034 := ga17023.of (g17031 _ (by omega))
  refine m_aload_n F rfl e_X10_takeText_143 ?_
  refine r_get F e_X10_takeText_144 fl_X10_49 h17030 rfl (fun v hv f17035 => ?_)
  obtain rfl : v = .ref (c + 14) := hv
  refine m_iload_n F rfl e_X10_takeText_147 ?_
  refine m_aload_n F rfl e_X10_takeText_148 ?_
  refine r_getC F e_X10_takeText_149 fl_X10_49 h17030 (f17035) ?_
  refine m_iconst F (v := 4) (by decide) e_X10_takeText_152 ?_
  refine m_iload_n F rfl e_X10_takeText_153 ?_
  refine m_iadd F e_X10_takeText_154 ?_
  refine Wm.topE (w := 4) (by decide) ?_
  refine r_iald F (len := 8) (j := 4) e_X10_takeText_155 h17030 (fun _ h => h) (by decide) (by decide) (by unfold vp_in; decide) (fun x17036 h17037 f17038 => ?_)
  obtain ⟨n17039, hn17039, rfl⟩ := h17037
  refine r_iast F (g' := (⟨T, Z, u, h, P16982, L⟩ : RG)) (len := 8) (j := 0) e_X10_takeText_156 h17030 (fun _ h => h) (fun f h => ⟨f, rfl, h⟩) (by decide) (by decide) (by decide) (by unfold vp_in; decide) ⟨n17039, by omega, rfl⟩ (fun _ _ _ h => h) (fun _ _ _ h => h) (fun σ17040 h17041 g17042 f17043 g17044 => ?_)
  have ga17045 := ga17034.of (g17042 _ (by omega))
  refine m_aload_n F rfl e_X10_takeText_157 ?_
  refine r_get F e_X10_takeText_158 fl_X10_52 h17041 rfl (fun v hv f17046 => ?_)
  obtain rfl : v = .ref (c + 15) := hv
  refine m_iload_n F rfl e_X10_takeText_161 ?_
  refine m_aload_n F rfl e_X10_takeText_162 ?_
  refine r_getC F e_X10_takeText_163 fl_X10_52 h17041 (f17046) ?_
  refine m_iconst F (v := 4) (by decide) e_X10_takeText_166 ?_
  refine m_iload_n F rfl e_X10_takeText_167 ?_
  refine m_iadd F e_X10_takeText_168 ?_
  refine Wm.topE (w := 4) (by decide) ?_
  refine r_iald F (len := 8) (j := 4) e_X10_takeText_169 h17041 (fun _ h => h) (by decide) (by decide) (by unfold vp_in; decide) (fun x17047 h17048 f17049 => ?_)
  refine r_iast F (g' := (⟨T, Z, u, h, P16982, L⟩ : RG)) (len := 8) (j := 0) e_X10_takeText_170 h17041 (fun _ h => h) (fun f h => ⟨f, rfl, h⟩) (by decide) (by decide) (by decide) (by unfold vp_in; decide) trivial (fun _ _ _ h => h) (fun _ _ _ h => h) (fun σ17050 h17051 g17052 f17053 g17054 => ?_)
  have ga17055 := ga17045.of (g17052 _ (by omega))
  refine m_iinc F (v := 1) (lv' := [(1, .int 1), (0, .ref c)]) e_X10_takeText_171 rfl (by decide) (by decide) rfl ?_
  refine m_goto F e_X10_takeText_174 ?_
  refine m_iload_n F rfl e_X10_takeText_26 ?_
  refine m_iconst F (v := 4) (by decide) e_X10_takeText_27 ?_
  refine m_icmp_ge F e_X10_takeText_28 (fun q => absurd q (by decide)) (fun _ => ?_)
  refine m_aload_n F rfl e_X10_takeText_31 ?_
  refine r_getC F e_X10_takeText_32 fl_X10_16 h17051 ((fld_eq (g17052 _ (by omega))).trans ((fld_eq (g17042 _ (by omega))).trans ((fld_eq (g17031 _ (by omega))).trans ((fld_eq (g17020 _ (by omega))).trans ((fld_eq (g17010 _ (by omega))).trans ((fld_eq (g17000 _ (by omega))).trans ((fld_eq (g16990 _ (by omega))).trans ((fld_eq (g16978 _ (by omega))).trans ((fld_eq (g16967 _ (by omega))).trans ((fld_eq (g16955 _ (by omega))).trans f16949)))))))))) ?_
  refine m_iload_n F rfl e_X10_takeText_35 ?_
  refine m_aload_n F rfl e_X10_takeText_36 ?_
  refine r_getC F e_X10_takeText_37 fl_X10_16 h17051 ((fld_eq (g17052 _ (by omega))).trans ((fld_eq (g17042 _ (by omega))).trans ((fld_eq (g17031 _ (by omega))).trans ((fld_eq (g17020 _ (by omega))).trans ((fld_eq (g17010 _ (by omega))).trans ((fld_eq (g17000 _ (by omega))).trans ((fld_eq (g16990 _ (by omega))).trans ((fld_eq (g16978 _ (by omega))).trans ((fld_eq (g16967 _ (by omega))).trans ((fld_eq (g16955 _ (by omega))).trans f16949)))))))))) ?_
  refine m_iconst F (v := 4) (by decide) e_X10_takeText_40 ?_
  refine m_iload_n F rfl e_X10_takeText_41 ?_
  refine m_iadd F e_X10_takeText_42 ?_
  refine Wm.topE (w := 5) (by decide) ?_
  refine r_iald F (len := 8) (j := 5) e_X10_takeText_43 h17051 (fun _ h => h) (by decide) (by decide) (by unfold vp_in; decide) (fun x17056 h17057 f17058 => ?_)
  have hv1 : 1 < nl → x17056 = nI (nm 1) := fun h9 => Option.some.inj ((f17058).symm.trans (ga17055 1 h9).2)
  obtain ⟨nb17064, enb17064⟩ := nI_ex x17056
  refine r_iast F (g' := (⟨T, Z, u, h, (mkP P16982.n0 P16982.n2 P16982.n5 P16982.n7 P16982.m0 P16982.m5 P16982.w2 P16982.w7 P16982.kk P16982.a P16982.b0 nb17064 P16982.b2 P16982.b3), L⟩ : RG)) (len := 8) (j := 1) e_X10_takeText_44 h17051 (fun _ h => h) (fun f h => ⟨f, rfl, h⟩) (by decide) (by decide) (by decide) (by unfold vp_in; decide) (fun _ => enb17064) (fun i hi y hy h4 => (hy h4).trans (congrArg nI (bselN1 hi h4))) (CR.chg (by intro k hk i x h; unfold EI at h ⊢; split at h <;> first | exact h | exact absurd rfl hk | trivial) rfl rfl) (fun σ17059 h17060 g17061 f17062 g17063 => ?_)
  obtain ⟨P17065, eP17065⟩ : ∃ P9, P9 = (mkP P16982.n0 P16982.n2 P16982.n5 P16982.n7 P16982.m0 P16982.m5 P16982.w2 P16982.w7 P16982.kk P16982.a P16982.b0 nb17064 P16982.b2 P16982.b3) := ⟨_, rfl⟩
  rw [← eP17065] at h17060
  have fP17065 : P17065.n0 = P16982.n0 ∧ P17065.n2 = P16982.n2 ∧ P17065.n5 = P16982.n5 ∧ P17065.n7 = P16982.n7 ∧ P17065.m0 = P16982.m0 ∧ P17065.m5 = P16982.m5 ∧ P17065.w2 = P16982.w2 ∧ P17065.w7 = P16982.w7 ∧ P17065.kk = P16982.kk ∧ P17065.a = P16982.a ∧ P17065.b0 = P16982.b0 ∧ P17065.b1 = nb17064 ∧ P17065.b2 = P16982.b2 ∧ P17065.b3 = P16982.b3 := by rw [eP17065]; exact ⟨rfl, rfl, rfl, rfl, rfl, rfl, rfl, rfl, rfl, rfl, rfl, rfl, rfl, rfl⟩
  have ga17066 := MR.st (l := 1) ga17055 (by decide) g17063
  refine m_aload_n F rfl e_X10_takeText_45 ?_
  refine r_getC F e_X10_takeText_46 fl_X10_19 h17060 ((fld_eq (g17061 _ (by omega))).trans ((fld_eq (g17052 _ (by omega))).trans ((fld_eq (g17042 _ (by omega))).trans ((fld_eq (g17031 _ (by omega))).trans ((fld_eq (g17020 _ (by omega))).trans ((fld_eq (g17010 _ (by omega))).trans ((fld_eq (g17000 _ (by omega))).trans ((fld_eq (g16990 _ (by omega))).trans ((fld_eq (g16978 _ (by omega))).trans ((fld_eq (g16967 _ (by omega))).trans f16961)))))))))) ?_
  refine m_iload_n F rfl e_X10_takeText_49 ?_
  refine m_aload_n F rfl e_X10_takeText_50 ?_
  refine r_getC F e_X10_takeText_51 fl_X10_19 h17060 ((fld_eq (g17061 _ (by omega))).trans ((fld_eq (g17052 _ (by omega))).trans ((fld_eq (g17042 _ (by omega))).trans ((fld_eq (g17031 _ (by omega))).trans ((fld_eq (g17020 _ (by omega))).trans ((fld_eq (g17010 _ (by omega))).trans ((fld_eq (g17000 _ (by omega))).trans ((fld_eq (g16990 _ (by omega))).trans ((fld_eq (g16978 _ (by omega))).trans ((fld_eq (g16967 _ (by omega))).trans f16961)))))))))) ?_
  refine m_iconst F (v := 4) (by decide) e_X10_takeText_54 ?_
  refine m_iload_n F rfl e_X10_takeText_55 ?_
  refine m_iadd F e_X10_takeText_56 ?_
  refine Wm.topE (w := 5) (by decide) ?_
  refine r_iald F (len := 8) (j := 5) e_X10_takeText_57 h17060 (fun _ h => h) (by decide) (by decide) (by unfold vp_in; decide) (fun x17067 h17068 f17069 => ?_)
  refine r_iast F (g' := (⟨T, Z, u, h, P17065, L⟩ : RG)) (len := 8) (j := 1) e_X10_takeText_58 h17060 (fun _ h => h) (fun f h => ⟨f, rfl, h⟩) (by decide) (by decide) (by decide) (by unfold vp_in; decide) trivial (fun _ _ _ h => h) (fun _ _ _ h => h) (fun σ17070 h17071 g17072 f17073 g17074 => ?_)
  have ga17075 := ga17066.of (g17072 _ (by omega))
  refine m_aload_n F rfl e_X10_takeText_59 ?_
  refine r_getC F e_X10_takeText_60 fl_X10_22 h17071 ((fld_eq (g17072 _ (by omega))).trans ((fld_eq (g17061 _ (by omega))).trans ((fld_eq (g17052 _ (by omega))).trans ((fld_eq (g17042 _ (by omega))).trans ((fld_eq (g17031 _ (by omega))).trans ((fld_eq (g17020 _ (by omega))).trans ((fld_eq (g17010 _ (by omega))).trans ((fld_eq (g17000 _ (by omega))).trans ((fld_eq (g16990 _ (by omega))).trans ((fld_eq (g16978 _ (by omega))).trans f16971)))))))))) ?_
  refine m_iload_n F rfl e_X10_takeText_63 ?_
  refine m_aload_n F rfl e_X10_takeText_64 ?_
  refine r_getC F e_X10_takeText_65 fl_X10_22 h17071 ((fld_eq (g17072 _ (by omega))).trans ((fld_eq (g17061 _ (by omega))).trans ((fld_eq (g17052 _ (by omega))).trans ((fld_eq (g17042 _ (by omega))).trans ((fld_eq (g17031 _ (by omega))).trans ((fld_eq (g17020 _ (by omega))).trans ((fld_eq (g17010 _ (by omega))).trans ((fld_eq (g17000 _ (by omega))).trans ((fld_eq (g16990 _ (by omega))).trans ((fld_eq (g16978 _ (by omega))).trans f16971)))))))))) ?_
  refine m_iconst F (v := 4) (by decide) e_X10_takeText_68 ?_
  refine m_iload_n F rfl e_X10_takeText_69 ?_
  refine m_iadd F e_X10_takeText_70 ?_
  refine Wm.topE (w := 5) (by decide) ?_
  refine r_iald F (len := 8) (j := 5) e_X10_takeText_71 h17071 (fun _ h => h) (by decide) (by decide) (by unfold vp_in; decide) (fun x17076 h17077 f17078 => ?_)
  obtain ⟨n17079, hn17079, rfl, pn17079, rn17079⟩ := h17077
  refine r_iast F (g' := (⟨T, Z, u, h, (mkP P17065.n0 P17065.n2 P17065.n5 P17065.n7 (min 2 P17065.m5) P17065.m5 P17065.w2 P17065.w7 P17065.kk P17065.a P17065.b0 P17065.b1 P17065.b2 P17065.b3), L⟩ : RG)) (len := 8) (j := 1) e_X10_takeText_72 h17071 (fun _ h => h) (fun f h => ⟨f, rfl, h⟩) (by decide) (by decide) (by decide) (by unfold vp_in; decide) ⟨n17079, by omega, rfl, fun _ h8 => rn17079 (by omega) (show 5 < 4 + P17065.m5 by have h6 : 1 < min 2 P17065.m5 := h8; omega), fun h7 _ => absurd h7 (by omega)⟩ (fun i hi y hy => by obtain ⟨n9, a9, b9, c9, d9⟩ := hy; exact ⟨n9, a9, b9, fun h7 h8 => c9 h7 (show i < P17065.m0 by have h6 : i < min 2 P17065.m5 := h8; omega), d9⟩) (CR.chg (by intro k hk i x h; unfold EI at h ⊢; split at h <;> first | exact h | exact absurd rfl hk | trivial) rfl rfl) (fun σ17080 h17081 g17082 f17083 g17084 => ?_)
  have ga17085 := ga17075.of (g17082 _ (by omega))
  obtain ⟨P17086, eP17086⟩ : ∃ P9, P9 = (mkP P17065.n0 P17065.n2 P17065.n5 P17065.n7 (min 2 P17065.m5) P17065.m5 P17065.w2 P17065.w7 P17065.kk P17065.a P17065.b0 P17065.b1 P17065.b2 P17065.b3) := ⟨_, rfl⟩
  rw [← eP17086] at h17081
  have fP17086 : P17086.n0 = P17065.n0 ∧ P17086.n2 = P17065.n2 ∧ P17086.n5 = P17065.n5 ∧ P17086.n7 = P17065.n7 ∧ P17086.m0 = min 2 P17065.m5 ∧ P17086.m5 = P17065.m5 ∧ P17086.w2 = P17065.w2 ∧ P17086.w7 = P17065.w7 ∧ P17086.kk = P17065.kk ∧ P17086.a = P17065.a ∧ P17086.b0 = P17065.b0 ∧ P17086.b1 = P17065.b1 ∧ P17086.b2 = P17065.b2 ∧ P17086.b3 = P17065.b3 := by rw [eP17086]; exact ⟨rfl, rfl, rfl, rfl, rfl, rfl, rfl, rfl, rfl, rfl, rfl, rfl, rfl, rfl⟩
  refine m_aload_n F rfl e_X10_takeText_73 ?_
  refine r_getC F e_X10_takeText_74 fl_X10_25 h17081 ((fld_eq (g17082 _ (by omega))).trans ((fld_eq (g17072 _ (by omega))).trans ((fld_eq (g17061 _ (by omega))).trans ((fld_eq (g17052 _ (by omega))).trans ((fld_eq (g17042 _ (by omega))).trans ((fld_eq (g17031 _ (by omega))).trans ((fld_eq (g17020 _ (by omega))).trans ((fld_eq (g17010 _ (by omega))).trans ((fld_eq (g17000 _ (by omega))).trans ((fld_eq (g16990 _ (by omega))).trans f16983)))))))))) ?_
  refine m_iload_n F rfl e_X10_takeText_77 ?_
  refine m_aload_n F rfl e_X10_takeText_78 ?_
  refine r_getC F e_X10_takeText_79 fl_X10_25 h17081 ((fld_eq (g17082 _ (by omega))).trans ((fld_eq (g17072 _ (by omega))).trans ((fld_eq (g17061 _ (by omega))).trans ((fld_eq (g17052 _ (by omega))).trans ((fld_eq (g17042 _ (by omega))).trans ((fld_eq (g17031 _ (by omega))).trans ((fld_eq (g17020 _ (by omega))).trans ((fld_eq (g17010 _ (by omega))).trans ((fld_eq (g17000 _ (by omega))).trans ((fld_eq (g16990 _ (by omega))).trans f16983)))))))))) ?_
  refine m_iconst F (v := 4) (by decide) e_X10_takeText_82 ?_
  refine m_iload_n F rfl e_X10_takeText_83 ?_
  refine m_iadd F e_X10_takeText_84 ?_
  refine Wm.topE (w := 5) (by decide) ?_
  refine r_iald F (len := 8) (j := 5) e_X10_takeText_85 h17081 (fun _ h => h) (by decide) (by decide) (by unfold vp_in; decide) (fun x17087 h17088 f17089 => ?_)
  obtain ⟨n17090, hn17090, rfl⟩ := h17088
  refine r_iast F (g' := (⟨T, Z, u, h, P17086, L⟩ : RG)) (len := 8) (j := 1) e_X10_takeText_86 h17081 (fun _ h => h) (fun f h => ⟨f, rfl, h⟩) (by decide) (by decide) (by decide) (by unfold vp_in; decide) ⟨n17090, by omega, rfl⟩ (fun _ _ _ h => h) (fun _ _ _ h => h) (fun σ17091 h17092 g17093 f17094 g17095 => ?_)
  have ga17096 := ga17085.of (g17093 _ (by omega))
  refine m_aload_n F rfl e_X10_takeText_87 ?_
  refine r_getC F e_X10_takeText_88 fl_X10_28 h17092 ((fld_eq (g17093 _ (by omega))).trans ((fld_eq (g17082 _ (by omega))).trans ((fld_eq (g17072 _ (by omega))).trans ((fld_eq (g17061 _ (by omega))).trans ((fld_eq (g17052 _ (by omega))).trans ((fld_eq (g17042 _ (by omega))).trans ((fld_eq (g17031 _ (by omega))).trans ((fld_eq (g17020 _ (by omega))).trans ((fld_eq (g17010 _ (by omega))).trans ((fld_eq (g17000 _ (by omega))).trans f16994)))))))))) ?_
  refine m_iload_n F rfl e_X10_takeText_91 ?_
  refine m_aload_n F rfl e_X10_takeText_92 ?_
  refine r_getC F e_X10_takeText_93 fl_X10_28 h17092 ((fld_eq (g17093 _ (by omega))).trans ((fld_eq (g17082 _ (by omega))).trans ((fld_eq (g17072 _ (by omega))).trans ((fld_eq (g17061 _ (by omega))).trans ((fld_eq (g17052 _ (by omega))).trans ((fld_eq (g17042 _ (by omega))).trans ((fld_eq (g17031 _ (by omega))).trans ((fld_eq (g17020 _ (by omega))).trans ((fld_eq (g17010 _ (by omega))).trans ((fld_eq (g17000 _ (by omega))).trans f16994)))))))))) ?_
  refine m_iconst F (v := 4) (by decide) e_X10_takeText_96 ?_
  refine m_iload_n F rfl e_X10_takeText_97 ?_
  refine m_iadd F e_X10_takeText_98 ?_
  refine Wm.topE (w := 5) (by decide) ?_
  refine r_iald F (len := 8) (j := 5) e_X10_takeText_99 h17092 (fun _ h => h) (by decide) (by decide) (by unfold vp_in; decide) (fun x17097 h17098 f17099 => ?_)
  refine r_iast F (g' := (⟨T, Z, u, h, P17086, L⟩ : RG)) (len := 8) (j := 1) e_X10_takeText_100 h17092 (fun _ h => h) (fun f h => ⟨f, rfl, h⟩) (by decide) (by decide) (by decide) (by unfold vp_in; decide) trivial (fun _ _ _ h => h) (fun _ _ _ h => h) (fun σ17100 h17101 g17102 f17103 g17104 => ?_)
  have ga17105 := ga17096.of (g17102 _ (by omega))
  refine m_aload_n F rfl e_X10_takeText_101 ?_
  refine r_getC F e_X10_takeText_102 fl_X10_31 h17101 ((fld_eq (g17102 _ (by omega))).trans ((fld_eq (g17093 _ (by omega))).trans ((fld_eq (g17082 _ (by omega))).trans ((fld_eq (g17072 _ (by omega))).trans ((fld_eq (g17061 _ (by omega))).trans ((fld_eq (g17052 _ (by omega))).trans ((fld_eq (g17042 _ (by omega))).trans ((fld_eq (g17031 _ (by omega))).trans ((fld_eq (g17020 _ (by omega))).trans ((fld_eq (g17010 _ (by omega))).trans f17004)))))))))) ?_
  refine m_iload_n F rfl e_X10_takeText_105 ?_
  refine m_aload_n F rfl e_X10_takeText_106 ?_
  refine r_getC F e_X10_takeText_107 fl_X10_31 h17101 ((fld_eq (g17102 _ (by omega))).trans ((fld_eq (g17093 _ (by omega))).trans ((fld_eq (g17082 _ (by omega))).trans ((fld_eq (g17072 _ (by omega))).trans ((fld_eq (g17061 _ (by omega))).trans ((fld_eq (g17052 _ (by omega))).trans ((fld_eq (g17042 _ (by omega))).trans ((fld_eq (g17031 _ (by omega))).trans ((fld_eq (g17020 _ (by omega))).trans ((fld_eq (g17010 _ (by omega))).trans f17004)))))))))) ?_
  refine m_iconst F (v := 4) (by decide) e_X10_takeText_110 ?_
  refine m_iload_n F rfl e_X10_takeText_111 ?_
  refine m_iadd F e_X10_takeText_112 ?_
  refine Wm.topE (w := 5) (by decide) ?_
  refine r_iald F (len := 8) (j := 5) e_X10_takeText_113 h17101 (fun _ h => h) (by decide) (by decide) (by unfold vp_in; decide) (fun x17106 h17107 f17108 => ?_)
  refine r_iast F (g' := (⟨T, Z, u, h, P17086, L⟩ : RG)) (len := 8) (j := 1) e_X10_takeText_114 h17101 (fun _ h => h) (fun f h => ⟨f, rfl, h⟩) (by decide) (by decide) (by decide) (by unfold vp_in; decide) trivial (fun _ _ _ h => h) (fun _ _ _ h => h) (fun σ17109 h17110 g17111 f17112 g17113 => ?_)
  have ga17114 := ga17105.of (g17111 _ (by omega))
  refine m_aload_n F rfl e_X10_takeText_115 ?_
  refine r_getC F e_X10_takeText_116 fl_X10_34 h17110 ((fld_eq (g17111 _ (by omega))).trans ((fld_eq (g17102 _ (by omega))).trans ((fld_eq (g17093 _ (by omega))).trans ((fld_eq (g17082 _ (by omega))).trans ((fld_eq (g17072 _ (by omega))).trans ((fld_eq (g17061 _ (by omega))).trans ((fld_eq (g17052 _ (by omega))).trans ((fld_eq (g17042 _ (by omega))).trans ((fld_eq (g17031 _ (by omega))).trans ((fld_eq (g17020 _ (by omega))).trans f17014)))))))))) ?_
  refine m_iload_n F rfl e_X10_takeText_119 ?_
  refine m_aload_n F rfl e_X10_takeText_120 ?_
  refine r_getC F e_X10_takeText_121 fl_X10_34 h17110 ((fld_eq (g17111 _ (by omega))).trans ((fld_eq (g17102 _ (by omega))).trans ((fld_eq (g17093 _ (by omega))).trans ((fld_eq (g17082 _ (by omega))).trans ((fld_eq (g17072 _ (by omega))).trans ((fld_eq (g17061 _ (by omega))).trans ((fld_eq (g17052 _ (by omega))).trans ((fld_eq (g17042 _ (by omega))).trans ((fld_eq (g17031 _ (by omega))).trans ((fld_eq (g17020 _ (by omega))).trans f17014)))))))))) ?_
  refine m_iconst F (v := 4) (by decide) e_X10_takeText_124 ?_
  refine m_iload_n F rfl e_X10_takeText_125 ?_
  refine m_iadd F e_X10_takeText_126 ?_
  refine Wm.topE (w := 5) (by decide) ?_
  refine r_iald F (len := 8) (j := 5) e_X10_takeText_127 h17110 (fun _ h => h) (by decide) (by decide) (by unfold vp_in; decide) (fun x17115 h17116 f17117 => ?_)
  refine r_iast F (g' := (⟨T, Z, u, h, P17086, L⟩ : RG)) (len := 8) (j := 1) e_X10_takeText_128 h17110 (fun _ h => h) (fun f h => ⟨f, rfl, h⟩) (by decide) (by decide) (by decide) (by unfold vp_in; decide) trivial (fun _ _ _ h => h) (fun _ _ _ h => h) (fun σ17118 h17119 g17120 f17121 g17122 => ?_)
  have ga17123 := ga17114.of (g17120 _ (by omega))
  refine m_aload_n F rfl e_X10_takeText_129 ?_
  refine r_getC F e_X10_takeText_130 fl_X10_46 h17119 ((fld_eq (g17120 _ (by omega))).trans ((fld_eq (g17111 _ (by omega))).trans ((fld_eq (g17102 _ (by omega))).trans ((fld_eq (g17093 _ (by omega))).trans ((fld_eq (g17082 _ (by omega))).trans ((fld_eq (g17072 _ (by omega))).trans ((fld_eq (g17061 _ (by omega))).trans ((fld_eq (g17052 _ (by omega))).trans ((fld_eq (g17042 _ (by omega))).trans ((fld_eq (g17031 _ (by omega))).trans f17024)))))))))) ?_
  refine m_iload_n F rfl e_X10_takeText_133 ?_
  refine m_aload_n F rfl e_X10_takeText_134 ?_
  refine r_getC F e_X10_takeText_135 fl_X10_46 h17119 ((fld_eq (g17120 _ (by omega))).trans ((fld_eq (g17111 _ (by omega))).trans ((fld_eq (g17102 _ (by omega))).trans ((fld_eq (g17093 _ (by omega))).trans ((fld_eq (g17082 _ (by omega))).trans ((fld_eq (g17072 _ (by omega))).trans ((fld_eq (g17061 _ (by omega))).trans ((fld_eq (g17052 _ (by omega))).trans ((fld_eq (g17042 _ (by omega))).trans ((fld_eq (g17031 _ (by omega))).trans f17024)))))))))) ?_
  refine m_iconst F (v := 4) (by decide) e_X10_takeText_138 ?_
  refine m_iload_n F rfl e_X10_takeText_139 ?_
  refine m_iadd F e_X10_takeText_140 ?_
  refine Wm.topE (w := 5) (by decide) ?_
  refine r_iald F (len := 8) (j := 5) e_X10_takeText_141 h17119 (fun _ h => h) (by decide) (by decide) (by unfold vp_in; decide) (fun x17124 h17125 f17126 => ?_)
  obtain ⟨n17127, hn17127, rfl⟩ := h17125
  refine r_iast F (g' := (⟨T, Z, u, h, P17086, L⟩ : RG)) (len := 8) (j := 1) e_X10_takeText_142 h17119 (fun _ h => h) (fun f h => ⟨f, rfl, h⟩) (by decide) (by decide) (by decide) (by unfold vp_in; decide) ⟨n17127, by omega, rfl⟩ (fun _ _ _ h => h) (fun _ _ _ h => h) (fun σ17128 h17129 g17130 f17131 g17132 => ?_)
  have ga17133 := ga17123.of (g17130 _ (by omega))
  refine m_aload_n F rfl e_X10_takeText_143 ?_
  refine r_getC F e_X10_takeText_144 fl_X10_49 h17129 ((fld_eq (g17130 _ (by omega))).trans ((fld_eq (g17120 _ (by omega))).trans ((fld_eq (g17111 _ (by omega))).trans ((fld_eq (g17102 _ (by omega))).trans ((fld_eq (g17093 _ (by omega))).trans ((fld_eq (g17082 _ (by omega))).trans ((fld_eq (g17072 _ (by omega))).trans ((fld_eq (g17061 _ (by omega))).trans ((fld_eq (g17052 _ (by omega))).trans ((fld_eq (g17042 _ (by omega))).trans f17035)))))))))) ?_
  refine m_iload_n F rfl e_X10_takeText_147 ?_
  refine m_aload_n F rfl e_X10_takeText_148 ?_
  refine r_getC F e_X10_takeText_149 fl_X10_49 h17129 ((fld_eq (g17130 _ (by omega))).trans ((fld_eq (g17120 _ (by omega))).trans ((fld_eq (g17111 _ (by omega))).trans ((fld_eq (g17102 _ (by omega))).trans ((fld_eq (g17093 _ (by omega))).trans ((fld_eq (g17082 _ (by omega))).trans ((fld_eq (g17072 _ (by omega))).trans ((fld_eq (g17061 _ (by omega))).trans ((fld_eq (g17052 _ (by omega))).trans ((fld_eq (g17042 _ (by omega))).trans f17035)))))))))) ?_
  refine m_iconst F (v := 4) (by decide) e_X10_takeText_152 ?_
  refine m_iload_n F rfl e_X10_takeText_153 ?_
  refine m_iadd F e_X10_takeText_154 ?_
  refine Wm.topE (w := 5) (by decide) ?_
  refine r_iald F (len := 8) (j := 5) e_X10_takeText_155 h17129 (fun _ h => h) (by decide) (by decide) (by unfold vp_in; decide) (fun x17134 h17135 f17136 => ?_)
  obtain ⟨n17137, hn17137, rfl⟩ := h17135
  refine r_iast F (g' := (⟨T, Z, u, h, P17086, L⟩ : RG)) (len := 8) (j := 1) e_X10_takeText_156 h17129 (fun _ h => h) (fun f h => ⟨f, rfl, h⟩) (by decide) (by decide) (by decide) (by unfold vp_in; decide) ⟨n17137, by omega, rfl⟩ (fun _ _ _ h => h) (fun _ _ _ h => h) (fun σ17138 h17139 g17140 f17141 g17142 => ?_)
  have ga17143 := ga17133.of (g17140 _ (by omega))
  refine m_aload_n F rfl e_X10_takeText_157 ?_
  refine r_getC F e_X10_takeText_158 fl_X10_52 h17139 ((fld_eq (g17140 _ (by omega))).trans ((fld_eq (g17130 _ (by omega))).trans ((fld_eq (g17120 _ (by omega))).trans ((fld_eq (g17111 _ (by omega))).trans ((fld_eq (g17102 _ (by omega))).trans ((fld_eq (g17093 _ (by omega))).trans ((fld_eq (g17082 _ (by omega))).trans ((fld_eq (g17072 _ (by omega))).trans ((fld_eq (g17061 _ (by omega))).trans ((fld_eq (g17052 _ (by omega))).trans f17046)))))))))) ?_
  refine m_iload_n F rfl e_X10_takeText_161 ?_
  refine m_aload_n F rfl e_X10_takeText_162 ?_
  refine r_getC F e_X10_takeText_163 fl_X10_52 h17139 ((fld_eq (g17140 _ (by omega))).trans ((fld_eq (g17130 _ (by omega))).trans ((fld_eq (g17120 _ (by omega))).trans ((fld_eq (g17111 _ (by omega))).trans ((fld_eq (g17102 _ (by omega))).trans ((fld_eq (g17093 _ (by omega))).trans ((fld_eq (g17082 _ (by omega))).trans ((fld_eq (g17072 _ (by omega))).trans ((fld_eq (g17061 _ (by omega))).trans ((fld_eq (g17052 _ (by omega))).trans f17046)))))))))) ?_
  refine m_iconst F (v := 4) (by decide) e_X10_takeText_166 ?_
  refine m_iload_n F rfl e_X10_takeText_167 ?_
  refine m_iadd F e_X10_takeText_168 ?_
  refine Wm.topE (w := 5) (by decide) ?_
  refine r_iald F (len := 8) (j := 5) e_X10_takeText_169 h17139 (fun _ h => h) (by decide) (by decide) (by unfold vp_in; decide) (fun x17144 h17145 f17146 => ?_)
  refine r_iast F (g' := (⟨T, Z, u, h, P17086, L⟩ : RG)) (len := 8) (j := 1) e_X10_takeText_170 h17139 (fun _ h => h) (fun f h => ⟨f, rfl, h⟩) (by decide) (by decide) (by decide) (by unfold vp_in; decide) trivial (fun _ _ _ h => h) (fun _ _ _ h => h) (fun σ17147 h17148 g17149 f17150 g17151 => ?_)
  have ga17152 := ga17143.of (g17149 _ (by omega))
  refine m_iinc F (v := 2) (lv' := [(1, .int 2), (0, .ref c)]) e_X10_takeText_171 rfl (by decide) (by decide) rfl ?_
  refine m_goto F e_X10_takeText_174 ?_
  refine m_iload_n F rfl e_X10_takeText_26 ?_
  refine m_iconst F (v := 4) (by decide) e_X10_takeText_27 ?_
  refine m_icmp_ge F e_X10_takeText_28 (fun q => absurd q (by decide)) (fun _ => ?_)
  refine m_aload_n F rfl e_X10_takeText_31 ?_
  refine r_getC F e_X10_takeText_32 fl_X10_16 h17148 ((fld_eq (g17149 _ (by omega))).trans ((fld_eq (g17140 _ (by omega))).trans ((fld_eq (g17130 _ (by omega))).trans ((fld_eq (g17120 _ (by omega))).trans ((fld_eq (g17111 _ (by omega))).trans ((fld_eq (g17102 _ (by omega))).trans ((fld_eq (g17093 _ (by omega))).trans ((fld_eq (g17082 _ (by omega))).trans ((fld_eq (g17072 _ (by omega))).trans ((fld_eq (g17061 _ (by omega))).trans ((fld_eq (g17052 _ (by omega))).trans ((fld_eq (g17042 _ (by omega))).trans ((fld_eq (g17031 _ (by omega))).trans ((fld_eq (g17020 _ (by omega))).trans ((fld_eq (g17010 _ (by omega))).trans ((fld_eq (g17000 _ (by omega))).trans ((fld_eq (g16990 _ (by omega))).trans ((fld_eq (g16978 _ (by omega))).trans ((fld_eq (g16967 _ (by omega))).trans ((fld_eq (g16955 _ (by omega))).trans f16949)))))))))))))))))))) ?_
  refine m_iload_n F rfl e_X10_takeText_35 ?_
  refine m_aload_n F rfl e_X10_takeText_36 ?_
  refine r_getC F e_X10_takeText_37 fl_X10_16 h17148 ((fld_eq (g17149 _ (by omega))).trans ((fld_eq (g17140 _ (by omega))).trans ((fld_eq (g17130 _ (by omega))).trans ((fld_eq (g17120 _ (by omega))).trans ((fld_eq (g17111 _ (by omega))).trans ((fld_eq (g17102 _ (by omega))).trans ((fld_eq (g17093 _ (by omega))).trans ((fld_eq (g17082 _ (by omega))).trans ((fld_eq (g17072 _ (by omega))).trans ((fld_eq (g17061 _ (by omega))).trans ((fld_eq (g17052 _ (by omega))).trans ((fld_eq (g17042 _ (by omega))).trans ((fld_eq (g17031 _ (by omega))).trans ((fld_eq (g17020 _ (by omega))).trans ((fld_eq (g17010 _ (by omega))).trans ((fld_eq (g17000 _ (by omega))).trans ((fld_eq (g16990 _ (by omega))).trans ((fld_eq (g16978 _ (by omega))).trans ((fld_eq (g16967 _ (by omega))).trans ((fld_eq (g16955 _ (by omega))).trans f16949)))))))))))))))))))) ?_
  refine m_iconst F (v := 4) (by decide) e_X10_takeText_40 ?_
  refine m_iload_n F rfl e_X10_takeText_41 ?_
  refine m_iadd F e_X10_takeText_42 ?_
  refine Wm.topE (w := 6) (by decide) ?_
  refine r_iald F (len := 8) (j := 6) e_X10_takeText_43 h17148 (fun _ h => h) (by decide) (by decide) (by unfold vp_in; decide) (fun x17153 h17154 f17155 => ?_)
  have hv2 : 2 < nl → x17153 = nI (nm 2) := fun h9 => Option.some.inj ((f17155).symm.trans (ga17152 2 h9).2)
  obtain ⟨nb17161, enb17161⟩ := nI_ex x17153
  refine r_iast F (g' := (⟨T, Z, u, h, (mkP P17086.n0 P17086.n2 P17086.n5 P17086.n7 P17086.m0 P17086.m5 P17086.w2 P17086.w7 P17086.kk P17086.a P17086.b0 P17086.b1 nb17161 P17086.b3), L⟩ : RG)) (len := 8) (j := 2) e_X10_takeText_44 h17148 (fun _ h => h) (fun f h => ⟨f, rfl, h⟩) (by decide) (by decide) (by decide) (by unfold vp_in; decide) (fun _ => enb17161) (fun i hi y hy h4 => (hy h4).trans (congrArg nI (bselN2 hi h4))) (CR.chg (by intro k hk i x h; unfold EI at h ⊢; split at h <;> first | exact h | exact absurd rfl hk | trivial) rfl rfl) (fun σ17156 h17157 g17158 f17159 g17160 => ?_)
  obtain ⟨P17162, eP17162⟩ : ∃ P9, P9 = (mkP P17086.n0 P17086.n2 P17086.n5 P17086.n7 P17086.m0 P17086.m5 P17086.w2 P17086.w7 P17086.kk P17086.a P17086.b0 P17086.b1 nb17161 P17086.b3) := ⟨_, rfl⟩
  rw [← eP17162] at h17157
  have fP17162 : P17162.n0 = P17086.n0 ∧ P17162.n2 = P17086.n2 ∧ P17162.n5 = P17086.n5 ∧ P17162.n7 = P17086.n7 ∧ P17162.m0 = P17086.m0 ∧ P17162.m5 = P17086.m5 ∧ P17162.w2 = P17086.w2 ∧ P17162.w7 = P17086.w7 ∧ P17162.kk = P17086.kk ∧ P17162.a = P17086.a ∧ P17162.b0 = P17086.b0 ∧ P17162.b1 = P17086.b1 ∧ P17162.b2 = nb17161 ∧ P17162.b3 = P17086.b3 := by rw [eP17162]; exact ⟨rfl, rfl, rfl, rfl, rfl, rfl, rfl, rfl, rfl, rfl, rfl, rfl, rfl, rfl⟩
  have ga17163 := MR.st (l := 2) ga17152 (by decide) g17160
  refine m_aload_n F rfl e_X10_takeText_45 ?_
  refine r_getC F e_X10_takeText_46 fl_X10_19 h17157 ((fld_eq (g17158 _ (by omega))).trans ((fld_eq (g17149 _ (by omega))).trans ((fld_eq (g17140 _ (by omega))).trans ((fld_eq (g17130 _ (by omega))).trans ((fld_eq (g17120 _ (by omega))).trans ((fld_eq (g17111 _ (by omega))).trans ((fld_eq (g17102 _ (by omega))).trans ((fld_eq (g17093 _ (by omega))).trans ((fld_eq (g17082 _ (by omega))).trans ((fld_eq (g17072 _ (by omega))).trans ((fld_eq (g17061 _ (by omega))).trans ((fld_eq (g17052 _ (by omega))).trans ((fld_eq (g17042 _ (by omega))).trans ((fld_eq (g17031 _ (by omega))).trans ((fld_eq (g17020 _ (by omega))).trans ((fld_eq (g17010 _ (by omega))).trans ((fld_eq (g17000 _ (by omega))).trans ((fld_eq (g16990 _ (by omega))).trans ((fld_eq (g16978 _ (by omega))).trans ((fld_eq (g16967 _ (by omega))).trans f16961)))))))))))))))))))) ?_
  refine m_iload_n F rfl e_X10_takeText_49 ?_
  refine m_aload_n F rfl e_X10_takeText_50 ?_
  refine r_getC F e_X10_takeText_51 fl_X10_19 h17157 ((fld_eq (g17158 _ (by omega))).trans ((fld_eq (g17149 _ (by omega))).trans ((fld_eq (g17140 _ (by omega))).trans ((fld_eq (g17130 _ (by omega))).trans ((fld_eq (g17120 _ (by omega))).trans ((fld_eq (g17111 _ (by omega))).trans ((fld_eq (g17102 _ (by omega))).trans ((fld_eq (g17093 _ (by omega))).trans ((fld_eq (g17082 _ (by omega))).trans ((fld_eq (g17072 _ (by omega))).trans ((fld_eq (g17061 _ (by omega))).trans ((fld_eq (g17052 _ (by omega))).trans ((fld_eq (g17042 _ (by omega))).trans ((fld_eq (g17031 _ (by omega))).trans ((fld_eq (g17020 _ (by omega))).trans ((fld_eq (g17010 _ (by omega))).trans ((fld_eq (g17000 _ (by omega))).trans ((fld_eq (g16990 _ (by omega))).trans ((fld_eq (g16978 _ (by omega))).trans ((fld_eq (g16967 _ (by omega))).trans f16961)))))))))))))))))))) ?_
  refine m_iconst F (v := 4) (by decide) e_X10_takeText_54 ?_
  refine m_iload_n F rfl e_X10_takeText_55 ?_
  refine m_iadd F e_X10_takeText_56 ?_
  refine Wm.topE (w := 6) (by decide) ?_
  refine r_iald F (len := 8) (j := 6) e_X10_takeText_57 h17157 (fun _ h => h) (by decide) (by decide) (by unfold vp_in; decide) (fun x17164 h17165 f17166 => ?_)
  refine r_iast F (g' := (⟨T, Z, u, h, P17162, L⟩ : RG)) (len := 8) (j := 2) e_X10_takeText_58 h17157 (fun _ h => h) (fun f h => ⟨f, rfl, h⟩) (by decide) (by decide) (by decide) (by unfold vp_in; decide) trivial (fun _ _ _ h => h) (fun _ _ _ h => h) (fun σ17167 h17168 g17169 f17170 g17171 => ?_)
  have ga17172 := ga17163.of (g17169 _ (by omega))
  refine m_aload_n F rfl e_X10_takeText_59 ?_
  refine r_getC F e_X10_takeText_60 fl_X10_22 h17168 ((fld_eq (g17169 _ (by omega))).trans ((fld_eq (g17158 _ (by omega))).trans ((fld_eq (g17149 _ (by omega))).trans ((fld_eq (g17140 _ (by omega))).trans ((fld_eq (g17130 _ (by omega))).trans ((fld_eq (g17120 _ (by omega))).trans ((fld_eq (g17111 _ (by omega))).trans ((fld_eq (g17102 _ (by omega))).trans ((fld_eq (g17093 _ (by omega))).trans ((fld_eq (g17082 _ (by omega))).trans ((fld_eq (g17072 _ (by omega))).trans ((fld_eq (g17061 _ (by omega))).trans ((fld_eq (g17052 _ (by omega))).trans ((fld_eq (g17042 _ (by omega))).trans ((fld_eq (g17031 _ (by omega))).trans ((fld_eq (g17020 _ (by omega))).trans ((fld_eq (g17010 _ (by omega))).trans ((fld_eq (g17000 _ (by omega))).trans ((fld_eq (g16990 _ (by omega))).trans ((fld_eq (g16978 _ (by omega))).trans f16971)))))))))))))))))))) ?_
  refine m_iload_n F rfl e_X10_takeText_63 ?_
  refine m_aload_n F rfl e_X10_takeText_64 ?_
  refine r_getC F e_X10_takeText_65 fl_X10_22 h17168 ((fld_eq (g17169 _ (by omega))).trans ((fld_eq (g17158 _ (by omega))).trans ((fld_eq (g17149 _ (by omega))).trans ((fld_eq (g17140 _ (by omega))).trans ((fld_eq (g17130 _ (by omega))).trans ((fld_eq (g17120 _ (by omega))).trans ((fld_eq (g17111 _ (by omega))).trans ((fld_eq (g17102 _ (by omega))).trans ((fld_eq (g17093 _ (by omega))).trans ((fld_eq (g17082 _ (by omega))).trans ((fld_eq (g17072 _ (by omega))).trans ((fld_eq (g17061 _ (by omega))).trans ((fld_eq (g17052 _ (by omega))).trans ((fld_eq (g17042 _ (by omega))).trans ((fld_eq (g17031 _ (by omega))).trans ((fld_eq (g17020 _ (by omega))).trans ((fld_eq (g17010 _ (by omega))).trans ((fld_eq (g17000 _ (by omega))).trans ((fld_eq (g16990 _ (by omega))).trans ((fld_eq (g16978 _ (by omega))).trans f16971)))))))))))))))))))) ?_
  refine m_iconst F (v := 4) (by decide) e_X10_takeText_68 ?_
  refine m_iload_n F rfl e_X10_takeText_69 ?_
  refine m_iadd F e_X10_takeText_70 ?_
  refine Wm.topE (w := 6) (by decide) ?_
  refine r_iald F (len := 8) (j := 6) e_X10_takeText_71 h17168 (fun _ h => h) (by decide) (by decide) (by unfold vp_in; decide) (fun x17173 h17174 f17175 => ?_)
  obtain ⟨n17176, hn17176, rfl, pn17176, rn17176⟩ := h17174
  refine r_iast F (g' := (⟨T, Z, u, h, (mkP P17162.n0 P17162.n2 P17162.n5 P17162.n7 (min 3 P17162.m5) P17162.m5 P17162.w2 P17162.w7 P17162.kk P17162.a P17162.b0 P17162.b1 P17162.b2 P17162.b3), L⟩ : RG)) (len := 8) (j := 2) e_X10_takeText_72 h17168 (fun _ h => h) (fun f h => ⟨f, rfl, h⟩) (by decide) (by decide) (by decide) (by unfold vp_in; decide) ⟨n17176, by omega, rfl, fun _ h8 => rn17176 (by omega) (show 6 < 4 + P17162.m5 by have h6 : 2 < min 3 P17162.m5 := h8; omega), fun h7 _ => absurd h7 (by omega)⟩ (fun i hi y hy => by obtain ⟨n9, a9, b9, c9, d9⟩ := hy; exact ⟨n9, a9, b9, fun h7 h8 => c9 h7 (show i < P17162.m0 by have h6 : i < min 3 P17162.m5 := h8; omega), d9⟩) (CR.chg (by intro k hk i x h; unfold EI at h ⊢; split at h <;> first | exact h | exact absurd rfl hk | trivial) rfl rfl) (fun σ17177 h17178 g17179 f17180 g17181 => ?_)
  have ga17182 := ga17172.of (g17179 _ (by omega))
  obtain ⟨P17183, eP17183⟩ : ∃ P9, P9 = (mkP P17162.n0 P17162.n2 P17162.n5 P17162.n7 (min 3 P17162.m5) P17162.m5 P17162.w2 P17162.w7 P17162.kk P17162.a P17162.b0 P17162.b1 P17162.b2 P17162.b3) := ⟨_, rfl⟩
  rw [← eP17183] at h17178
  have fP17183 : P17183.n0 = P17162.n0 ∧ P17183.n2 = P17162.n2 ∧ P17183.n5 = P17162.n5 ∧ P17183.n7 = P17162.n7 ∧ P17183.m0 = min 3 P17162.m5 ∧ P17183.m5 = P17162.m5 ∧ P17183.w2 = P17162.w2 ∧ P17183.w7 = P17162.w7 ∧ P17183.kk = P17162.kk ∧ P17183.a = P17162.a ∧ P17183.b0 = P17162.b0 ∧ P17183.b1 = P17162.b1 ∧ P17183.b2 = P17162.b2 ∧ P17183.b3 = P17162.b3 := by rw [eP17183]; exact ⟨rfl, rfl, rfl, rfl, rfl, rfl, rfl, rfl, rfl, rfl, rfl, rfl, rfl, rfl⟩
  refine m_aload_n F rfl e_X10_takeText_73 ?_
  refine r_getC F e_X10_takeText_74 fl_X10_25 h17178 ((fld_eq (g17179 _ (by omega))).trans ((fld_eq (g17169 _ (by omega))).trans ((fld_eq (g17158 _ (by omega))).trans ((fld_eq (g17149 _ (by omega))).trans ((fld_eq (g17140 _ (by omega))).trans ((fld_eq (g17130 _ (by omega))).trans ((fld_eq (g17120 _ (by omega))).trans ((fld_eq (g17111 _ (by omega))).trans ((fld_eq (g17102 _ (by omega))).trans ((fld_eq (g17093 _ (by omega))).trans ((fld_eq (g17082 _ (by omega))).trans ((fld_eq (g17072 _ (by omega))).trans ((fld_eq (g17061 _ (by omega))).trans ((fld_eq (g17052 _ (by omega))).trans ((fld_eq (g17042 _ (by omega))).trans ((fld_eq (g17031 _ (by omega))).trans ((fld_eq (g17020 _ (by omega))).trans ((fld_eq (g17010 _ (by omega))).trans ((fld_eq (g17000 _ (by omega))).trans ((fld_eq (g16990 _ (by omega))).trans f16983)))))))))))))))))))) ?_
  refine m_iload_n F rfl e_X10_takeText_77 ?_
  refine m_aload_n F rfl e_X10_takeText_78 ?_
  refine r_getC F e_X10_takeText_79 fl_X10_25 h17178 ((fld_eq (g17179 _ (by omega))).trans ((fld_eq (g17169 _ (by omega))).trans ((fld_eq (g17158 _ (by omega))).trans ((fld_eq (g17149 _ (by omega))).trans ((fld_eq (g17140 _ (by omega))).trans ((fld_eq (g17130 _ (by omega))).trans ((fld_eq (g17120 _ (by omega))).trans ((fld_eq (g17111 _ (by omega))).trans ((fld_eq (g17102 _ (by omega))).trans ((fld_eq (g17093 _ (by omega))).trans ((fld_eq (g17082 _ (by omega))).trans ((fld_eq (g17072 _ (by omega))).trans ((fld_eq (g17061 _ (by omega))).trans ((fld_eq (g17052 _ (by omega))).trans ((fld_eq (g17042 _ (by omega))).trans ((fld_eq (g17031 _ (by omega))).trans ((fld_eq (g17020 _ (by omega))).trans ((fld_eq (g17010 _ (by omega))).trans ((fld_eq (g17000 _ (by omega))).trans ((fld_eq (g16990 _ (by omega))).trans f16983)))))))))))))))))))) ?_
  refine m_iconst F (v := 4) (by decide) e_X10_takeText_82 ?_
  refine m_iload_n F rfl e_X10_takeText_83 ?_
  refine m_iadd F e_X10_takeText_84 ?_
  refine Wm.topE (w := 6) (by decide) ?_
  refine r_iald F (len := 8) (j := 6) e_X10_takeText_85 h17178 (fun _ h => h) (by decide) (by decide) (by unfold vp_in; decide) (fun x17184 h17185 f17186 => ?_)
  obtain ⟨n17187, hn17187, rfl⟩ := h17185
  refine r_iast F (g' := (⟨T, Z, u, h, P17183, L⟩ : RG)) (len := 8) (j := 2) e_X10_takeText_86 h17178 (fun _ h => h) (fun f h => ⟨f, rfl, h⟩) (by decide) (by decide) (by decide) (by unfold vp_in; decide) ⟨n17187, by omega, rfl⟩ (fun _ _ _ h => h) (fun _ _ _ h => h) (fun σ17188 h17189 g17190 f17191 g17192 => ?_)
  have ga17193 := ga17182.of (g17190 _ (by omega))
  refine m_aload_n F rfl e_X10_takeText_87 ?_
  refine r_getC F e_X10_takeText_88 fl_X10_28 h17189 ((fld_eq (g17190 _ (by omega))).trans ((fld_eq (g17179 _ (by omega))).trans ((fld_eq (g17169 _ (by omega))).trans ((fld_eq (g17158 _ (by omega))).trans ((fld_eq (g17149 _ (by omega))).trans ((fld_eq (g17140 _ (by omega))).trans ((fld_eq (g17130 _ (by omega))).trans ((fld_eq (g17120 _ (by omega))).trans ((fld_eq (g17111 _ (by omega))).trans ((fld_eq (g17102 _ (by omega))).trans ((fld_eq (g17093 _ (by omega))).trans ((fld_eq (g17082 _ (by omega))).trans ((fld_eq (g17072 _ (by omega))).trans ((fld_eq (g17061 _ (by omega))).trans ((fld_eq (g17052 _ (by omega))).trans ((fld_eq (g17042 _ (by omega))).trans ((fld_eq (g17031 _ (by omega))).trans ((fld_eq (g17020 _ (by omega))).trans ((fld_eq (g17010 _ (by omega))).trans ((fld_eq (g17000 _ (by omega))).trans f16994)))))))))))))))))))) ?_
  refine m_iload_n F rfl e_X10_takeText_91 ?_
  refine m_aload_n F rfl e_X10_takeText_92 ?_
  refine r_getC F e_X10_takeText_93 fl_X10_28 h17189 ((fld_eq (g17190 _ (by omega))).trans ((fld_eq (g17179 _ (by omega))).trans ((fld_eq (g17169 _ (by omega))).trans ((fld_eq (g17158 _ (by omega))).trans ((fld_eq (g17149 _ (by omega))).trans ((fld_eq (g17140 _ (by omega))).trans ((fld_eq (g17130 _ (by omega))).trans ((fld_eq (g17120 _ (by omega))).trans ((fld_eq (g17111 _ (by omega))).trans ((fld_eq (g17102 _ (by omega))).trans ((fld_eq (g17093 _ (by omega))).trans ((fld_eq (g17082 _ (by omega))).trans ((fld_eq (g17072 _ (by omega))).trans ((fld_eq (g17061 _ (by omega))).trans ((fld_eq (g17052 _ (by omega))).trans ((fld_eq (g17042 _ (by omega))).trans ((fld_eq (g17031 _ (by omega))).trans ((fld_eq (g17020 _ (by omega))).trans ((fld_eq (g17010 _ (by omega))).trans ((fld_eq (g17000 _ (by omega))).trans f16994)))))))))))))))))))) ?_
  refine m_iconst F (v := 4) (by decide) e_X10_takeText_96 ?_
  refine m_iload_n F rfl e_X10_takeText_97 ?_
  refine m_iadd F e_X10_takeText_98 ?_
  refine Wm.topE (w := 6) (by decide) ?_
  refine r_iald F (len := 8) (j := 6) e_X10_takeText_99 h17189 (fun _ h => h) (by decide) (by decide) (by unfold vp_in; decide) (fun x17194 h17195 f17196 => ?_)
  refine r_iast F (g' := (⟨T, Z, u, h, P17183, L⟩ : RG)) (len := 8) (j := 2) e_X10_takeText_100 h17189 (fun _ h => h) (fun f h => ⟨f, rfl, h⟩) (by decide) (by decide) (by decide) (by unfold vp_in; decide) trivial (fun _ _ _ h => h) (fun _ _ _ h => h) (fun σ17197 h17198 g17199 f17200 g17201 => ?_)
  have ga17202 := ga17193.of (g17199 _ (by omega))
  refine m_aload_n F rfl e_X10_takeText_101 ?_
  refine r_getC F e_X10_takeText_102 fl_X10_31 h17198 ((fld_eq (g17199 _ (by omega))).trans ((fld_eq (g17190 _ (by omega))).trans ((fld_eq (g17179 _ (by omega))).trans ((fld_eq (g17169 _ (by omega))).trans ((fld_eq (g17158 _ (by omega))).trans ((fld_eq (g17149 _ (by omega))).trans ((fld_eq (g17140 _ (by omega))).trans ((fld_eq (g17130 _ (by omega))).trans ((fld_eq (g17120 _ (by omega))).trans ((fld_eq (g17111 _ (by omega))).trans ((fld_eq (g17102 _ (by omega))).trans ((fld_eq (g17093 _ (by omega))).trans ((fld_eq (g17082 _ (by omega))).trans ((fld_eq (g17072 _ (by omega))).trans ((fld_eq (g17061 _ (by omega))).trans ((fld_eq (g17052 _ (by omega))).trans ((fld_eq (g17042 _ (by omega))).trans ((fld_eq (g17031 _ (by omega))).trans ((fld_eq (g17020 _ (by omega))).trans ((fld_eq (g17010 _ (by omega))).trans f17004)))))))))))))))))))) ?_
  refine m_iload_n F rfl e_X10_takeText_105 ?_
  refine m_aload_n F rfl e_X10_takeText_106 ?_
  refine r_getC F e_X10_takeText_107 fl_X10_31 h17198 ((fld_eq (g17199 _ (by omega))).trans ((fld_eq (g17190 _ (by omega))).trans ((fld_eq (g17179 _ (by omega))).trans ((fld_eq (g17169 _ (by omega))).trans ((fld_eq (g17158 _ (by omega))).trans ((fld_eq (g17149 _ (by omega))).trans ((fld_eq (g17140 _ (by omega))).trans ((fld_eq (g17130 _ (by omega))).trans ((fld_eq (g17120 _ (by omega))).trans ((fld_eq (g17111 _ (by omega))).trans ((fld_eq (g17102 _ (by omega))).trans ((fld_eq (g17093 _ (by omega))).trans ((fld_eq (g17082 _ (by omega))).trans ((fld_eq (g17072 _ (by omega))).trans ((fld_eq (g17061 _ (by omega))).trans ((fld_eq (g17052 _ (by omega))).trans ((fld_eq (g17042 _ (by omega))).trans ((fld_eq (g17031 _ (by omega))).trans ((fld_eq (g17020 _ (by omega))).trans ((fld_eq (g17010 _ (by omega))).trans f17004)))))))))))))))))))) ?_
  refine m_iconst F (v := 4) (by decide) e_X10_takeText_110 ?_
  refine m_iload_n F rfl e_X10_takeText_111 ?_
  refine m_iadd F e_X10_takeText_112 ?_
  refine Wm.topE (w := 6) (by decide) ?_
  refine r_iald F (len := 8) (j := 6) e_X10_takeText_113 h17198 (fun _ h => h) (by decide) (by decide) (by unfold vp_in; decide) (fun x17203 h17204 f17205 => ?_)
  refine r_iast F (g' := (⟨T, Z, u, h, P17183, L⟩ : RG)) (len := 8) (j := 2) e_X10_takeText_114 h17198 (fun _ h => h) (fun f h => ⟨f, rfl, h⟩) (by decide) (by decide) (by decide) (by unfold vp_in; decide) trivial (fun _ _ _ h => h) (fun _ _ _ h => h) (fun σ17206 h17207 g17208 f17209 g17210 => ?_)
  have ga17211 := ga17202.of (g17208 _ (by omega))
  refine m_aload_n F rfl e_X10_takeText_115 ?_
  refine r_getC F e_X10_takeText_116 fl_X10_34 h17207 ((fld_eq (g17208 _ (by omega))).trans ((fld_eq (g17199 _ (by omega))).trans ((fld_eq (g17190 _ (by omega))).trans ((fld_eq (g17179 _ (by omega))).trans ((fld_eq (g17169 _ (by omega))).trans ((fld_eq (g17158 _ (by omega))).trans ((fld_eq (g17149 _ (by omega))).trans ((fld_eq (g17140 _ (by omega))).trans ((fld_eq (g17130 _ (by omega))).trans ((fld_eq (g17120 _ (by omega))).trans ((fld_eq (g17111 _ (by omega))).trans ((fld_eq (g17102 _ (by omega))).trans ((fld_eq (g17093 _ (by omega))).trans ((fld_eq (g17082 _ (by omega))).trans ((fld_eq (g17072 _ (by omega))).trans ((fld_eq (g17061 _ (by omega))).trans ((fld_eq (g17052 _ (by omega))).trans ((fld_eq (g17042 _ (by omega))).trans ((fld_eq (g17031 _ (by omega))).trans ((fld_eq (g17020 _ (by omega))).trans f17014)))))))))))))))))))) ?_
  refine m_iload_n F rfl e_X10_takeText_119 ?_
  refine m_aload_n F rfl e_X10_takeText_120 ?_
  refine r_getC F e_X10_takeText_121 fl_X10_34 h17207 ((fld_eq (g17208 _ (by omega))).trans ((fld_eq (g17199 _ (by omega))).trans ((fld_eq (g17190 _ (by omega))).trans ((fld_eq (g17179 _ (by omega))).trans ((fld_eq (g17169 _ (by omega))).trans ((fld_eq (g17158 _ (by omega))).trans ((fld_eq (g17149 _ (by omega))).trans ((fld_eq (g17140 _ (by omega))).trans ((fld_eq (g17130 _ (by omega))).trans ((fld_eq (g17120 _ (by omega))).trans ((fld_eq (g17111 _ (by omega))).trans ((fld_eq (g17102 _ (by omega))).trans ((fld_eq (g17093 _ (by omega))).trans ((fld_eq (g17082 _ (by omega))).trans ((fld_eq (g17072 _ (by omega))).trans ((fld_eq (g17061 _ (by omega))).trans ((fld_eq (g17052 _ (by omega))).trans ((fld_eq (g17042 _ (by omega))).trans ((fld_eq (g17031 _ (by omega))).trans ((fld_eq (g17020 _ (by omega))).trans f17014)))))))))))))))))))) ?_
  refine m_iconst F (v := 4) (by decide) e_X10_takeText_124 ?_
  refine m_iload_n F rfl e_X10_takeText_125 ?_
  refine m_iadd F e_X10_takeText_126 ?_
  refine Wm.topE (w := 6) (by decide) ?_
  refine r_iald F (len := 8) (j := 6) e_X10_takeText_127 h17207 (fun _ h => h) (by decide) (by decide) (by unfold vp_in; decide) (fun x17212 h17213 f17214 => ?_)
  refine r_iast F (g' := (⟨T, Z, u, h, P17183, L⟩ : RG)) (len := 8) (j := 2) e_X10_takeText_128 h17207 (fun _ h => h) (fun f h => ⟨f, rfl, h⟩) (by decide) (by decide) (by decide) (by unfold vp_in; decide) trivial (fun _ _ _ h => h) (fun _ _ _ h => h) (fun σ17215 h17216 g17217 f17218 g17219 => ?_)
  have ga17220 := ga17211.of (g17217 _ (by omega))
  refine m_aload_n F rfl e_X10_takeText_129 ?_
  refine r_getC F e_X10_takeText_130 fl_X10_46 h17216 ((fld_eq (g17217 _ (by omega))).trans ((fld_eq (g17208 _ (by omega))).trans ((fld_eq (g17199 _ (by omega))).trans ((fld_eq (g17190 _ (by omega))).trans ((fld_eq (g17179 _ (by omega))).trans ((fld_eq (g17169 _ (by omega))).trans ((fld_eq (g17158 _ (by omega))).trans ((fld_eq (g17149 _ (by omega))).trans ((fld_eq (g17140 _ (by omega))).trans ((fld_eq (g17130 _ (by omega))).trans ((fld_eq (g17120 _ (by omega))).trans ((fld_eq (g17111 _ (by omega))).trans ((fld_eq (g17102 _ (by omega))).trans ((fld_eq (g17093 _ (by omega))).trans ((fld_eq (g17082 _ (by omega))).trans ((fld_eq (g17072 _ (by omega))).trans ((fld_eq (g17061 _ (by omega))).trans ((fld_eq (g17052 _ (by omega))).trans ((fld_eq (g17042 _ (by omega))).trans ((fld_eq (g17031 _ (by omega))).trans f17024)))))))))))))))))))) ?_
  refine m_iload_n F rfl e_X10_takeText_133 ?_
  refine m_aload_n F rfl e_X10_takeText_134 ?_
  refine r_getC F e_X10_takeText_135 fl_X10_46 h17216 ((fld_eq (g17217 _ (by omega))).trans ((fld_eq (g17208 _ (by omega))).trans ((fld_eq (g17199 _ (by omega))).trans ((fld_eq (g17190 _ (by omega))).trans ((fld_eq (g17179 _ (by omega))).trans ((fld_eq (g17169 _ (by omega))).trans ((fld_eq (g17158 _ (by omega))).trans ((fld_eq (g17149 _ (by omega))).trans ((fld_eq (g17140 _ (by omega))).trans ((fld_eq (g17130 _ (by omega))).trans ((fld_eq (g17120 _ (by omega))).trans ((fld_eq (g17111 _ (by omega))).trans ((fld_eq (g17102 _ (by omega))).trans ((fld_eq (g17093 _ (by omega))).trans ((fld_eq (g17082 _ (by omega))).trans ((fld_eq (g17072 _ (by omega))).trans ((fld_eq (g17061 _ (by omega))).trans ((fld_eq (g17052 _ (by omega))).trans ((fld_eq (g17042 _ (by omega))).trans ((fld_eq (g17031 _ (by omega))).trans f17024)))))))))))))))))))) ?_
  refine m_iconst F (v := 4) (by decide) e_X10_takeText_138 ?_
  refine m_iload_n F rfl e_X10_takeText_139 ?_
  refine m_iadd F e_X10_takeText_140 ?_
  refine Wm.topE (w := 6) (by decide) ?_
  refine r_iald F (len := 8) (j := 6) e_X10_takeText_141 h17216 (fun _ h => h) (by decide) (by decide) (by unfold vp_in; decide) (fun x17221 h17222 f17223 => ?_)
  obtain ⟨n17224, hn17224, rfl⟩ := h17222
  refine r_iast F (g' := (⟨T, Z, u, h, P17183, L⟩ : RG)) (len := 8) (j := 2) e_X10_takeText_142 h17216 (fun _ h => h) (fun f h => ⟨f, rfl, h⟩) (by decide) (by decide) (by decide) (by unfold vp_in; decide) ⟨n17224, by omega, rfl⟩ (fun _ _ _ h => h) (fun _ _ _ h => h) (fun σ17225 h17226 g17227 f17228 g17229 => ?_)
  have ga17230 := ga17220.of (g17227 _ (by omega))
  refine m_aload_n F rfl e_X10_takeText_143 ?_
  refine r_getC F e_X10_takeText_144 fl_X10_49 h17226 ((fld_eq (g17227 _ (by omega))).trans ((fld_eq (g17217 _ (by omega))).trans ((fld_eq (g17208 _ (by omega))).trans ((fld_eq (g17199 _ (by omega))).trans ((fld_eq (g17190 _ (by omega))).trans ((fld_eq (g17179 _ (by omega))).trans ((fld_eq (g17169 _ (by omega))).trans ((fld_eq (g17158 _ (by omega))).trans ((fld_eq (g17149 _ (by omega))).trans ((fld_eq (g17140 _ (by omega))).trans ((fld_eq (g17130 _ (by omega))).trans ((fld_eq (g17120 _ (by omega))).trans ((fld_eq (g17111 _ (by omega))).trans ((fld_eq (g17102 _ (by omega))).trans ((fld_eq (g17093 _ (by omega))).trans ((fld_eq (g17082 _ (by omega))).trans ((fld_eq (g17072 _ (by omega))).trans ((fld_eq (g17061 _ (by omega))).trans ((fld_eq (g17052 _ (by omega))).trans ((fld_eq (g17042 _ (by omega))).trans f17035)))))))))))))))))))) ?_
  refine m_iload_n F rfl e_X10_takeText_147 ?_
  refine m_aload_n F rfl e_X10_takeText_148 ?_
  refine r_getC F e_X10_takeText_149 fl_X10_49 h17226 ((fld_eq (g17227 _ (by omega))).trans ((fld_eq (g17217 _ (by omega))).trans ((fld_eq (g17208 _ (by omega))).trans ((fld_eq (g17199 _ (by omega))).trans ((fld_eq (g17190 _ (by omega))).trans ((fld_eq (g17179 _ (by omega))).trans ((fld_eq (g17169 _ (by omega))).trans ((fld_eq (g17158 _ (by omega))).trans ((fld_eq (g17149 _ (by omega))).trans ((fld_eq (g17140 _ (by omega))).trans ((fld_eq (g17130 _ (by omega))).trans ((fld_eq (g17120 _ (by omega))).trans ((fld_eq (g17111 _ (by omega))).trans ((fld_eq (g17102 _ (by omega))).trans ((fld_eq (g17093 _ (by omega))).trans ((fld_eq (g17082 _ (by omega))).trans ((fld_eq (g17072 _ (by omega))).trans ((fld_eq (g17061 _ (by omega))).trans ((fld_eq (g17052 _ (by omega))).trans ((fld_eq (g17042 _ (by omega))).trans f17035)))))))))))))))))))) ?_
  refine m_iconst F (v := 4) (by decide) e_X10_takeText_152 ?_
  refine m_iload_n F rfl e_X10_takeText_153 ?_
  refine m_iadd F e_X10_takeText_154 ?_
  refine Wm.topE (w := 6) (by decide) ?_
  refine r_iald F (len := 8) (j := 6) e_X10_takeText_155 h17226 (fun _ h => h) (by decide) (by decide) (by unfold vp_in; decide) (fun x17231 h17232 f17233 => ?_)
  obtain ⟨n17234, hn17234, rfl⟩ := h17232
  refine r_iast F (g' := (⟨T, Z, u, h, P17183, L⟩ : RG)) (len := 8) (j := 2) e_X10_takeText_156 h17226 (fun _ h => h) (fun f h => ⟨f, rfl, h⟩) (by decide) (by decide) (by decide) (by unfold vp_in; decide) ⟨n17234, by omega, rfl⟩ (fun _ _ _ h => h) (fun _ _ _ h => h) (fun σ17235 h17236 g17237 f17238 g17239 => ?_)
  have ga17240 := ga17230.of (g17237 _ (by omega))
  refine m_aload_n F rfl e_X10_takeText_157 ?_
  refine r_getC F e_X10_takeText_158 fl_X10_52 h17236 ((fld_eq (g17237 _ (by omega))).trans ((fld_eq (g17227 _ (by omega))).trans ((fld_eq (g17217 _ (by omega))).trans ((fld_eq (g17208 _ (by omega))).trans ((fld_eq (g17199 _ (by omega))).trans ((fld_eq (g17190 _ (by omega))).trans ((fld_eq (g17179 _ (by omega))).trans ((fld_eq (g17169 _ (by omega))).trans ((fld_eq (g17158 _ (by omega))).trans ((fld_eq (g17149 _ (by omega))).trans ((fld_eq (g17140 _ (by omega))).trans ((fld_eq (g17130 _ (by omega))).trans ((fld_eq (g17120 _ (by omega))).trans ((fld_eq (g17111 _ (by omega))).trans ((fld_eq (g17102 _ (by omega))).trans ((fld_eq (g17093 _ (by omega))).trans ((fld_eq (g17082 _ (by omega))).trans ((fld_eq (g17072 _ (by omega))).trans ((fld_eq (g17061 _ (by omega))).trans ((fld_eq (g17052 _ (by omega))).trans f17046)))))))))))))))))))) ?_
  refine m_iload_n F rfl e_X10_takeText_161 ?_
  refine m_aload_n F rfl e_X10_takeText_162 ?_
  refine r_getC F e_X10_takeText_163 fl_X10_52 h17236 ((fld_eq (g17237 _ (by omega))).trans ((fld_eq (g17227 _ (by omega))).trans ((fld_eq (g17217 _ (by omega))).trans ((fld_eq (g17208 _ (by omega))).trans ((fld_eq (g17199 _ (by omega))).trans ((fld_eq (g17190 _ (by omega))).trans ((fld_eq (g17179 _ (by omega))).trans ((fld_eq (g17169 _ (by omega))).trans ((fld_eq (g17158 _ (by omega))).trans ((fld_eq (g17149 _ (by omega))).trans ((fld_eq (g17140 _ (by omega))).trans ((fld_eq (g17130 _ (by omega))).trans ((fld_eq (g17120 _ (by omega))).trans ((fld_eq (g17111 _ (by omega))).trans ((fld_eq (g17102 _ (by omega))).trans ((fld_eq (g17093 _ (by omega))).trans ((fld_eq (g17082 _ (by omega))).trans ((fld_eq (g17072 _ (by omega))).trans ((fld_eq (g17061 _ (by omega))).trans ((fld_eq (g17052 _ (by omega))).trans f17046)))))))))))))))))))) ?_
  refine m_iconst F (v := 4) (by decide) e_X10_takeText_166 ?_
  refine m_iload_n F rfl e_X10_takeText_167 ?_
  refine m_iadd F e_X10_takeText_168 ?_
  refine Wm.topE (w := 6) (by decide) ?_
  refine r_iald F (len := 8) (j := 6) e_X10_takeText_169 h17236 (fun _ h => h) (by decide) (by decide) (by unfold vp_in; decide) (fun x17241 h17242 f17243 => ?_)
  refine r_iast F (g' := (⟨T, Z, u, h, P17183, L⟩ : RG)) (len := 8) (j := 2) e_X10_takeText_170 h17236 (fun _ h => h) (fun f h => ⟨f, rfl, h⟩) (by decide) (by decide) (by decide) (by unfold vp_in; decide) trivial (fun _ _ _ h => h) (fun _ _ _ h => h) (fun σ17244 h17245 g17246 f17247 g17248 => ?_)
  have ga17249 := ga17240.of (g17246 _ (by omega))
  refine m_iinc F (v := 3) (lv' := [(1, .int 3), (0, .ref c)]) e_X10_takeText_171 rfl (by decide) (by decide) rfl ?_
  refine m_goto F e_X10_takeText_174 ?_
  refine m_iload_n F rfl e_X10_takeText_26 ?_
  refine m_iconst F (v := 4) (by decide) e_X10_takeText_27 ?_
  refine m_icmp_ge F e_X10_takeText_28 (fun q => absurd q (by decide)) (fun _ => ?_)
  refine m_aload_n F rfl e_X10_takeText_31 ?_
  refine r_getC F e_X10_takeText_32 fl_X10_16 h17245 ((fld_eq (g17246 _ (by omega))).trans ((fld_eq (g17237 _ (by omega))).trans ((fld_eq (g17227 _ (by omega))).trans ((fld_eq (g17217 _ (by omega))).trans ((fld_eq (g17208 _ (by omega))).trans ((fld_eq (g17199 _ (by omega))).trans ((fld_eq (g17190 _ (by omega))).trans ((fld_eq (g17179 _ (by omega))).trans ((fld_eq (g17169 _ (by omega))).trans ((fld_eq (g17158 _ (by omega))).trans ((fld_eq (g17149 _ (by omega))).trans ((fld_eq (g17140 _ (by omega))).trans ((fld_eq (g17130 _ (by omega))).trans ((fld_eq (g17120 _ (by omega))).trans ((fld_eq (g17111 _ (by omega))).trans ((fld_eq (g17102 _ (by omega))).trans ((fld_eq (g17093 _ (by omega))).trans ((fld_eq (g17082 _ (by omega))).trans ((fld_eq (g17072 _ (by omega))).trans ((fld_eq (g17061 _ (by omega))).trans ((fld_eq (g17052 _ (by omega))).trans ((fld_eq (g17042 _ (by omega))).trans ((fld_eq (g17031 _ (by omega))).trans ((fld_eq (g17020 _ (by omega))).trans ((fld_eq (g17010 _ (by omega))).trans ((fld_eq (g17000 _ (by omega))).trans ((fld_eq (g16990 _ (by omega))).trans ((fld_eq (g16978 _ (by omega))).trans ((fld_eq (g16967 _ (by omega))).trans ((fld_eq (g16955 _ (by omega))).trans f16949)))))))))))))))))))))))))))))) ?_
  refine m_iload_n F rfl e_X10_takeText_35 ?_
  refine m_aload_n F rfl e_X10_takeText_36 ?_
  refine r_getC F e_X10_takeText_37 fl_X10_16 h17245 ((fld_eq (g17246 _ (by omega))).trans ((fld_eq (g17237 _ (by omega))).trans ((fld_eq (g17227 _ (by omega))).trans ((fld_eq (g17217 _ (by omega))).trans ((fld_eq (g17208 _ (by omega))).trans ((fld_eq (g17199 _ (by omega))).trans ((fld_eq (g17190 _ (by omega))).trans ((fld_eq (g17179 _ (by omega))).trans ((fld_eq (g17169 _ (by omega))).trans ((fld_eq (g17158 _ (by omega))).trans ((fld_eq (g17149 _ (by omega))).trans ((fld_eq (g17140 _ (by omega))).trans ((fld_eq (g17130 _ (by omega))).trans ((fld_eq (g17120 _ (by omega))).trans ((fld_eq (g17111 _ (by omega))).trans ((fld_eq (g17102 _ (by omega))).trans ((fld_eq (g17093 _ (by omega))).trans ((fld_eq (g17082 _ (by omega))).trans ((fld_eq (g17072 _ (by omega))).trans ((fld_eq (g17061 _ (by omega))).trans ((fld_eq (g17052 _ (by omega))).trans ((fld_eq (g17042 _ (by omega))).trans ((fld_eq (g17031 _ (by omega))).trans ((fld_eq (g17020 _ (by omega))).trans ((fld_eq (g17010 _ (by omega))).trans ((fld_eq (g17000 _ (by omega))).trans ((fld_eq (g16990 _ (by omega))).trans ((fld_eq (g16978 _ (by omega))).trans ((fld_eq (g16967 _ (by omega))).trans ((fld_eq (g16955 _ (by omega))).trans f16949)))))))))))))))))))))))))))))) ?_
  refine m_iconst F (v := 4) (by decide) e_X10_takeText_40 ?_
  refine m_iload_n F rfl e_X10_takeText_41 ?_
  refine m_iadd F e_X10_takeText_42 ?_
  refine Wm.topE (w := 7) (by decide) ?_
  refine r_iald F (len := 8) (j := 7) e_X10_takeText_43 h17245 (fun _ h => h) (by decide) (by decide) (by unfold vp_in; decide) (fun x17250 h17251 f17252 => ?_)
  have hv3 : 3 < nl → x17250 = nI (nm 3) := fun h9 => Option.some.inj ((f17252).symm.trans (ga17249 3 h9).2)
  obtain ⟨nb17258, enb17258⟩ := nI_ex x17250
  refine r_iast F (g' := (⟨T, Z, u, h, (mkP P17183.n0 P17183.n2 P17183.n5 P17183.n7 P17183.m0 P17183.m5 P17183.w2 P17183.w7 P17183.kk P17183.a P17183.b0 P17183.b1 P17183.b2 nb17258), L⟩ : RG)) (len := 8) (j := 3) e_X10_takeText_44 h17245 (fun _ h => h) (fun f h => ⟨f, rfl, h⟩) (by decide) (by decide) (by decide) (by unfold vp_in; decide) (fun _ => enb17258) (fun i hi y hy h4 => (hy h4).trans (congrArg nI (bselN3 hi h4))) (CR.chg (by intro k hk i x h; unfold EI at h ⊢; split at h <;> first | exact h | exact absurd rfl hk | trivial) rfl rfl) (fun σ17253 h17254 g17255 f17256 g17257 => ?_)
  obtain ⟨P17259, eP17259⟩ : ∃ P9, P9 = (mkP P17183.n0 P17183.n2 P17183.n5 P17183.n7 P17183.m0 P17183.m5 P17183.w2 P17183.w7 P17183.kk P17183.a P17183.b0 P17183.b1 P17183.b2 nb17258) := ⟨_, rfl⟩
  rw [← eP17259] at h17254
  have fP17259 : P17259.n0 = P17183.n0 ∧ P17259.n2 = P17183.n2 ∧ P17259.n5 = P17183.n5 ∧ P17259.n7 = P17183.n7 ∧ P17259.m0 = P17183.m0 ∧ P17259.m5 = P17183.m5 ∧ P17259.w2 = P17183.w2 ∧ P17259.w7 = P17183.w7 ∧ P17259.kk = P17183.kk ∧ P17259.a = P17183.a ∧ P17259.b0 = P17183.b0 ∧ P17259.b1 = P17183.b1 ∧ P17259.b2 = P17183.b2 ∧ P17259.b3 = nb17258 := by rw [eP17259]; exact ⟨rfl, rfl, rfl, rfl, rfl, rfl, rfl, rfl, rfl, rfl, rfl, rfl, rfl, rfl⟩
  have ga17260 := MR.st (l := 3) ga17249 (by decide) g17257
  refine m_aload_n F rfl e_X10_takeText_45 ?_
  refine r_getC F e_X10_takeText_46 fl_X10_19 h17254 ((fld_eq (g17255 _ (by omega))).trans ((fld_eq (g17246 _ (by omega))).trans ((fld_eq (g17237 _ (by omega))).trans ((fld_eq (g17227 _ (by omega))).trans ((fld_eq (g17217 _ (by omega))).trans ((fld_eq (g17208 _ (by omega))).trans ((fld_eq (g17199 _ (by omega))).trans ((fld_eq (g17190 _ (by omega))).trans ((fld_eq (g17179 _ (by omega))).trans ((fld_eq (g17169 _ (by omega))).trans ((fld_eq (g17158 _ (by omega))).trans ((fld_eq (g17149 _ (by omega))).trans ((fld_eq (g17140 _ (by omega))).trans ((fld_eq (g17130 _ (by omega))).trans ((fld_eq (g17120 _ (by omega))).trans ((fld_eq (g17111 _ (by omega))).trans ((fld_eq (g17102 _ (by omega))).trans ((fld_eq (g17093 _ (by omega))).trans ((fld_eq (g17082 _ (by omega))).trans ((fld_eq (g17072 _ (by omega))).trans ((fld_eq (g17061 _ (by omega))).trans ((fld_eq (g17052 _ (by omega))).trans ((fld_eq (g17042 _ (by omega))).trans ((fld_eq (g17031 _ (by omega))).trans ((fld_eq (g17020 _ (by omega))).trans ((fld_eq (g17010 _ (by omega))).trans ((fld_eq (g17000 _ (by omega))).trans ((fld_eq (g16990 _ (by omega))).trans ((fld_eq (g16978 _ (by omega))).trans ((fld_eq (g16967 _ (by omega))).trans f16961)))))))))))))))))))))))))))))) ?_
  refine m_iload_n F rfl e_X10_takeText_49 ?_
  refine m_aload_n F rfl e_X10_takeText_50 ?_
  refine r_getC F e_X10_takeText_51 fl_X10_19 h17254 ((fld_eq (g17255 _ (by omega))).trans ((fld_eq (g17246 _ (by omega))).trans ((fld_eq (g17237 _ (by omega))).trans ((fld_eq (g17227 _ (by omega))).trans ((fld_eq (g17217 _ (by omega))).trans ((fld_eq (g17208 _ (by omega))).trans ((fld_eq (g17199 _ (by omega))).trans ((fld_eq (g17190 _ (by omega))).trans ((fld_eq (g17179 _ (by omega))).trans ((fld_eq (g17169 _ (by omega))).trans ((fld_eq (g17158 _ (by omega))).trans ((fld_eq (g17149 _ (by omega))).trans ((fld_eq (g17140 _ (by omega))).trans ((fld_eq (g17130 _ (by omega))).trans ((fld_eq (g17120 _ (by omega))).trans ((fld_eq (g17111 _ (by omega))).trans ((fld_eq (g17102 _ (by omega))).trans ((fld_eq (g17093 _ (by omega))).trans ((fld_eq (g17082 _ (by omega))).trans ((fld_eq (g17072 _ (by omega))).trans ((fld_eq (g17061 _ (by omega))).trans ((fld_eq (g17052 _ (by omega))).trans ((fld_eq (g17042 _ (by omega))).trans ((fld_eq (g17031 _ (by omega))).trans ((fld_eq (g17020 _ (by omega))).trans ((fld_eq (g17010 _ (by omega))).trans ((fld_eq (g17000 _ (by omega))).trans ((fld_eq (g16990 _ (by omega))).trans ((fld_eq (g16978 _ (by omega))).trans ((fld_eq (g16967 _ (by omega))).trans f16961)))))))))))))))))))))))))))))) ?_
  refine m_iconst F (v := 4) (by decide) e_X10_takeText_54 ?_
  refine m_iload_n F rfl e_X10_takeText_55 ?_
  refine m_iadd F e_X10_takeText_56 ?_
  refine Wm.topE (w := 7) (by decide) ?_
  refine r_iald F (len := 8) (j := 7) e_X10_takeText_57 h17254 (fun _ h => h) (by decide) (by decide) (by unfold vp_in; decide) (fun x17261 h17262 f17263 => ?_)
  refine r_iast F (g' := (⟨T, Z, u, h, P17259, L⟩ : RG)) (len := 8) (j := 3) e_X10_takeText_58 h17254 (fun _ h => h) (fun f h => ⟨f, rfl, h⟩) (by decide) (by decide) (by decide) (by unfold vp_in; decide) trivial (fun _ _ _ h => h) (fun _ _ _ h => h) (fun σ17264 h17265 g17266 f17267 g17268 => ?_)
  have ga17269 := ga17260.of (g17266 _ (by omega))
  refine m_aload_n F rfl e_X10_takeText_59 ?_
  refine r_getC F e_X10_takeText_60 fl_X10_22 h17265 ((fld_eq (g17266 _ (by omega))).trans ((fld_eq (g17255 _ (by omega))).trans ((fld_eq (g17246 _ (by omega))).trans ((fld_eq (g17237 _ (by omega))).trans ((fld_eq (g17227 _ (by omega))).trans ((fld_eq (g17217 _ (by omega))).trans ((fld_eq (g17208 _ (by omega))).trans ((fld_eq (g17199 _ (by omega))).trans ((fld_eq (g17190 _ (by omega))).trans ((fld_eq (g17179 _ (by omega))).trans ((fld_eq (g17169 _ (by omega))).trans ((fld_eq (g17158 _ (by omega))).trans ((fld_eq (g17149 _ (by omega))).trans ((fld_eq (g17140 _ (by omega))).trans ((fld_eq (g17130 _ (by omega))).trans ((fld_eq (g17120 _ (by omega))).trans ((fld_eq (g17111 _ (by omega))).trans ((fld_eq (g17102 _ (by omega))).trans ((fld_eq (g17093 _ (by omega))).trans ((fld_eq (g17082 _ (by omega))).trans ((fld_eq (g17072 _ (by omega))).trans ((fld_eq (g17061 _ (by omega))).trans ((fld_eq (g17052 _ (by omega))).trans ((fld_eq (g17042 _ (by omega))).trans ((fld_eq (g17031 _ (by omega))).trans ((fld_eq (g17020 _ (by omega))).trans ((fld_eq (g17010 _ (by omega))).trans ((fld_eq (g17000 _ (by omega))).trans ((fld_eq (g16990 _ (by omega))).trans ((fld_eq (g16978 _ (by omega))).trans f16971)))))))))))))))))))))))))))))) ?_
  refine m_iload_n F rfl e_X10_takeText_63 ?_
  refine m_aload_n F rfl e_X10_takeText_64 ?_
  refine r_getC F e_X10_takeText_65 fl_X10_22 h17265 ((fld_eq (g17266 _ (by omega))).trans ((fld_eq (g17255 _ (by omega))).trans ((fld_eq (g17246 _ (by omega))).trans ((fld_eq (g17237 _ (by omega))).trans ((fld_eq (g17227 _ (by omega))).trans ((fld_eq (g17217 _ (by omega))).trans ((fld_eq (g17208 _ (by omega))).trans ((fld_eq (g17199 _ (by omega))).trans ((fld_eq (g17190 _ (by omega))).trans ((fld_eq (g17179 _ (by omega))).trans ((fld_eq (g17169 _ (by omega))).trans ((fld_eq (g17158 _ (by omega))).trans ((fld_eq (g17149 _ (by omega))).trans ((fld_eq (g17140 _ (by omega))).trans ((fld_eq (g17130 _ (by omega))).trans ((fld_eq (g17120 _ (by omega))).trans ((fld_eq (g17111 _ (by omega))).trans ((fld_eq (g17102 _ (by omega))).trans ((fld_eq (g17093 _ (by omega))).trans ((fld_eq (g17082 _ (by omega))).trans ((fld_eq (g17072 _ (by omega))).trans ((fld_eq (g17061 _ (by omega))).trans ((fld_eq (g17052 _ (by omega))).trans ((fld_eq (g17042 _ (by omega))).trans ((fld_eq (g17031 _ (by omega))).trans ((fld_eq (g17020 _ (by omega))).trans ((fld_eq (g17010 _ (by omega))).trans ((fld_eq (g17000 _ (by omega))).trans ((fld_eq (g16990 _ (by omega))).trans ((fld_eq (g16978 _ (by omega))).trans f16971)))))))))))))))))))))))))))))) ?_
  refine m_iconst F (v := 4) (by decide) e_X10_takeText_68 ?_
  refine m_iload_n F rfl e_X10_takeText_69 ?_
  refine m_iadd F e_X10_takeText_70 ?_
  refine Wm.topE (w := 7) (by decide) ?_
  refine r_iald F (len := 8) (j := 7) e_X10_takeText_71 h17265 (fun _ h => h) (by decide) (by decide) (by unfold vp_in; decide) (fun x17270 h17271 f17272 => ?_)
  obtain ⟨n17273, hn17273, rfl, pn17273, rn17273⟩ := h17271
  refine r_iast F (g' := (⟨T, Z, u, h, (mkP P17259.n0 P17259.n2 P17259.n5 P17259.n7 (min 4 P17259.m5) P17259.m5 P17259.w2 P17259.w7 P17259.kk P17259.a P17259.b0 P17259.b1 P17259.b2 P17259.b3), L⟩ : RG)) (len := 8) (j := 3) e_X10_takeText_72 h17265 (fun _ h => h) (fun f h => ⟨f, rfl, h⟩) (by decide) (by decide) (by decide) (by unfold vp_in; decide) ⟨n17273, by omega, rfl, fun _ h8 => rn17273 (by omega) (show 7 < 4 + P17259.m5 by have h6 : 3 < min 4 P17259.m5 := h8; omega), fun h7 _ => absurd h7 (by omega)⟩ (fun i hi y hy => by obtain ⟨n9, a9, b9, c9, d9⟩ := hy; exact ⟨n9, a9, b9, fun h7 h8 => c9 h7 (show i < P17259.m0 by have h6 : i < min 4 P17259.m5 := h8; omega), d9⟩) (CR.chg (by intro k hk i x h; unfold EI at h ⊢; split at h <;> first | exact h | exact absurd rfl hk | trivial) rfl rfl) (fun σ17274 h17275 g17276 f17277 g17278 => ?_)
  have ga17279 := ga17269.of (g17276 _ (by omega))
  obtain ⟨P17280, eP17280⟩ : ∃ P9, P9 = (mkP P17259.n0 P17259.n2 P17259.n5 P17259.n7 (min 4 P17259.m5) P17259.m5 P17259.w2 P17259.w7 P17259.kk P17259.a P17259.b0 P17259.b1 P17259.b2 P17259.b3) := ⟨_, rfl⟩
  rw [← eP17280] at h17275
  have fP17280 : P17280.n0 = P17259.n0 ∧ P17280.n2 = P17259.n2 ∧ P17280.n5 = P17259.n5 ∧ P17280.n7 = P17259.n7 ∧ P17280.m0 = min 4 P17259.m5 ∧ P17280.m5 = P17259.m5 ∧ P17280.w2 = P17259.w2 ∧ P17280.w7 = P17259.w7 ∧ P17280.kk = P17259.kk ∧ P17280.a = P17259.a ∧ P17280.b0 = P17259.b0 ∧ P17280.b1 = P17259.b1 ∧ P17280.b2 = P17259.b2 ∧ P17280.b3 = P17259.b3 := by rw [eP17280]; exact ⟨rfl, rfl, rfl, rfl, rfl, rfl, rfl, rfl, rfl, rfl, rfl, rfl, rfl, rfl⟩
  refine m_aload_n F rfl e_X10_takeText_73 ?_
  refine r_getC F e_X10_takeText_74 fl_X10_25 h17275 ((fld_eq (g17276 _ (by omega))).trans ((fld_eq (g17266 _ (by omega))).trans ((fld_eq (g17255 _ (by omega))).trans ((fld_eq (g17246 _ (by omega))).trans ((fld_eq (g17237 _ (by omega))).trans ((fld_eq (g17227 _ (by omega))).trans ((fld_eq (g17217 _ (by omega))).trans ((fld_eq (g17208 _ (by omega))).trans ((fld_eq (g17199 _ (by omega))).trans ((fld_eq (g17190 _ (by omega))).trans ((fld_eq (g17179 _ (by omega))).trans ((fld_eq (g17169 _ (by omega))).trans ((fld_eq (g17158 _ (by omega))).trans ((fld_eq (g17149 _ (by omega))).trans ((fld_eq (g17140 _ (by omega))).trans ((fld_eq (g17130 _ (by omega))).trans ((fld_eq (g17120 _ (by omega))).trans ((fld_eq (g17111 _ (by omega))).trans ((fld_eq (g17102 _ (by omega))).trans ((fld_eq (g17093 _ (by omega))).trans ((fld_eq (g17082 _ (by omega))).trans ((fld_eq (g17072 _ (by omega))).trans ((fld_eq (g17061 _ (by omega))).trans ((fld_eq (g17052 _ (by omega))).trans ((fld_eq (g17042 _ (by omega))).trans ((fld_eq (g17031 _ (by omega))).trans ((fld_eq (g17020 _ (by omega))).trans ((fld_eq (g17010 _ (by omega))).trans ((fld_eq (g17000 _ (by omega))).trans ((fld_eq (g16990 _ (by omega))).trans f16983)))))))))))))))))))))))))))))) ?_
  refine m_iload_n F rfl e_X10_takeText_77 ?_
  refine m_aload_n F rfl e_X10_takeText_78 ?_
  refine r_getC F e_X10_takeText_79 fl_X10_25 h17275 ((fld_eq (g17276 _ (by omega))).trans ((fld_eq (g17266 _ (by omega))).trans ((fld_eq (g17255 _ (by omega))).trans ((fld_eq (g17246 _ (by omega))).trans ((fld_eq (g17237 _ (by omega))).trans ((fld_eq (g17227 _ (by omega))).trans ((fld_eq (g17217 _ (by omega))).trans ((fld_eq (g17208 _ (by omega))).trans ((fld_eq (g17199 _ (by omega))).trans ((fld_eq (g17190 _ (by omega))).trans ((fld_eq (g17179 _ (by omega))).trans ((fld_eq (g17169 _ (by omega))).trans ((fld_eq (g17158 _ (by omega))).trans ((fld_eq (g17149 _ (by omega))).trans ((fld_eq (g17140 _ (by omega))).trans ((fld_eq (g17130 _ (by omega))).trans ((fld_eq (g17120 _ (by omega))).trans ((fld_eq (g17111 _ (by omega))).trans ((fld_eq (g17102 _ (by omega))).trans ((fld_eq (g17093 _ (by omega))).trans ((fld_eq (g17082 _ (by omega))).trans ((fld_eq (g17072 _ (by omega))).trans ((fld_eq (g17061 _ (by omega))).trans ((fld_eq (g17052 _ (by omega))).trans ((fld_eq (g17042 _ (by omega))).trans ((fld_eq (g17031 _ (by omega))).trans ((fld_eq (g17020 _ (by omega))).trans ((fld_eq (g17010 _ (by omega))).trans ((fld_eq (g17000 _ (by omega))).trans ((fld_eq (g16990 _ (by omega))).trans f16983)))))))))))))))))))))))))))))) ?_
  refine m_iconst F (v := 4) (by decide) e_X10_takeText_82 ?_
  refine m_iload_n F rfl e_X10_takeText_83 ?_
  refine m_iadd F e_X10_takeText_84 ?_
  refine Wm.topE (w := 7) (by decide) ?_
  refine r_iald F (len := 8) (j := 7) e_X10_takeText_85 h17275 (fun _ h => h) (by decide) (by decide) (by unfold vp_in; decide) (fun x17281 h17282 f17283 => ?_)
  obtain ⟨n17284, hn17284, rfl⟩ := h17282
  refine r_iast F (g' := (⟨T, Z, u, h, P17280, L⟩ : RG)) (len := 8) (j := 3) e_X10_takeText_86 h17275 (fun _ h => h) (fun f h => ⟨f, rfl, h⟩) (by decide) (by decide) (by decide) (by unfold vp_in; decide) ⟨n17284, by omega, rfl⟩ (fun _ _ _ h => h) (fun _ _ _ h => h) (fun σ17285 h17286 g17287 f17288 g17289 => ?_)
  have ga17290 := ga17279.of (g17287 _ (by omega))
  refine m_aload_n F rfl e_X10_takeText_87 ?_
  refine r_getC F e_X10_takeText_88 fl_X10_28 h17286 ((fld_eq (g17287 _ (by omega))).trans ((fld_eq (g17276 _ (by omega))).trans ((fld_eq (g17266 _ (by omega))).trans ((fld_eq (g17255 _ (by omega))).trans ((fld_eq (g17246 _ (by omega))).trans ((fld_eq (g17237 _ (by omega))).trans ((fld_eq (g17227 _ (by omega))).trans ((fld_eq (g17217 _ (by omega))).trans ((fld_eq (g17208 _ (by omega))).trans ((fld_eq (g17199 _ (by omega))).trans ((fld_eq (g17190 _ (by omega))).trans ((fld_eq (g17179 _ (by omega))).trans ((fld_eq (g17169 _ (by omega))).trans ((fld_eq (g17158 _ (by omega))).trans ((fld_eq (g17149 _ (by omega))).trans ((fld_eq (g17140 _ (by omega))).trans ((fld_eq (g17130 _ (by omega))).trans ((fld_eq (g17120 _ (by omega))).trans ((fld_eq (g17111 _ (by omega))).trans ((fld_eq (g17102 _ (by omega))).trans ((fld_eq (g17093 _ (by omega))).trans ((fld_eq (g17082 _ (by omega))).trans ((fld_eq (g17072 _ (by omega))).trans ((fld_eq (g17061 _ (by omega))).trans ((fld_eq (g17052 _ (by omega))).trans ((fld_eq (g17042 _ (by omega))).trans ((fld_eq (g17031 _ (by omega))).trans ((fld_eq (g17020 _ (by omega))).trans ((fld_eq (g17010 _ (by omega))).trans ((fld_eq (g17000 _ (by omega))).trans f16994)))))))))))))))))))))))))))))) ?_
  refine m_iload_n F rfl e_X10_takeText_91 ?_
  refine m_aload_n F rfl e_X10_takeText_92 ?_
  refine r_getC F e_X10_takeText_93 fl_X10_28 h17286 ((fld_eq (g17287 _ (by omega))).trans ((fld_eq (g17276 _ (by omega))).trans ((fld_eq (g17266 _ (by omega))).trans ((fld_eq (g17255 _ (by omega))).trans ((fld_eq (g17246 _ (by omega))).trans ((fld_eq (g17237 _ (by omega))).trans ((fld_eq (g17227 _ (by omega))).trans ((fld_eq (g17217 _ (by omega))).trans ((fld_eq (g17208 _ (by omega))).trans ((fld_eq (g17199 _ (by omega))).trans ((fld_eq (g17190 _ (by omega))).trans ((fld_eq (g17179 _ (by omega))).trans ((fld_eq (g17169 _ (by omega))).trans ((fld_eq (g17158 _ (by omega))).trans ((fld_eq (g17149 _ (by omega))).trans ((fld_eq (g17140 _ (by omega))).trans ((fld_eq (g17130 _ (by omega))).trans ((fld_eq (g17120 _ (by omega))).trans ((fld_eq (g17111 _ (by omega))).trans ((fld_eq (g17102 _ (by omega))).trans ((fld_eq (g17093 _ (by omega))).trans ((fld_eq (g17082 _ (by omega))).trans ((fld_eq (g17072 _ (by omega))).trans ((fld_eq (g17061 _ (by omega))).trans ((fld_eq (g17052 _ (by omega))).trans ((fld_eq (g17042 _ (by omega))).trans ((fld_eq (g17031 _ (by omega))).trans ((fld_eq (g17020 _ (by omega))).trans ((fld_eq (g17010 _ (by omega))).trans ((fld_eq (g17000 _ (by omega))).trans f16994)))))))))))))))))))))))))))))) ?_
  refine m_iconst F (v := 4) (by decide) e_X10_takeText_96 ?_
  refine m_iload_n F rfl e_X10_takeText_97 ?_
  refine m_iadd F e_X10_takeText_98 ?_
  refine Wm.topE (w := 7) (by decide) ?_
  refine r_iald F (len := 8) (j := 7) e_X10_takeText_99 h17286 (fun _ h => h) (by decide) (by decide) (by unfold vp_in; decide) (fun x17291 h17292 f17293 => ?_)
  refine r_iast F (g' := (⟨T, Z, u, h, P17280, L⟩ : RG)) (len := 8) (j := 3) e_X10_takeText_100 h17286 (fun _ h => h) (fun f h => ⟨f, rfl, h⟩) (by decide) (by decide) (by decide) (by unfold vp_in; decide) trivial (fun _ _ _ h => h) (fun _ _ _ h => h) (fun σ17294 h17295 g17296 f17297 g17298 => ?_)
  have ga17299 := ga17290.of (g17296 _ (by omega))
  refine m_aload_n F rfl e_X10_takeText_101 ?_
  refine r_getC F e_X10_takeText_102 fl_X10_31 h17295 ((fld_eq (g17296 _ (by omega))).trans ((fld_eq (g17287 _ (by omega))).trans ((fld_eq (g17276 _ (by omega))).trans ((fld_eq (g17266 _ (by omega))).trans ((fld_eq (g17255 _ (by omega))).trans ((fld_eq (g17246 _ (by omega))).trans ((fld_eq (g17237 _ (by omega))).trans ((fld_eq (g17227 _ (by omega))).trans ((fld_eq (g17217 _ (by omega))).trans ((fld_eq (g17208 _ (by omega))).trans ((fld_eq (g17199 _ (by omega))).trans ((fld_eq (g17190 _ (by omega))).trans ((fld_eq (g17179 _ (by omega))).trans ((fld_eq (g17169 _ (by omega))).trans ((fld_eq (g17158 _ (by omega))).trans ((fld_eq (g17149 _ (by omega))).trans ((fld_eq (g17140 _ (by omega))).trans ((fld_eq (g17130 _ (by omega))).trans ((fld_eq (g17120 _ (by omega))).trans ((fld_eq (g17111 _ (by omega))).trans ((fld_eq (g17102 _ (by omega))).trans ((fld_eq (g17093 _ (by omega))).trans ((fld_eq (g17082 _ (by omega))).trans ((fld_eq (g17072 _ (by omega))).trans ((fld_eq (g17061 _ (by omega))).trans ((fld_eq (g17052 _ (by omega))).trans ((fld_eq (g17042 _ (by omega))).trans ((fld_eq (g17031 _ (by omega))).trans ((fld_eq (g17020 _ (by omega))).trans ((fld_eq (g17010 _ (by omega))).trans f17004)))))))))))))))))))))))))))))) ?_
  refine m_iload_n F rfl e_X10_takeText_105 ?_
  refine m_aload_n F rfl e_X10_takeText_106 ?_
  refine r_getC F e_X10_takeText_107 fl_X10_31 h17295 ((fld_eq (g17296 _ (by omega))).trans ((fld_eq (g17287 _ (by omega))).trans ((fld_eq (g17276 _ (by omega))).trans ((fld_eq (g17266 _ (by omega))).trans ((fld_eq (g17255 _ (by omega))).trans ((fld_eq (g17246 _ (by omega))).trans ((fld_eq (g17237 _ (by omega))).trans ((fld_eq (g17227 _ (by omega))).trans ((fld_eq (g17217 _ (by omega))).trans ((fld_eq (g17208 _ (by omega))).trans ((fld_eq (g17199 _ (by omega))).trans ((fld_eq (g17190 _ (by omega))).trans ((fld_eq (g17179 _ (by omega))).trans ((fld_eq (g17169 _ (by omega))).trans ((fld_eq (g17158 _ (by omega))).trans ((fld_eq (g17149 _ (by omega))).trans ((fld_eq (g17140 _ (by omega))).trans ((fld_eq (g17130 _ (by omega))).trans ((fld_eq (g17120 _ (by omega))).trans ((fld_eq (g17111 _ (by omega))).trans ((fld_eq (g17102 _ (by omega))).trans ((fld_eq (g17093 _ (by omega))).trans ((fld_eq (g17082 _ (by omega))).trans ((fld_eq (g17072 _ (by omega))).trans ((fld_eq (g17061 _ (by omega))).trans ((fld_eq (g17052 _ (by omega))).trans ((fld_eq (g17042 _ (by omega))).trans ((fld_eq (g17031 _ (by omega))).trans ((fld_eq (g17020 _ (by omega))).trans ((fld_eq (g17010 _ (by omega))).trans f17004)))))))))))))))))))))))))))))) ?_
  refine m_iconst F (v := 4) (by decide) e_X10_takeText_110 ?_
  refine m_iload_n F rfl e_X10_takeText_111 ?_
  refine m_iadd F e_X10_takeText_112 ?_
  refine Wm.topE (w := 7) (by decide) ?_
  refine r_iald F (len := 8) (j := 7) e_X10_takeText_113 h17295 (fun _ h => h) (by decide) (by decide) (by unfold vp_in; decide) (fun x17300 h17301 f17302 => ?_)
  refine r_iast F (g' := (⟨T, Z, u, h, P17280, L⟩ : RG)) (len := 8) (j := 3) e_X10_takeText_114 h17295 (fun _ h => h) (fun f h => ⟨f, rfl, h⟩) (by decide) (by decide) (by decide) (by unfold vp_in; decide) trivial (fun _ _ _ h => h) (fun _ _ _ h => h) (fun σ17303 h17304 g17305 f17306 g17307 => ?_)
  have ga17308 := ga17299.of (g17305 _ (by omega))
  refine m_aload_n F rfl e_X10_takeText_115 ?_
  refine r_getC F e_X10_takeText_116 fl_X10_34 h17304 ((fld_eq (g17305 _ (by omega))).trans ((fld_eq (g17296 _ (by omega))).trans ((fld_eq (g17287 _ (by omega))).trans ((fld_eq (g17276 _ (by omega))).trans ((fld_eq (g17266 _ (by omega))).trans ((fld_eq (g17255 _ (by omega))).trans ((fld_eq (g17246 _ (by omega))).trans ((fld_eq (g17237 _ (by omega))).trans ((fld_eq (g17227 _ (by omega))).trans ((fld_eq (g17217 _ (by omega))).trans ((fld_eq (g17208 _ (by omega))).trans ((fld_eq (g17199 _ (by omega))).trans ((fld_eq (g17190 _ (by omega))).trans ((fld_eq (g17179 _ (by omega))).trans ((fld_eq (g17169 _ (by omega))).trans ((fld_eq (g17158 _ (by omega))).trans ((fld_eq (g17149 _ (by omega))).trans ((fld_eq (g17140 _ (by omega))).trans ((fld_eq (g17130 _ (by omega))).trans ((fld_eq (g17120 _ (by omega))).trans ((fld_eq (g17111 _ (by omega))).trans ((fld_eq (g17102 _ (by omega))).trans ((fld_eq (g17093 _ (by omega))).trans ((fld_eq (g17082 _ (by omega))).trans ((fld_eq (g17072 _ (by omega))).trans ((fld_eq (g17061 _ (by omega))).trans ((fld_eq (g17052 _ (by omega))).trans ((fld_eq (g17042 _ (by omega))).trans ((fld_eq (g17031 _ (by omega))).trans ((fld_eq (g17020 _ (by omega))).trans f17014)))))))))))))))))))))))))))))) ?_
  refine m_iload_n F rfl e_X10_takeText_119 ?_
  refine m_aload_n F rfl e_X10_takeText_120 ?_
  refine r_getC F e_X10_takeText_121 fl_X10_34 h17304 ((fld_eq (g17305 _ (by omega))).trans ((fld_eq (g17296 _ (by omega))).trans ((fld_eq (g17287 _ (by omega))).trans ((fld_eq (g17276 _ (by omega))).trans ((fld_eq (g17266 _ (by omega))).trans ((fld_eq (g17255 _ (by omega))).trans ((fld_eq (g17246 _ (by omega))).trans ((fld_eq (g17237 _ (by omega))).trans ((fld_eq (g17227 _ (by omega))).trans ((fld_eq (g17217 _ (by omega))).trans ((fld_eq (g17208 _ (by omega))).trans ((fld_eq (g17199 _ (by omega))).trans ((fld_eq (g17190 _ (by omega))).trans ((fld_eq (g17179 _ (by omega))).trans ((fld_eq (g17169 _ (by omega))).trans ((fld_eq (g17158 _ (by omega))).trans ((fld_eq (g17149 _ (by omega))).trans ((fld_eq (g17140 _ (by omega))).trans ((fld_eq (g17130 _ (by omega))).trans ((fld_eq (g17120 _ (by omega))).trans ((fld_eq (g17111 _ (by omega))).trans ((fld_eq (g17102 _ (by omega))).trans ((fld_eq (g17093 _ (by omega))).trans ((fld_eq (g17082 _ (by omega))).trans ((fld_eq (g17072 _ (by omega))).trans ((fld_eq (g17061 _ (by omega))).trans ((fld_eq (g17052 _ (by omega))).trans ((fld_eq (g17042 _ (by omega))).trans ((fld_eq (g17031 _ (by omega))).trans ((fld_eq (g17020 _ (by omega))).trans f17014)))))))))))))))))))))))))))))) ?_
  refine m_iconst F (v := 4) (by decide) e_X10_takeText_124 ?_
  refine m_iload_n F rfl e_X10_takeText_125 ?_
  refine m_iadd F e_X10_takeText_126 ?_
  refine Wm.topE (w := 7) (by decide) ?_
  refine r_iald F (len := 8) (j := 7) e_X10_takeText_127 h17304 (fun _ h => h) (by decide) (by decide) (by unfold vp_in; decide) (fun x17309 h17310 f17311 => ?_)
  refine r_iast F (g' := (⟨T, Z, u, h, P17280, L⟩ : RG)) (len := 8) (j := 3) e_X10_takeText_128 h17304 (fun _ h => h) (fun f h => ⟨f, rfl, h⟩) (by decide) (by decide) (by decide) (by unfold vp_in; decide) trivial (fun _ _ _ h => h) (fun _ _ _ h => h) (fun σ17312 h17313 g17314 f17315 g17316 => ?_)
  have ga17317 := ga17308.of (g17314 _ (by omega))
  refine m_aload_n F rfl e_X10_takeText_129 ?_
  refine r_getC F e_X10_takeText_130 fl_X10_46 h17313 ((fld_eq (g17314 _ (by omega))).trans ((fld_eq (g17305 _ (by omega))).trans ((fld_eq (g17296 _ (by omega))).trans ((fld_eq (g17287 _ (by omega))).trans ((fld_eq (g17276 _ (by omega))).trans ((fld_eq (g17266 _ (by omega))).trans ((fld_eq (g17255 _ (by omega))).trans ((fld_eq (g17246 _ (by omega))).trans ((fld_eq (g17237 _ (by omega))).trans ((fld_eq (g17227 _ (by omega))).trans ((fld_eq (g17217 _ (by omega))).trans ((fld_eq (g17208 _ (by omega))).trans ((fld_eq (g17199 _ (by omega))).trans ((fld_eq (g17190 _ (by omega))).trans ((fld_eq (g17179 _ (by omega))).trans ((fld_eq (g17169 _ (by omega))).trans ((fld_eq (g17158 _ (by omega))).trans ((fld_eq (g17149 _ (by omega))).trans ((fld_eq (g17140 _ (by omega))).trans ((fld_eq (g17130 _ (by omega))).trans ((fld_eq (g17120 _ (by omega))).trans ((fld_eq (g17111 _ (by omega))).trans ((fld_eq (g17102 _ (by omega))).trans ((fld_eq (g17093 _ (by omega))).trans ((fld_eq (g17082 _ (by omega))).trans ((fld_eq (g17072 _ (by omega))).trans ((fld_eq (g17061 _ (by omega))).trans ((fld_eq (g17052 _ (by omega))).trans ((fld_eq (g17042 _ (by omega))).trans ((fld_eq (g17031 _ (by omega))).trans f17024)))))))))))))))))))))))))))))) ?_
  refine m_iload_n F rfl e_X10_takeText_133 ?_
  refine m_aload_n F rfl e_X10_takeText_134 ?_
  refine r_getC F e_X10_takeText_135 fl_X10_46 h17313 ((fld_eq (g17314 _ (by omega))).trans ((fld_eq (g17305 _ (by omega))).trans ((fld_eq (g17296 _ (by omega))).trans ((fld_eq (g17287 _ (by omega))).trans ((fld_eq (g17276 _ (by omega))).trans ((fld_eq (g17266 _ (by omega))).trans ((fld_eq (g17255 _ (by omega))).trans ((fld_eq (g17246 _ (by omega))).trans ((fld_eq (g17237 _ (by omega))).trans ((fld_eq (g17227 _ (by omega))).trans ((fld_eq (g17217 _ (by omega))).trans ((fld_eq (g17208 _ (by omega))).trans ((fld_eq (g17199 _ (by omega))).trans ((fld_eq (g17190 _ (by omega))).trans ((fld_eq (g17179 _ (by omega))).trans ((fld_eq (g17169 _ (by omega))).trans ((fld_eq (g17158 _ (by omega))).trans ((fld_eq (g17149 _ (by omega))).trans ((fld_eq (g17140 _ (by omega))).trans ((fld_eq (g17130 _ (by omega))).trans ((fld_eq (g17120 _ (by omega))).trans ((fld_eq (g17111 _ (by omega))).trans ((fld_eq (g17102 _ (by omega))).trans ((fld_eq (g17093 _ (by omega))).trans ((fld_eq (g17082 _ (by omega))).trans ((fld_eq (g17072 _ (by omega))).trans ((fld_eq (g17061 _ (by omega))).trans ((fld_eq (g17052 _ (by omega))).trans ((fld_eq (g17042 _ (by omega))).trans ((fld_eq (g17031 _ (by omega))).trans f17024)))))))))))))))))))))))))))))) ?_
  refine m_iconst F (v := 4) (by decide) e_X10_takeText_138 ?_
  refine m_iload_n F rfl e_X10_takeText_139 ?_
  refine m_iadd F e_X10_takeText_140 ?_
  refine Wm.topE (w := 7) (by decide) ?_
  refine r_iald F (len := 8) (j := 7) e_X10_takeText_141 h17313 (fun _ h => h) (by decide) (by decide) (by unfold vp_in; decide) (fun x17318 h17319 f17320 => ?_)
  obtain ⟨n17321, hn17321, rfl⟩ := h17319
  refine r_iast F (g' := (⟨T, Z, u, h, P17280, L⟩ : RG)) (len := 8) (j := 3) e_X10_takeText_142 h17313 (fun _ h => h) (fun f h => ⟨f, rfl, h⟩) (by decide) (by decide) (by decide) (by unfold vp_in; decide) ⟨n17321, by omega, rfl⟩ (fun _ _ _ h => h) (fun _ _ _ h => h) (fun σ17322 h17323 g17324 f17325 g17326 => ?_)
  have ga17327 := ga17317.of (g17324 _ (by omega))
  refine m_aload_n F rfl e_X10_takeText_143 ?_
  refine r_getC F e_X10_takeText_144 fl_X10_49 h17323 ((fld_eq (g17324 _ (by omega))).trans ((fld_eq (g17314 _ (by omega))).trans ((fld_eq (g17305 _ (by omega))).trans ((fld_eq (g17296 _ (by omega))).trans ((fld_eq (g17287 _ (by omega))).trans ((fld_eq (g17276 _ (by omega))).trans ((fld_eq (g17266 _ (by omega))).trans ((fld_eq (g17255 _ (by omega))).trans ((fld_eq (g17246 _ (by omega))).trans ((fld_eq (g17237 _ (by omega))).trans ((fld_eq (g17227 _ (by omega))).trans ((fld_eq (g17217 _ (by omega))).trans ((fld_eq (g17208 _ (by omega))).trans ((fld_eq (g17199 _ (by omega))).trans ((fld_eq (g17190 _ (by omega))).trans ((fld_eq (g17179 _ (by omega))).trans ((fld_eq (g17169 _ (by omega))).trans ((fld_eq (g17158 _ (by omega))).trans ((fld_eq (g17149 _ (by omega))).trans ((fld_eq (g17140 _ (by omega))).trans ((fld_eq (g17130 _ (by omega))).trans ((fld_eq (g17120 _ (by omega))).trans ((fld_eq (g17111 _ (by omega))).trans ((fld_eq (g17102 _ (by omega))).trans ((fld_eq (g17093 _ (by omega))).trans ((fld_eq (g17082 _ (by omega))).trans ((fld_eq (g17072 _ (by omega))).trans ((fld_eq (g17061 _ (by omega))).trans ((fld_eq (g17052 _ (by omega))).trans ((fld_eq (g17042 _ (by omega))).trans f17035)))))))))))))))))))))))))))))) ?_
  refine m_iload_n F rfl e_X10_takeText_147 ?_
  refine m_aload_n F rfl e_X10_takeText_148 ?_
  refine r_getC F e_X10_takeText_149 fl_X10_49 h17323 ((fld_eq (g17324 _ (by omega))).trans ((fld_eq (g17314 _ (by omega))).trans ((fld_eq (g17305 _ (by omega))).trans ((fld_eq (g17296 _ (by omega))).trans ((fld_eq (g17287 _ (by omega))).trans ((fld_eq (g17276 _ (by omega))).trans ((fld_eq (g17266 _ (by omega))).trans ((fld_eq (g17255 _ (by omega))).trans ((fld_eq (g17246 _ (by omega))).trans ((fld_eq (g17237 _ (by omega))).trans ((fld_eq (g17227 _ (by omega))).trans ((fld_eq (g17217 _ (by omega))).trans ((fld_eq (g17208 _ (by omega))).trans ((fld_eq (g17199 _ (by omega))).trans ((fld_eq (g17190 _ (by omega))).trans ((fld_eq (g17179 _ (by omega))).trans ((fld_eq (g17169 _ (by omega))).trans ((fld_eq (g17158 _ (by omega))).trans ((fld_eq (g17149 _ (by omega))).trans ((fld_eq (g17140 _ (by omega))).trans ((fld_eq (g17130 _ (by omega))).trans ((fld_eq (g17120 _ (by omega))).trans ((fld_eq (g17111 _ (by omega))).trans ((fld_eq (g17102 _ (by omega))).trans ((fld_eq (g17093 _ (by omega))).trans ((fld_eq (g17082 _ (by omega))).trans ((fld_eq (g17072 _ (by omega))).trans ((fld_eq (g17061 _ (by omega))).trans ((fld_eq (g17052 _ (by omega))).trans ((fld_eq (g17042 _ (by omega))).trans f17035)))))))))))))))))))))))))))))) ?_
  refine m_iconst F (v := 4) (by decide) e_X10_takeText_152 ?_
  refine m_iload_n F rfl e_X10_takeText_153 ?_
  refine m_iadd F e_X10_takeText_154 ?_
  refine Wm.topE (w := 7) (by decide) ?_
  refine r_iald F (len := 8) (j := 7) e_X10_takeText_155 h17323 (fun _ h => h) (by decide) (by decide) (by unfold vp_in; decide) (fun x17328 h17329 f17330 => ?_)
  obtain ⟨n17331, hn17331, rfl⟩ := h17329
  refine r_iast F (g' := (⟨T, Z, u, h, P17280, L⟩ : RG)) (len := 8) (j := 3) e_X10_takeText_156 h17323 (fun _ h => h) (fun f h => ⟨f, rfl, h⟩) (by decide) (by decide) (by decide) (by unfold vp_in; decide) ⟨n17331, by omega, rfl⟩ (fun _ _ _ h => h) (fun _ _ _ h => h) (fun σ17332 h17333 g17334 f17335 g17336 => ?_)
  have ga17337 := ga17327.of (g17334 _ (by omega))
  refine m_aload_n F rfl e_X10_takeText_157 ?_
  refine r_getC F e_X10_takeText_158 fl_X10_52 h17333 ((fld_eq (g17334 _ (by omega))).trans ((fld_eq (g17324 _ (by omega))).trans ((fld_eq (g17314 _ (by omega))).trans ((fld_eq (g17305 _ (by omega))).trans ((fld_eq (g17296 _ (by omega))).trans ((fld_eq (g17287 _ (by omega))).trans ((fld_eq (g17276 _ (by omega))).trans ((fld_eq (g17266 _ (by omega))).trans ((fld_eq (g17255 _ (by omega))).trans ((fld_eq (g17246 _ (by omega))).trans ((fld_eq (g17237 _ (by omega))).trans ((fld_eq (g17227 _ (by omega))).trans ((fld_eq (g17217 _ (by omega))).trans ((fld_eq (g17208 _ (by omega))).trans ((fld_eq (g17199 _ (by omega))).trans ((fld_eq (g17190 _ (by omega))).trans ((fld_eq (g17179 _ (by omega))).trans ((fld_eq (g17169 _ (by omega))).trans ((fld_eq (g17158 _ (by omega))).trans ((fld_eq (g17149 _ (by omega))).trans ((fld_eq (g17140 _ (by omega))).trans ((fld_eq (g17130 _ (by omega))).trans ((fld_eq (g17120 _ (by omega))).trans ((fld_eq (g17111 _ (by omega))).trans ((fld_eq (g17102 _ (by omega))).trans ((fld_eq (g17093 _ (by omega))).trans ((fld_eq (g17082 _ (by omega))).trans ((fld_eq (g17072 _ (by omega))).trans ((fld_eq (g17061 _ (by omega))).trans ((fld_eq (g17052 _ (by omega))).trans f17046)))))))))))))))))))))))))))))) ?_
  refine m_iload_n F rfl e_X10_takeText_161 ?_
  refine m_aload_n F rfl e_X10_takeText_162 ?_
  refine r_getC F e_X10_takeText_163 fl_X10_52 h17333 ((fld_eq (g17334 _ (by omega))).trans ((fld_eq (g17324 _ (by omega))).trans ((fld_eq (g17314 _ (by omega))).trans ((fld_eq (g17305 _ (by omega))).trans ((fld_eq (g17296 _ (by omega))).trans ((fld_eq (g17287 _ (by omega))).trans ((fld_eq (g17276 _ (by omega))).trans ((fld_eq (g17266 _ (by omega))).trans ((fld_eq (g17255 _ (by omega))).trans ((fld_eq (g17246 _ (by omega))).trans ((fld_eq (g17237 _ (by omega))).trans ((fld_eq (g17227 _ (by omega))).trans ((fld_eq (g17217 _ (by omega))).trans ((fld_eq (g17208 _ (by omega))).trans ((fld_eq (g17199 _ (by omega))).trans ((fld_eq (g17190 _ (by omega))).trans ((fld_eq (g17179 _ (by omega))).trans ((fld_eq (g17169 _ (by omega))).trans ((fld_eq (g17158 _ (by omega))).trans ((fld_eq (g17149 _ (by omega))).trans ((fld_eq (g17140 _ (by omega))).trans ((fld_eq (g17130 _ (by omega))).trans ((fld_eq (g17120 _ (by omega))).trans ((fld_eq (g17111 _ (by omega))).trans ((fld_eq (g17102 _ (by omega))).trans ((fld_eq (g17093 _ (by omega))).trans ((fld_eq (g17082 _ (by omega))).trans ((fld_eq (g17072 _ (by omega))).trans ((fld_eq (g17061 _ (by omega))).trans ((fld_eq (g17052 _ (by omega))).trans f17046)))))))))))))))))))))))))))))) ?_
  refine m_iconst F (v := 4) (by decide) e_X10_takeText_166 ?_
  refine m_iload_n F rfl e_X10_takeText_167 ?_
  refine m_iadd F e_X10_takeText_168 ?_
  refine Wm.topE (w := 7) (by decide) ?_
  refine r_iald F (len := 8) (j := 7) e_X10_takeText_169 h17333 (fun _ h => h) (by decide) (by decide) (by unfold vp_in; decide) (fun x17338 h17339 f17340 => ?_)
  refine r_iast F (g' := (⟨T, Z, u, h, P17280, L⟩ : RG)) (len := 8) (j := 3) e_X10_takeText_170 h17333 (fun _ h => h) (fun f h => ⟨f, rfl, h⟩) (by decide) (by decide) (by decide) (by unfold vp_in; decide) trivial (fun _ _ _ h => h) (fun _ _ _ h => h) (fun σ17341 h17342 g17343 f17344 g17345 => ?_)
  have ga17346 := ga17337.of (g17343 _ (by omega))
  refine m_iinc F (v := 4) (lv' := [(1, .int 4), (0, .ref c)]) e_X10_takeText_171 rfl (by decide) (by decide) rfl ?_
  refine m_goto F e_X10_takeText_174 ?_
  refine m_iload_n F rfl e_X10_takeText_26 ?_
  refine m_iconst F (v := 4) (by decide) e_X10_takeText_27 ?_
  refine m_icmp_ge F e_X10_takeText_28 (fun _ => ?_) (fun q => absurd (by decide) q)
  refine m_iconst F (v := 0) (by decide) e_X10_takeText_177 ?_
  refine m_istore_n F (lv' := [(1, .int 0), (0, .ref c)]) e_X10_takeText_178 (by decide) rfl ?_
  refine Wm.lvsub (lv' := [(0, .ref c), (1, .int 0)]) ?_ [1, 0] rfl
  have oP17347 : OKP P17280 := by unfold OKP; omega
  exact lq_X10_takeTextE_179 F hQ hob hP hp0 hp1 (192 - 0 + 1) 0 P17280 _ h17342 oP17347 (by unfold RT3; omega) ⟨by omega, TB.mk4 hp1 (fun h9 => by rw [show P17280.b0 = nb16958 by omega, ← enb16958]; exact hv0 h9) (fun h9 => by rw [show P17280.b1 = nb17064 by omega, ← enb17064]; exact hv1 h9) (fun h9 => by rw [show P17280.b2 = nb17161 by omega, ← enb17161]; exact hv2 h9) (fun h9 => by rw [show P17280.b3 = nb17258 by omega, ← enb17258]; exact hv3 h9)⟩ (Nat.lt_succ_self _)
set_option maxRecDepth 20000 in
theorem q_X10_textE (l : Launch) (V : VX) (c T Z u h : Nat) (P : NP) (L : Nat → LQ) (N : Nat) (σ : Mem) (x901 : Int32) (t : Nat → Nat) (h0 : HR V c ⟨T, Z, u, h, P, L⟩ σ) (hok : OKL P.n0 L) (hP : OKP P) (hp0 : u ≤ 20) (hp1 : h ≤ 1) (hp2 : P.kk = P.n0) (hp3 : T ≤ 700) (hp4 : P.n0 ≤ P.m0) (hp5 : P.n2 ≤ P.w2) (hp6 : BR σ c T t) : Ct l V yX10_text cX10_text 2 (some .int) 11 0 0 N σ [.ref c, .int x901] (fun r τ => ((x901 < 0 ∨ ∃ n : Nat, n ≤ 2147483647 ∧ x901 = nI n ∧ T < n) ∧ HS V c (⟨T, Z, u, h, P, L⟩ : RG) [0, 2, 18, 19, 20, 21, 23] σ τ ∧ τ (c + 1) = σ (c + 1) ∧ r = some (.int (-2))) ∨ ∃ n : Nat, x901 = nI n ∧ n ≤ T ∧ r = some (.int (ansO (textS (tok t n) 700 (S0 (tok t n)))).1) ∧ ∃ (u9 h9 : Nat) (P9 : NP) (L9 : Nat → LQ), Gd u9 h9 P9 L9 ∧ ((∃ e, (textS (tok t n) 700 (S0 (tok t n))) = .inl e ∧ P9.n0 = P.n0 ∧ P9.b0 = P.b0 ∧ P9.b1 = P.b1 ∧ P9.b2 = P.b2 ∧ P9.b3 = P.b3) ∨ ∃ S : SS, (textS (tok t n) 700 (S0 (tok t n))) = .inr S ∧ P9.n0 = S.2.1 ∧ TB P9 S.2.1 S.2.2.1) ∧ HS V c (⟨0, 1, u9, h9, P9, L9⟩ : RG) [0, 2, 18, 19, 20, 21, 23] σ τ) := by
  refine Ct.of (by decide) (Nat.le_of_ble_eq_true rfl) [(0, .ref c), (1, .int x901)] rfl (fun X hX F hQ => ?_)
  have hPP := hP
  unfold OKP at hPP
  have h1 : HS V c ⟨T, Z, u, h, P, L⟩ [0, 2, 18, 19, 20, 21, 23] σ σ := HS.start h0
  refine m_aload_n F rfl e_X10_text_0 ?_
  refine m_iconst F (v := 0) (by decide) e_X10_text_1 ?_
  refine r_put F (g' := (⟨T, Z, u, h, P, L⟩ : RG)) e_X10_text_2 fp_X10_91 h1 (by decide) ⟨_, rfl⟩ (fun _ _ _ _ q => q) (fun _ _ _ q => q) rfl rfl (by decide) (fun σ17348 h17349 g17350 g17351 f17352 => ?_)
  have ga17353 := hp6.of (g17350 _ (by omega))
  refine m_iload_n F rfl e_X10_text_5 ?_
  refine m_if_lt F e_X10_text_6 (fun q6 => ?_) (fun q6 => ?_)
  · refine m_bipush F (v := (-2)) (by decide) e_X10_text_17 ?_
    exact m_iret F hQ e_X10_text_19 (Or.inl ⟨Or.inl q6, h17349, (by first | rfl | exact g17350 (c + 1) (by omega)), rfl⟩)
  · obtain ⟨n17354, hn17354, rfl⟩ := nI_nn (x := x901) (fun e => q6 (Int32.lt_of_lt_of_le e (by decide)))
    have c6 : n17354 ≥ 0 := by have hh := mt (nI_ltI (a := n17354) (b := 0) (by omega) (by omega)).mpr q6; omega
    refine m_iload_n F rfl e_X10_text_9 ?_
    refine m_aload_n F rfl e_X10_text_10 ?_
    refine r_get F e_X10_text_11 fl_X10_94 h17349 rfl (fun v hv f17355 => ?_)
    obtain rfl : v = .int (nI (T)) := hv
    refine m_icmp_le F e_X10_text_14 (fun q14 => ?_) (fun q14 => ?_)
    · have c14 : n17354 ≤ T := (nI_leI (a := n17354) (b := T) (by omega) (by omega)).mp q14
      refine m_aload_n F rfl e_X10_text_20 ?_
      refine m_iload_n F rfl e_X10_text_21 ?_
      refine r_callV F e_X10_text_22 (q_X10_readTextE (x_l X) V c T Z u h P L _ _ n17354 t h17349.1 (hok.b) hP (by omega) (ga17353.to (m := n17354) (by omega))) cb_X10_readText ml_X10_208 im_X10_readText se_X10_readText h17349 rfl rfl (rest := []) rfl (Nat.le_of_ble_eq_true rfl) ⟨Nat.le_of_ble_eq_true rfl, Nat.le_of_ble_eq_true rfl⟩ ⟨Nat.le_of_ble_eq_true rfl, Nat.le_of_ble_eq_true rfl⟩ (fun r σ17356 hp => ?_)
      obtain ⟨P17359, oP17359, rP17359, pr17360, h17357, hp⟩ := hp
      have h17358 := HS.trans h17349 h17357 (by decide)
      have xP17359 := oP17359
      unfold OKP at xP17359
      unfold RQ at rP17359
      have ga17361 := ga17353.of (h17357.2 (c + 1) (by rw [kC_at (k := 1) (by decide)]; decide))
      obtain rfl := hp
      cases eo17362 : (textS (tok t n17354) 700 (S0 (tok t n17354))) with
      | inl e8 =>
        rw [eo17362] at pr17360
        obtain ⟨⟨g23, g24⟩, c1, c2, c3⟩ := pr17360
        have nz8 : nI e8.1 ≠ 0 := fun e => absurd (nI_inj9 (b := 0) (by omega) (by omega) e) (by omega)
        refine m_aload_n F rfl e_X10_text_25 ?_
        refine m_iconst F (v := 0) (by decide) e_X10_text_26 ?_
        refine r_put F (g' := (⟨0, 1, u, h, P17359, L⟩ : RG)) e_X10_text_27 fp_X10_94 h17358 (by decide) rfl ctl_T CR.ctl rfl rfl (by decide) (fun σ17363 h17364 g17365 g17366 f17367 => ?_)
        refine m_aload_n F rfl e_X10_text_30 ?_
        refine m_aload_n F rfl e_X10_text_31 ?_
        refine r_getC F e_X10_text_32 fl_X10_141 h17364 ((g17366 23 (by decide)).trans g23) ?_
        refine r_put F (g' := (⟨0, 1, u, h, P17359, L⟩ : RG)) e_X10_text_35 fp_X10_211 h17364 (by decide) ⟨_, rfl⟩ (fun _ _ _ _ q => q) (fun _ _ _ q => q) rfl rfl (by decide) (fun σ17368 h17369 g17370 g17371 f17372 => ?_)
        refine m_aload_n F rfl e_X10_text_38 ?_
        refine m_aload_n F rfl e_X10_text_39 ?_
        refine r_getC F e_X10_text_40 fl_X10_141 h17369 ((g17371 23 (by decide)).trans ((g17366 23 (by decide)).trans g23)) ?_
        refine m_if_ne F e_X10_text_43 (fun q43 => ?_) (fun q43 => ?_)
        · have c43 : e8.1 ≠ 0 := by have hh := mt (nI_eq (a := e8.1) (b := 0) (by omega) (by omega)).mpr q43; omega
          refine m_aload_n F rfl e_X10_text_50 ?_
          refine r_getC F e_X10_text_51 fl_X10_144 h17369 ((g17371 24 (by decide)).trans ((g17366 24 (by decide)).trans g24)) ?_
          refine r_put F (g' := (⟨0, 1, u, h, P17359, L⟩ : RG)) e_X10_text_54 fp_X10_55 h17369 (by decide) ⟨_, rfl⟩ (fun _ _ _ _ q => q) (fun _ _ _ q => q) rfl rfl (by decide) (fun σ17373 h17374 g17375 g17376 f17377 => ?_)
          refine m_aload_n F rfl e_X10_text_57 ?_
          refine r_getC F e_X10_text_58 fl_X10_141 h17374 ((g17376 23 (by decide)).trans ((g17371 23 (by decide)).trans ((g17366 23 (by decide)).trans g23))) ?_
          refine m_if_eq F e_X10_text_61 (fun q61 => ?_) (fun q61 => ?_)
          · have c61 : e8.1 = 0 := (nI_eq (a := e8.1) (b := 0) (by omega) (by omega)).mp q61
            exact absurd q61 nz8
          · have c61 : e8.1 ≠ 0 := by have hh := mt (nI_eq (a := e8.1) (b := 0) (by omega) (by omega)).mpr q61; omega
            refine m_iconst F (v := (-1)) (by decide) e_X10_text_64 ?_
            have h17378 : HS V c (⟨0, 1, u, h, P17359, L⟩ : RG) [0, 2, 18, 19, 20, 21, 23] _ _ := ⟨HR.mono (Z' := 1) (fun e => absurd e (by decide)) h17374.1, h17374.2⟩
            exact m_iret F hQ e_X10_text_65 (Or.inr ⟨n17354, rfl, by omega, (by rw [eo17362]; rfl), u, h, P17359, L, ⟨by omega, by omega, oP17359, by omega, by omega, by omega, by rw [show P17359.n0 = P.n0 by omega]; exact hok⟩, Or.inl ⟨_, eo17362, by omega, by omega, by omega, by omega, by omega⟩, h17378⟩)
        · have c43 : e8.1 = 0 := (nI_eq (a := e8.1) (b := 0) (by omega) (by omega)).mp q43
          exact absurd q43 nz8
      | inr S8 =>
        rw [eo17362] at pr17360
        obtain ⟨k8, nl8, nm8, np8, nc8, lc8, no8, sd8, md8, ln8⟩ := S8
        obtain ⟨so8, va8, fp8, mt8, ⟨g17, g18, g20, g21, g22, g23, g24⟩, ⟨pa8, pn8, pc8⟩, nr8, mr8, -⟩ := pr17360
        refine m_aload_n F rfl e_X10_text_25 ?_
        refine m_iconst F (v := 0) (by decide) e_X10_text_26 ?_
        refine r_put F (g' := (⟨0, 1, u, h, P17359, L⟩ : RG)) e_X10_text_27 fp_X10_94 h17358 (by decide) rfl ctl_T CR.ctl rfl rfl (by decide) (fun σ17379 h17380 g17381 g17382 f17383 => ?_)
        have ga17384 := mr8.of (g17381 _ (by omega))
        refine m_aload_n F rfl e_X10_text_30 ?_
        refine m_aload_n F rfl e_X10_text_31 ?_
        refine r_getC F e_X10_text_32 fl_X10_141 h17380 ((g17382 23 (by decide)).trans g23) ?_
        refine r_put F (g' := (⟨0, 1, u, h, P17359, L⟩ : RG)) e_X10_text_35 fp_X10_211 h17380 (by decide) ⟨_, rfl⟩ (fun _ _ _ _ q => q) (fun _ _ _ q => q) rfl rfl (by decide) (fun σ17385 h17386 g17387 g17388 f17389 => ?_)
        have ga17390 := ga17384.of (g17387 _ (by omega))
        refine m_aload_n F rfl e_X10_text_38 ?_
        refine m_aload_n F rfl e_X10_text_39 ?_
        refine r_getC F e_X10_text_40 fl_X10_141 h17386 ((g17388 23 (by decide)).trans ((g17382 23 (by decide)).trans g23)) ?_
        refine m_if_ne F e_X10_text_43 (fun q => absurd (by decide) q) (fun _ => ?_)
        refine m_iconst F (v := (-1)) (by decide) e_X10_text_46 ?_
        refine m_goto F e_X10_text_47 ?_
        refine r_put F (g' := (⟨0, 1, u, h, P17359, L⟩ : RG)) e_X10_text_54 fp_X10_55 h17386 (by decide) ⟨_, rfl⟩ (fun _ _ _ _ q => q) (fun _ _ _ q => q) rfl rfl (by decide) (fun σ17391 h17392 g17393 g17394 f17395 => ?_)
        have ga17396 := ga17390.of (g17393 _ (by omega))
        refine m_aload_n F rfl e_X10_text_57 ?_
        refine r_getC F e_X10_text_58 fl_X10_141 h17392 ((g17394 23 (by decide)).trans ((g17388 23 (by decide)).trans ((g17382 23 (by decide)).trans g23))) ?_
        refine m_if_eq F e_X10_text_61 (fun _ => ?_) (fun q => absurd (by decide) q)
        refine m_aload_n F rfl e_X10_text_66 ?_
        refine r_callV F e_X10_text_67 (q_X10_takeTextE (x_l X) V c 0 1 u h P17359 L _ _  nl8 nm8 h17392.1 (hok.b) oP17359  ga17396 (by omega)) cb_X10_takeText ml_X10_85 im_X10_takeText se_X10_takeText h17392 rfl rfl (rest := []) rfl (Nat.le_of_ble_eq_true rfl) ⟨Nat.le_of_ble_eq_true rfl, Nat.le_of_ble_eq_true rfl⟩ ⟨Nat.le_of_ble_eq_true rfl, Nat.le_of_ble_eq_true rfl⟩ (fun r σ17397 hp => ?_)
        obtain ⟨P17400, oP17400, rP17400, pr17401, h17398, hp⟩ := hp
        have h17399 := HS.trans h17392 h17398 (by decide)
        have xP17400 := oP17400
        unfold OKP at xP17400
        unfold RT at rP17400
        obtain rfl := hp
        refine m_aload_n F rfl e_X10_text_70 ?_
        refine r_callV F e_X10_text_71 (q_X10_begins (x_l X) V c 0 1 u h P17400 L _ _  h17399.1 (hok.b) oP17400 (by first | omega | assumption | decide) (by first | omega | assumption | decide)) cb_X10_begins ml_X10_88 im_X10_begins se_X10_begins h17399 rfl rfl (rest := []) rfl (Nat.le_of_ble_eq_true rfl) ⟨Nat.le_of_ble_eq_true rfl, Nat.le_of_ble_eq_true rfl⟩ ⟨Nat.le_of_ble_eq_true rfl, Nat.le_of_ble_eq_true rfl⟩ (fun r σ17402 hp => ?_)
        obtain ⟨L17405, okL17405, h17403, rfl⟩ := hp
        have h17404 := HS.trans h17399 h17403 (by decide)
        refine m_aload_n F rfl e_X10_text_74 ?_
        refine m_iconst F (v := 0) (by decide) e_X10_text_75 ?_
        refine r_put F (g' := (⟨0, 1, 0, h, P17400, L17405⟩ : RG)) e_X10_text_76 fp_X10_214 h17404 (by decide) rfl ctl_u (CR.und (Nat.zero_le _)) rfl rfl (by decide) (fun σ17406 h17407 g17408 g17409 f17410 => ?_)
        refine m_aload_n F rfl e_X10_text_79 ?_
        refine m_iconst F (v := 0) (by decide) e_X10_text_80 ?_
        refine r_put F (g' := (⟨0, 1, 0, 0, P17400, L17405⟩ : RG)) e_X10_text_81 fp_X10_217 h17407 (by decide) rfl ctl_h CR.h0 (by decide) rfl (by decide) (fun σ17411 h17412 g17413 g17414 f17415 => ?_)
        refine m_aload_n F rfl e_X10_text_84 ?_
        refine r_getC F e_X10_text_85 fl_X10_202 h17412 ((g17414 17 (by decide)).trans ((g17409 17 (by decide)).trans ((fld_eq (h17403.2 c (by rw [show kC c c = 1 from kC_at (k := 0) (by decide)]; decide))).trans ((fld_eq (h17398.2 c (by rw [show kC c c = 1 from kC_at (k := 0) (by decide)]; decide))).trans ((g17394 17 (by decide)).trans ((g17388 17 (by decide)).trans ((g17382 17 (by decide)).trans g17))))))) ?_
        have h17416 : HS V c (⟨0, 1, 0, 0, (mkP P17400.n0 P17400.n2 P17400.n5 P17400.n7 P17400.m0 P17400.m5 P17400.w2 P17400.w7 P17400.n0 P17400.a P17400.b0 P17400.b1 P17400.b2 P17400.b3), L17405⟩ : RG) [0, 2, 18, 19, 20, 21, 23] _ _ := ⟨HR.kk0 (HR.mono (Z' := 1) (fun e => absurd e (by decide)) h17412.1), h17412.2⟩
        exact m_iret F hQ e_X10_text_88 (Or.inr ⟨n17354, rfl, by omega, (by rw [eo17362]; rfl), 0, 0, (mkP P17400.n0 P17400.n2 P17400.n5 P17400.n7 P17400.m0 P17400.m5 P17400.w2 P17400.w7 P17400.n0 P17400.a P17400.b0 P17400.b1 P17400.b2 P17400.b3), L17405, ⟨by omega, by omega, oP17400, rfl, (show P17400.n0 ≤ P17400.m0 by omega), (show P17400.n2 ≤ P17400.w2 by omega), okL17405⟩, Or.inr ⟨_, eo17362, (show P17400.n0 = nl8 by omega), TB.to pr17401 rfl rfl rfl rfl⟩, h17416⟩)
    · have c14 : n17354 > T := by have hh := mt (nI_leI (a := n17354) (b := T) (by omega) (by omega)).mpr q14; omega
      refine m_bipush F (v := (-2)) (by decide) e_X10_text_17 ?_
      exact m_iret F hQ e_X10_text_19 (Or.inl ⟨Or.inr ⟨n17354, by omega, rfl, by omega⟩, h17349, (by first | rfl | exact g17350 (c + 1) (by omega)), rfl⟩)
