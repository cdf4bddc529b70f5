def fau (f p : Nat) (x : Int32) : Int32 := if x = 0 then nI f else if x = 1 then nI p else -1
theorem fau_0 {f p : Nat} : fau f p 0 = nI f := if_pos rfl
theorem fau_1 {f p : Nat} : fau f p 1 = nI p := (if_neg (by decide)).trans (if_pos rfl)
theorem fau_n {f p : Nat} {x : Int32} (h0 : ¬ x = 0) (h1 : ¬ x = 1) : fau f p x = -1 := (if_neg h0).trans (if_neg h1)
set_option maxRecDepth 20000 in
theorem s_X9_faultE (l : Launch) (V : VX) (b M Z T N : Nat) (σ : Mem) (a : Nat) (x901 : Int32) (f p : Nat) (h0 : HT V (b, M, Z, T) σ) (hk : kA b a = 1) (hF : FT σ (b + 128) f p) (hM : M + 0 ≤ 1000000000) : Ct l V yX9_fault cX9_fault 2 (some .int) 0 0 0 N σ [.ref a, .int x901] (fun r τ => HK V (b, M, Z, T) [0, 1, 2, 3, 4, 5, 6, 7, 8, 9, 10, 11, 12, 13, 14, 15, 16, 17, 18, 19] σ τ ∧ r = some (.int (fau f p x901))) := by
  refine Ct.of (by decide) (Nat.le_of_ble_eq_true rfl) [(0, .ref a), (1, .int x901)] rfl (fun X hX F hQ => ?_)
  have h1 : HK V (b, M, Z, T) [0, 1, 2, 3, 4, 5, 6, 7, 8, 9, 10, 11, 12, 13, 14, 15, 16, 17, 18, 19] σ σ := HK.start h0
  refine m_iload_n F rfl e_X9_fault_0 ?_
  by_cases hx0 : (x901 : Int32) = 0
  · refine m_lookup F e_X9_fault_1 (by decide) (off := 27) (by rw [hx0]; decide) (tgt := 28) (by decide) ?_
    refine m_aload_n F rfl e_X9_fault_28 ?_
    refine t_get F e_X9_fault_29 fl_X9_28 (fun _ => o1) h1 hk rfl (fun v hv f1 => ?_)
    obtain ⟨r1, k1, rfl⟩ := hv
    obtain rfl : r1 = b + 128 := kA_3 k1
    refine t_get F e_X9_fault_32 fl_X9_70 (fun _ => o3) h1 k1 rfl (fun v hv f2 => ?_)
    obtain ⟨x1, hx1, rfl⟩ := hv
    obtain rfl : x1 = nI f := Value.int.inj (Option.some.inj (f2.symm.trans hF.1))
    exact m_iret F hQ e_X9_fault_35 (⟨h1, by rw [hx0, fau_0]⟩)
  by_cases hx1 : (x901 : Int32) = 1
  · refine m_lookup F e_X9_fault_1 (by decide) (off := 35) (by rw [hx1]; decide) (tgt := 36) (by decide) ?_
    refine m_aload_n F rfl e_X9_fault_36 ?_
    refine t_get F e_X9_fault_37 fl_X9_28 (fun _ => o1) h1 hk rfl (fun v hv f1 => ?_)
    obtain ⟨r1, k1, rfl⟩ := hv
    obtain rfl : r1 = b + 128 := kA_3 k1
    refine t_get F e_X9_fault_40 fl_X9_87 (fun _ => o3) h1 k1 rfl (fun v hv f2 => ?_)
    obtain ⟨x1, rfl⟩ := hv
    obtain rfl : x1 = nI p := Value.int.inj (Option.some.inj (f2.symm.trans hF.2))
    exact m_iret F hQ e_X9_fault_43 (⟨h1, by rw [hx1, fau_1]⟩)
  refine m_lookup F e_X9_fault_1 (by decide) (off := 43) ((lv_osw hx0 (by decide)).trans ((lv_osw hx1 (by decide)).trans (rfl))) (tgt := 44) (by decide) ?_
  refine m_iconst F (v := (-1)) (by decide) e_X9_fault_44 ?_
  exact m_iret F hQ e_X9_fault_45 (⟨h1, by rw [fau_n hx0 hx1]⟩)
theorem FT.of {σ τ : Mem} {a f p : Nat} (h : FT σ a f p) (e : τ a = σ a) : FT τ a f p := ⟨(fld_eq e).trans h.1, (fld_eq e).trans h.2⟩
theorem FT.to {V : VX} {σ : Mem} {a f p c : Nat} {g : RG} (h : FT σ a f p) (hr : HR V c g σ) (e1 : fld σ c 25 = some (.int (nI f))) (e2 : fld σ c 26 = some (.int (nI p))) : FT σ a g.P.f g.P.p := ⟨h.1.trans (e1.symm.trans hr.f25), h.2.trans (e2.symm.trans hr.f26)⟩
set_option maxRecDepth 20000 in
theorem q_X10_faultE (l : Launch) (V : VX) (c T Z u h : Nat) (P : NP) (L : Nat → LQ) (N : Nat) (σ : Mem) (x901 : Int32) (h0 : HR V c ⟨T, Z, u, h, P, L⟩ σ) (hob : OKB L) (hP : OKP P)  : Ct l V yX10_fault cX10_fault 2 (some .int) 0 0 0 N σ [.ref c, .int x901] (fun r τ => HS V c (⟨T, Z, u, h, P, L⟩ : RG) [0, 2, 3, 4, 5, 6, 7, 8, 9, 10, 11, 12, 13, 14, 15, 16, 17, 18, 19, 20, 21, 22, 23] σ τ ∧ r = some (.int (fau P.f P.p x901))) := by
  refine Ct.of (by decide) (Nat.le_of_ble_eq_true rfl) [(0, .ref c), (1, .int x901)] rfl (fun X hX F hQ => ?_)
  have hPP := hP
  unfold OKP at hPP
  have h1 : HS V c ⟨T, Z, u, h, P, L⟩ [0, 2, 3, 4, 5, 6, 7, 8, 9, 10, 11, 12, 13, 14, 15, 16, 17, 18, 19, 20, 21, 22, 23] σ σ := HS.start h0
  refine m_aload_n F rfl e_X10_fault_0 ?_
  refine m_iconst F (v := 0) (by decide) e_X10_fault_1 ?_
  refine r_put F (g' := (⟨T, Z, u, h, P, L⟩ : RG)) e_X10_fault_2 fp_X10_91 h1 (by decide) ⟨_, rfl⟩ (fun _ _ _ _ q => q) (fun _ _ _ q => q) rfl rfl (by decide) (fun σ16951 h16952 g16953 g16954 f16955 => ?_)
  refine m_iload_n F rfl e_X10_fault_5 ?_
  refine m_if_ne F e_X10_fault_6 (fun q6 => ?_) (fun q6 => ?_)
  · refine m_iload_n F rfl e_X10_fault_16 ?_
    refine m_iconst F (v := 1) (by decide) e_X10_fault_17 ?_
    refine m_icmp_ne F e_X10_fault_18 (fun q18 => ?_) (fun q18 => ?_)
    · refine m_iconst F (v := (-1)) (by decide) e_X10_fault_28 ?_
      exact m_iret F hQ e_X10_fault_29 (⟨h16952, (by first | exact congrArg (fun x => some (Value.int x)) fau_0.symm | exact congrArg (fun x => some (Value.int x)) fau_1.symm | exact congrArg (fun x => some (Value.int x)) (fau_n (by assumption) (by assumption)).symm)⟩)
    · subst q18
      refine m_aload_n F rfl e_X10_fault_21 ?_
      refine r_get F e_X10_fault_22 fl_X10_55 h16952 rfl (fun v hv f16956 => ?_)
      obtain rfl : v = .int (nI (P.p)) := hv
      refine m_goto F e_X10_fault_25 ?_
      exact m_iret F hQ e_X10_fault_29 (⟨h16952, (by first | exact congrArg (fun x => some (Value.int x)) fau_0.symm | exact congrArg (fun x => some (Value.int x)) fau_1.symm | exact congrArg (fun x => some (Value.int x)) (fau_n (by assumption) (by assumption)).symm)⟩)
  · subst q6
    refine m_aload_n F rfl e_X10_fault_9 ?_
    refine r_get F e_X10_fault_10 fl_X10_211 h16952 rfl (fun v hv f16957 => ?_)
    obtain rfl : v = .int (nI (P.f)) := hv
    refine m_goto F e_X10_fault_13 ?_
    exact m_iret F hQ e_X10_fault_29 (⟨h16952, (by first | exact congrArg (fun x => some (Value.int x)) fau_0.symm | exact congrArg (fun x => some (Value.int x)) fau_1.symm | exact congrArg (fun x => some (Value.int x)) (fau_n (by assumption) (by assumption)).symm)⟩)
