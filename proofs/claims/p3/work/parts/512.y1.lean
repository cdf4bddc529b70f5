set_option maxRecDepth 20000 in
theorem q_X10_hereE (l : Launch) (V : VX) (c T Z u h : Nat) (P : NP) (L : Nat → LQ) (N : Nat) (σ : Mem) (n : Nat) (t : Nat → Nat) (h0 : HR V c ⟨T, Z, u, h, P, L⟩ σ) (hob : OKB L) (hP : OKP P) (hp0 : fld σ c 18 = some (.int (nI n))) (hp1 : BR σ c n t) (hp2 : n ≤ 700) : Ct l V yX10_here cX10_here 1 (some .int) 0 0 0 N σ [.ref c] (fun r τ => HS V c (⟨T, Z, u, h, P, L⟩ : RG) [0, 1, 2, 3, 4, 5, 6, 7, 8, 9, 10, 11, 12, 13, 14, 15, 16, 17, 18, 19, 20, 21, 22, 23] σ τ ∧ ((n ≤ P.a ∧ r = some (.int (-1))) ∨ (P.a < n ∧ t P.a < 256 ∧ r = some (.int (nI (t P.a)))))) := by
  refine Ct.of (by decide) (Nat.le_of_ble_eq_true rfl) [(0, .ref c)] rfl (fun X hX F hQ => ?_)
  have hPP := hP
  unfold OKP at hPP
  have h1 : HS V c ⟨T, Z, u, h, P, L⟩ [0, 1, 2, 3, 4, 5, 6, 7, 8, 9, 10, 11, 12, 13, 14, 15, 16, 17, 18, 19, 20, 21, 22, 23] σ σ := HS.start h0
  refine m_aload_n F rfl e_X10_here_0 ?_
  refine r_get F e_X10_here_1 fl_X10_97 h1 rfl (fun v hv f10840 => ?_)
  obtain rfl : v = .int (nI (P.a)) := hv
  refine m_aload_n F rfl e_X10_here_4 ?_
  refine r_getC F e_X10_here_5 fl_X10_100 h1 (hp0) ?_
  refine m_icmp_ge F e_X10_here_8 (fun q8 => ?_) (fun q8 => ?_)
  · have c8 : P.a ≥ n := (nI_leI (a := n) (b := P.a) (by omega) (by omega)).mp q8
    refine m_iconst F (v := (-1)) (by decide) e_X10_here_23 ?_
    exact m_iret F hQ e_X10_here_24 (⟨h1, Or.inl ⟨by omega, rfl⟩⟩)
  · have c8 : P.a < n := by have hh := mt (nI_leI (a := n) (b := P.a) (by omega) (by omega)).mpr q8; omega
    refine m_aload_n F rfl e_X10_here_11 ?_
    refine r_get F e_X10_here_12 fl_X10_7 h1 rfl (fun v hv f10841 => ?_)
    obtain rfl : v = .ref (c + 1) := hv
    refine m_aload_n F rfl e_X10_here_15 ?_
    refine r_getC F e_X10_here_16 fl_X10_97 h1 (f10840) ?_
    have hb10842 := (hp1 P.a (by omega)).1
    refine r_iald F (len := 700) (j := P.a) e_X10_here_19 h1 (fun _ h => h) (by decide) (nI_clamp (by omega)) (vp_in_nI (by omega) (by decide)) (fun x10843 h10844 f10845 => ?_)
    obtain rfl := Option.some.inj ((f10845).symm.trans ((hp1 P.a (by omega)).2))
    refine m_goto F e_X10_here_20 ?_
    exact m_iret F hQ e_X10_here_24 (⟨h1, Or.inr ⟨by omega, (hp1 P.a (by omega)).1, rfl⟩⟩)
theorem isL_t {x : Nat} (h : x < 256) (g : ¬ nI x < 97 ∧ ¬ 122 < nI x) : isL x = true := by
  have h1 : ¬ x < 97 := fun e => g.1 ((nI_ltI (a := x) (b := 97) (by omega) (by omega)).mpr e)
  have h2 : ¬ 122 < x := fun e => g.2 ((nI_ltI (a := 122) (b := x) (by omega) (by omega)).mpr e)
  unfold isL; simp; omega
theorem isL_f {x : Nat} (h : x < 256) (g : ¬ (¬ nI x < 97 ∧ ¬ 122 < nI x)) : isL x = false := by
  cases e : isL x with
  | false => rfl
  | true =>
    unfold isL at e
    simp at e
    exact absurd ⟨fun q => absurd ((nI_ltI (a := x) (b := 97) (by omega) (by omega)).mp q) (by omega), fun q => absurd ((nI_ltI (a := 122) (b := x) (by omega) (by omega)).mp q) (by omega)⟩ g
theorem isD_t {x : Nat} (h : x < 256) (g : ¬ nI x < 48 ∧ ¬ 57 < nI x) : isD x = true := by
  have h1 : ¬ x < 48 := fun e => g.1 ((nI_ltI (a := x) (b := 48) (by omega) (by omega)).mpr e)
  have h2 : ¬ 57 < x := fun e => g.2 ((nI_ltI (a := 57) (b := x) (by omega) (by omega)).mpr e)
  unfold isD; simp; omega
theorem isD_f {x : Nat} (h : x < 256) (g : ¬ (¬ nI x < 48 ∧ ¬ 57 < nI x)) : isD x = false := by
  cases e : isD x with
  | false => rfl
  | true =>
    unfold isD at e
    simp at e
    exact absurd ⟨fun q => absurd ((nI_ltI (a := x) (b := 48) (by omega) (by omega)).mp q) (by omega), fun q => absurd ((nI_ltI (a := 57) (b := x) (by omega) (by omega)).mp q) (by omega)⟩ g
set_option maxRecDepth 20000 in
theorem wh_9 {V : VX} {X : MX} {N : Nat} {σ : Mem} {c T Z u h : Nat} {P : NP} {L : Nat → LQ} {n st : Nat} {t : Nat → Nat} (F : Fx V X yX10_wordHere cX10_wordHere 4 (some .int) (rmd 4 0 0)) (hQ : Rt V X 0 0 N (fun r τ => HS V c (⟨T, Z, u, h, P, L⟩ : RG) [0, 1, 2, 3, 4, 5, 6, 7, 8, 9, 10, 11, 12, 13, 14, 15, 16, 17, 18, 19, 20, 21, 22, 23] σ τ ∧ ((P.a - st ≤ 6 ∧ kix (nmc t st P.a 6) < 9 ∧ r = some (.int (nI (kix (nmc t st P.a 6))))) ∨ (¬ (P.a - st ≤ 6 ∧ kix (nmc t st P.a 6) < 9) ∧ r = some (.int (-1)))))) (h1 : HS V c ⟨T, Z, u, h, P, L⟩ [0, 1, 2, 3, 4, 5, 6, 7, 8, 9, 10, 11, 12, 13, 14, 15, 16, 17, 18, 19, 20, 21, 22, 23] σ σ) (f20 : fld σ c 20 = some (.int (nI st))) (hB : BR σ c n t) (hn7 : n ≤ 700) (hsa : st < P.a) (hpn : P.a ≤ n) (hl : ∀ i, st ≤ i → i < P.a → isL (t i) = true) (hm : ∀ m, m < 9 → ¬ mw t st P.a m) : Wm V X 4 N σ 0 0 4 [(1, .int 9), (2, .int 48), (0, .ref c)] [] := by
  refine m_iload_n F rfl e_X10_wordHere_4 ?_
  refine m_ldcS F e_X10_wordHere_5 F.sw.1.2.2 ?_
  refine m_callO F e_X10_wordHere_7 (q_length (x_l X) V _ _) cb_J0_length_8abf5 ml_X10_132 im_J0_length_8abf5 se_J0_length_8abf5 F.sw.2.2.2.2.2.2.1 rfl (rest := [.int 48]) rfl (Nat.le_of_ble_eq_true rfl) ⟨Nat.le_of_ble_eq_true rfl, Nat.le_of_ble_eq_true rfl⟩ ⟨Nat.le_of_ble_eq_true rfl, Nat.le_of_ble_eq_true rfl⟩ (k' := 0) (z' := 0) (N' := N) rfl rfl rfl (fun r σ10846 hp => ?_)
  obtain ⟨rfl, rfl⟩ := hp
  refine m_icmp_ge F e_X10_wordHere_10 (fun _ => ?_) (fun q => absurd (by decide) q)
  refine m_iconst F (v := (-1)) (by decide) e_X10_wordHere_123 ?_
  exact m_iret F hQ e_X10_wordHere_124 ⟨h1, Or.inr ⟨fun q => kix_nmw hsa hl hm q.1 q.2, rfl⟩⟩
set_option maxRecDepth 20000 in
theorem wk_8 {V : VX} {X : MX} {N : Nat} {σ : Mem} {c T Z u h : Nat} {P : NP} {L : Nat → LQ} {n st : Nat} {t : Nat → Nat} (F : Fx V X yX10_wordHere cX10_wordHere 4 (some .int) (rmd 4 0 0)) (hQ : Rt V X 0 0 N (fun r τ => HS V c (⟨T, Z, u, h, P, L⟩ : RG) [0, 1, 2, 3, 4, 5, 6, 7, 8, 9, 10, 11, 12, 13, 14, 15, 16, 17, 18, 19, 20, 21, 22, 23] σ τ ∧ ((P.a - st ≤ 6 ∧ kix (nmc t st P.a 6) < 9 ∧ r = some (.int (nI (kix (nmc t st P.a 6))))) ∨ (¬ (P.a - st ≤ 6 ∧ kix (nmc t st P.a 6) < 9) ∧ r = some (.int (-1)))))) (h1 : HS V c ⟨T, Z, u, h, P, L⟩ [0, 1, 2, 3, 4, 5, 6, 7, 8, 9, 10, 11, 12, 13, 14, 15, 16, 17, 18, 19, 20, 21, 22, 23] σ σ) (f20 : fld σ c 20 = some (.int (nI st))) (hB : BR σ c n t) (hn7 : n ≤ 700) (hsa : st < P.a) (hpn : P.a ≤ n) (hl : ∀ i, st ≤ i → i < P.a → isL (t i) = true) (hm : ∀ m, m < 8 → ¬ mw t st P.a m) (hz : ¬ mw t st P.a 8) : Wm V X 4 N σ 0 0 97 [(1, .int 8), (2, .int 43), (0, .ref c)] [] := by
  refine m_ldcS F e_X10_wordHere_97 F.sw.1.2.2 ?_
  refine m_iload_n F rfl e_X10_wordHere_99 ?_
  refine m_callO F e_X10_wordHere_100 (q_charAt (x_l X) V _ _ 43 (by omega)) cb_J0_charAt_5068e ml_X10_137 im_J0_charAt_5068e se_J0_charAt_5068e F.sw.2.2.2.2.2.2.1 rfl (rest := []) rfl (Nat.le_of_ble_eq_true rfl) ⟨Nat.le_of_ble_eq_true rfl, Nat.le_of_ble_eq_true rfl⟩ ⟨Nat.le_of_ble_eq_true rfl, Nat.le_of_ble_eq_true rfl⟩ (k' := 0) (z' := 0) (N' := N) rfl rfl rfl (fun r σ10847 hp => ?_)
  obtain ⟨rfl, rfl⟩ := hp
  refine Wm.topE (w := 115) (by decide) ?_
  refine m_bipush F (v := 32) (by decide) e_X10_wordHere_103 ?_
  refine m_icmp_eq F e_X10_wordHere_105 (fun q => absurd q (by decide)) (fun _ => ?_)
  refine m_iinc F (v := 44) (lv' := [(2, .int 44), (1, .int 8), (0, .ref c)]) e_X10_wordHere_108 rfl (by decide) (by decide) rfl ?_
  refine m_goto F e_X10_wordHere_111 ?_
  refine m_ldcS F e_X10_wordHere_97 F.sw.1.2.2 ?_
  refine m_iload_n F rfl e_X10_wordHere_99 ?_
  refine m_callO F e_X10_wordHere_100 (q_charAt (x_l X) V _ _ 44 (by omega)) cb_J0_charAt_5068e ml_X10_137 im_J0_charAt_5068e se_J0_charAt_5068e F.sw.2.2.2.2.2.2.1 rfl (rest := []) rfl (Nat.le_of_ble_eq_true rfl) ⟨Nat.le_of_ble_eq_true rfl, Nat.le_of_ble_eq_true rfl⟩ ⟨Nat.le_of_ble_eq_true rfl, Nat.le_of_ble_eq_true rfl⟩ (k' := 0) (z' := 0) (N' := N) rfl rfl rfl (fun r σ10848 hp => ?_)
  obtain ⟨rfl, rfl⟩ := hp
  refine Wm.topE (w := 101) (by decide) ?_
  refine m_bipush F (v := 32) (by decide) e_X10_wordHere_103 ?_
  refine m_icmp_eq F e_X10_wordHere_105 (fun q => absurd q (by decide)) (fun _ => ?_)
  refine m_iinc F (v := 45) (lv' := [(2, .int 45), (1, .int 8), (0, .ref c)]) e_X10_wordHere_108 rfl (by decide) (by decide) rfl ?_
  refine m_goto F e_X10_wordHere_111 ?_
  refine m_ldcS F e_X10_wordHere_97 F.sw.1.2.2 ?_
  refine m_iload_n F rfl e_X10_wordHere_99 ?_
  refine m_callO F e_X10_wordHere_100 (q_charAt (x_l X) V _ _ 45 (by omega)) cb_J0_charAt_5068e ml_X10_137 im_J0_charAt_5068e se_J0_charAt_5068e F.sw.2.2.2.2.2.2.1 rfl (rest := []) rfl (Nat.le_of_ble_eq_true rfl) ⟨Nat.le_of_ble_eq_true rfl, Nat.le_of_ble_eq_true rfl⟩ ⟨Nat.le_of_ble_eq_true rfl, Nat.le_of_ble_eq_true rfl⟩ (k' := 0) (z' := 0) (N' := N) rfl rfl rfl (fun r σ10849 hp => ?_)
  obtain ⟨rfl, rfl⟩ := hp
  refine Wm.topE (w := 101) (by decide) ?_
  refine m_bipush F (v := 32) (by decide) e_X10_wordHere_103 ?_
  refine m_icmp_eq F e_X10_wordHere_105 (fun q => absurd q (by decide)) (fun _ => ?_)
  refine m_iinc F (v := 46) (lv' := [(2, .int 46), (1, .int 8), (0, .ref c)]) e_X10_wordHere_108 rfl (by decide) (by decide) rfl ?_
  refine m_goto F e_X10_wordHere_111 ?_
  refine m_ldcS F e_X10_wordHere_97 F.sw.1.2.2 ?_
  refine m_iload_n F rfl e_X10_wordHere_99 ?_
  refine m_callO F e_X10_wordHere_100 (q_charAt (x_l X) V _ _ 46 (by omega)) cb_J0_charAt_5068e ml_X10_137 im_J0_charAt_5068e se_J0_charAt_5068e F.sw.2.2.2.2.2.2.1 rfl (rest := []) rfl (Nat.le_of_ble_eq_true rfl) ⟨Nat.le_of_ble_eq_true rfl, Nat.le_of_ble_eq_true rfl⟩ ⟨Nat.le_of_ble_eq_true rfl, Nat.le_of_ble_eq_true rfl⟩ (k' := 0) (z' := 0) (N' := N) rfl rfl rfl (fun r σ10850 hp => ?_)
  obtain ⟨rfl, rfl⟩ := hp
  refine Wm.topE (w := 100) (by decide) ?_
  refine m_bipush F (v := 32) (by decide) e_X10_wordHere_103 ?_
  refine m_icmp_eq F e_X10_wordHere_105 (fun q => absurd q (by decide)) (fun _ => ?_)
  refine m_iinc F (v := 47) (lv' := [(2, .int 47), (1, .int 8), (0, .ref c)]) e_X10_wordHere_108 rfl (by decide) (by decide) rfl ?_
  refine m_goto F e_X10_wordHere_111 ?_
  refine m_ldcS F e_X10_wordHere_97 F.sw.1.2.2 ?_
  refine m_iload_n F rfl e_X10_wordHere_99 ?_
  refine m_callO F e_X10_wordHere_100 (q_charAt (x_l X) V _ _ 47 (by omega)) cb_J0_charAt_5068e ml_X10_137 im_J0_charAt_5068e se_J0_charAt_5068e F.sw.2.2.2.2.2.2.1 rfl (rest := []) rfl (Nat.le_of_ble_eq_true rfl) ⟨Nat.le_of_ble_eq_true rfl, Nat.le_of_ble_eq_true rfl⟩ ⟨Nat.le_of_ble_eq_true rfl, Nat.le_of_ble_eq_true rfl⟩ (k' := 0) (z' := 0) (N' := N) rfl rfl rfl (fun r σ10851 hp => ?_)
  obtain ⟨rfl, rfl⟩ := hp
  refine Wm.topE (w := 32) (by decide) ?_
  refine m_bipush F (v := 32) (by decide) e_X10_wordHere_103 ?_
  refine m_icmp_eq F e_X10_wordHere_105 (fun _ => ?_) (fun q => absurd (by decide) q)
  refine m_iinc F (v := 48) (lv' := [(2, .int 48), (1, .int 8), (0, .ref c)]) e_X10_wordHere_114 rfl (by decide) (by decide) rfl ?_
  refine m_iinc F (v := 9) (lv' := [(1, .int 9), (2, .int 48), (0, .ref c)]) e_X10_wordHere_117 rfl (by decide) (by decide) rfl ?_
  refine m_goto F e_X10_wordHere_120 ?_
  exact wh_9 F hQ h1 f20 hB hn7 hsa hpn hl (fun m9 h9 => if e9 : m9 = 8 then e9 ▸ hz else hm m9 (by omega))
set_option maxRecDepth 20000 in
theorem wh_8 {V : VX} {X : MX} {N : Nat} {σ : Mem} {c T Z u h : Nat} {P : NP} {L : Nat → LQ} {n st : Nat} {t : Nat → Nat} (F : Fx V X yX10_wordHere cX10_wordHere 4 (some .int) (rmd 4 0 0)) (hQ : Rt V X 0 0 N (fun r τ => HS V c (⟨T, Z, u, h, P, L⟩ : RG) [0, 1, 2, 3, 4, 5, 6, 7, 8, 9, 10, 11, 12, 13, 14, 15, 16, 17, 18, 19, 20, 21, 22, 23] σ τ ∧ ((P.a - st ≤ 6 ∧ kix (nmc t st P.a 6) < 9 ∧ r = some (.int (nI (kix (nmc t st P.a 6))))) ∨ (¬ (P.a - st ≤ 6 ∧ kix (nmc t st P.a 6) < 9) ∧ r = some (.int (-1)))))) (h1 : HS V c ⟨T, Z, u, h, P, L⟩ [0, 1, 2, 3, 4, 5, 6, 7, 8, 9, 10, 11, 12, 13, 14, 15, 16, 17, 18, 19, 20, 21, 22, 23] σ σ) (f20 : fld σ c 20 = some (.int (nI st))) (hB : BR σ c n t) (hn7 : n ≤ 700) (hsa : st < P.a) (hpn : P.a ≤ n) (hl : ∀ i, st ≤ i → i < P.a → isL (t i) = true) (hm : ∀ m, m < 8 → ¬ mw t st P.a m) : Wm V X 4 N σ 0 0 4 [(1, .int 8), (2, .int 43), (0, .ref c)] [] := by
  refine m_iload_n F rfl e_X10_wordHere_4 ?_
  refine m_ldcS F e_X10_wordHere_5 F.sw.1.2.2 ?_
  refine m_callO F e_X10_wordHere_7 (q_length (x_l X) V _ _) cb_J0_length_8abf5 ml_X10_132 im_J0_length_8abf5 se_J0_length_8abf5 F.sw.2.2.2.2.2.2.1 rfl (rest := [.int 43]) rfl (Nat.le_of_ble_eq_true rfl) ⟨Nat.le_of_ble_eq_true rfl, Nat.le_of_ble_eq_true rfl⟩ ⟨Nat.le_of_ble_eq_true rfl, Nat.le_of_ble_eq_true rfl⟩ (k' := 0) (z' := 0) (N' := N) rfl rfl rfl (fun r σ10852 hp => ?_)
  obtain ⟨rfl, rfl⟩ := hp
  refine m_icmp_ge F e_X10_wordHere_10 (fun q => absurd q (by decide)) (fun _ => ?_)
  refine m_iconst F (v := 0) (by decide) e_X10_wordHere_13 ?_
  refine m_istore_n F (lv' := [(3, .int 0), (1, .int 8), (2, .int 43), (0, .ref c)]) e_X10_wordHere_14 (by decide) rfl ?_
  refine m_ldcS F e_X10_wordHere_15 F.sw.1.2.2 ?_
  refine m_iload_n F rfl e_X10_wordHere_17 ?_
  refine m_iload_n F rfl e_X10_wordHere_18 ?_
  refine m_iadd F e_X10_wordHere_19 ?_
  refine Wm.topE (w := 43) (by decide) ?_
  refine m_callO F e_X10_wordHere_20 (q_charAt (x_l X) V _ _ 43 (by omega)) cb_J0_charAt_5068e ml_X10_137 im_J0_charAt_5068e se_J0_charAt_5068e F.sw.2.2.2.2.2.2.1 rfl (rest := []) rfl (Nat.le_of_ble_eq_true rfl) ⟨Nat.le_of_ble_eq_true rfl, Nat.le_of_ble_eq_true rfl⟩ ⟨Nat.le_of_ble_eq_true rfl, Nat.le_of_ble_eq_true rfl⟩ (k' := 0) (z' := 0) (N' := N) rfl rfl rfl (fun r σ10853 hp => ?_)
  obtain ⟨rfl, rfl⟩ := hp
  refine Wm.topE (w := 115) (by decide) ?_
  refine m_bipush F (v := 32) (by decide) e_X10_wordHere_23 ?_
  refine m_icmp_eq F e_X10_wordHere_25 (fun q => absurd q (by decide)) (fun _ => ?_)
  refine m_aload_n F rfl e_X10_wordHere_28 ?_
  refine r_getC F e_X10_wordHere_29 fl_X10_107 h1 (f20) ?_
  refine m_iload_n F rfl e_X10_wordHere_32 ?_
  refine m_iadd F e_X10_wordHere_33 ?_
  refine Wm.topE (w := nI st) (nI_add st 0) ?_
  refine m_aload_n F rfl e_X10_wordHere_34 ?_
  refine r_get F e_X10_wordHere_35 fl_X10_97 h1 rfl (fun v hv f10854 => ?_)
  obtain rfl : v = .int (nI (P.a)) := hv
  refine m_icmp_ge F e_X10_wordHere_38 (fun q38 => ?_) (fun q38 => ?_)
  · have c38 : st ≥ P.a := (nI_leI (a := P.a) (b := st) (by omega) (by omega)).mp q38
    refine m_ldcS F e_X10_wordHere_69 F.sw.1.2.2 ?_
    refine m_iload_n F rfl e_X10_wordHere_71 ?_
    refine m_iload_n F rfl e_X10_wordHere_72 ?_
    refine m_iadd F e_X10_wordHere_73 ?_
    refine Wm.topE (w := 43) (by decide) ?_
    refine m_callO F e_X10_wordHere_74 (q_charAt (x_l X) V _ _ 43 (by omega)) cb_J0_charAt_5068e ml_X10_137 im_J0_charAt_5068e se_J0_charAt_5068e F.sw.2.2.2.2.2.2.1 rfl (rest := []) rfl (Nat.le_of_ble_eq_true rfl) ⟨Nat.le_of_ble_eq_true rfl, Nat.le_of_ble_eq_true rfl⟩ ⟨Nat.le_of_ble_eq_true rfl, Nat.le_of_ble_eq_true rfl⟩ (k' := 0) (z' := 0) (N' := N) rfl rfl rfl (fun r σ10855 hp => ?_)
    obtain ⟨rfl, rfl⟩ := hp
    refine Wm.topE (w := 115) (by decide) ?_
    refine m_bipush F (v := 32) (by decide) e_X10_wordHere_77 ?_
    refine m_icmp_ne F e_X10_wordHere_79 (fun _ => ?_) (fun q => absurd q (by decide))
    refine Wm.lvsub (lv' := [(1, .int 8), (2, .int 43), (0, .ref c)]) ?_ [1, 2, 3] rfl
    exact wk_8 F hQ h1 f20 hB hn7 hsa hpn hl hm (fun hz => by have z1 : P.a = st + 4 := hz.1; have z2 : t (st) = 115 := hz.2 0 (by decide); omega)
  · have c38 : st < P.a := by have hh := mt (nI_leI (a := P.a) (b := st) (by omega) (by omega)).mpr q38; omega
    refine m_aload_n F rfl e_X10_wordHere_41 ?_
    refine r_get F e_X10_wordHere_42 fl_X10_7 h1 rfl (fun v hv f10856 => ?_)
    obtain rfl : v = .ref (c + 1) := hv
    refine m_aload_n F rfl e_X10_wordHere_45 ?_
    refine r_getC F e_X10_wordHere_46 fl_X10_107 h1 (f20) ?_
    refine m_iload_n F rfl e_X10_wordHere_49 ?_
    refine m_iadd F e_X10_wordHere_50 ?_
    refine Wm.topE (w := nI st) (nI_add st 0) ?_
    have hb10857 := (hB st (by omega)).1
    refine r_iald F (len := 700) (j := st) e_X10_wordHere_51 h1 (fun _ h => h) (by decide) (nI_clamp (by omega)) (vp_in_nI (by omega) (by decide)) (fun x10858 h10859 f10860 => ?_)
    obtain rfl := Option.some.inj ((f10860).symm.trans ((hB st (by omega)).2))
    refine m_ldcS F e_X10_wordHere_52 F.sw.1.2.2 ?_
    refine m_iload_n F rfl e_X10_wordHere_54 ?_
    refine m_iload_n F rfl e_X10_wordHere_55 ?_
    refine m_iadd F e_X10_wordHere_56 ?_
    refine Wm.topE (w := 43) (by decide) ?_
    refine m_callO F e_X10_wordHere_57 (q_charAt (x_l X) V _ _ 43 (by omega)) cb_J0_charAt_5068e ml_X10_137 im_J0_charAt_5068e se_J0_charAt_5068e F.sw.2.2.2.2.2.2.1 rfl (rest := [.int (nI (t st))]) rfl (Nat.le_of_ble_eq_true rfl) ⟨Nat.le_of_ble_eq_true rfl, Nat.le_of_ble_eq_true rfl⟩ ⟨Nat.le_of_ble_eq_true rfl, Nat.le_of_ble_eq_true rfl⟩ (k' := 0) (z' := 0) (N' := N) rfl rfl rfl (fun r σ10861 hp => ?_)
    obtain ⟨rfl, rfl⟩ := hp
    refine Wm.topE (w := 115) (by decide) ?_
    refine m_icmp_ne F e_X10_wordHere_60 (fun q60 => ?_) (fun q60 => ?_)
    · have c60 : (t st) ≠ 115 := by have hh := mt (nI_eq (a := (t st)) (b := 115) (by omega) (by omega)).mpr q60; omega
      refine m_ldcS F e_X10_wordHere_69 F.sw.1.2.2 ?_
      refine m_iload_n F rfl e_X10_wordHere_71 ?_
      refine m_iload_n F rfl e_X10_wordHere_72 ?_
      refine m_iadd F e_X10_wordHere_73 ?_
      refine Wm.topE (w := 43) (by decide) ?_
      refine m_callO F e_X10_wordHere_74 (q_charAt (x_l X) V _ _ 43 (by omega)) cb_J0_charAt_5068e ml_X10_137 im_J0_charAt_5068e se_J0_charAt_5068e F.sw.2.2.2.2.2.2.1 rfl (rest := []) rfl (Nat.le_of_ble_eq_true rfl) ⟨Nat.le_of_ble_eq_true rfl, Nat.le_of_ble_eq_true rfl⟩ ⟨Nat.le_of_ble_eq_true rfl, Nat.le_of_ble_eq_true rfl⟩ (k' := 0) (z' := 0) (N' := N) rfl rfl rfl (fun r σ10862 hp => ?_)
      obtain ⟨rfl, rfl⟩ := hp
      refine Wm.topE (w := 115) (by decide) ?_
      refine m_bipush F (v := 32) (by decide) e_X10_wordHere_77 ?_
      refine m_icmp_ne F e_X10_wordHere_79 (fun _ => ?_) (fun q => absurd q (by decide))
      refine Wm.lvsub (lv' := [(1, .int 8), (2, .int 43), (0, .ref c)]) ?_ [1, 2, 3] rfl
      exact wk_8 F hQ h1 f20 hB hn7 hsa hpn hl hm (fun hz => by have z1 : P.a = st + 4 := hz.1; have z2 : t (st) = 115 := hz.2 0 (by decide); omega)
    · have c60 : (t st) = 115 := (nI_eq (a := (t st)) (b := 115) (by omega) (by omega)).mp q60
      refine m_iinc F (v := 1) (lv' := [(3, .int 1), (1, .int 8), (2, .int 43), (0, .ref c)]) e_X10_wordHere_63 rfl (by decide) (by decide) rfl ?_
      refine m_goto F e_X10_wordHere_66 ?_
      refine m_ldcS F e_X10_wordHere_15 F.sw.1.2.2 ?_
      refine m_iload_n F rfl e_X10_wordHere_17 ?_
      refine m_iload_n F rfl e_X10_wordHere_18 ?_
      refine m_iadd F e_X10_wordHere_19 ?_
      refine Wm.topE (w := 44) (by decide) ?_
      refine m_callO F e_X10_wordHere_20 (q_charAt (x_l X) V _ _ 44 (by omega)) cb_J0_charAt_5068e ml_X10_137 im_J0_charAt_5068e se_J0_charAt_5068e F.sw.2.2.2.2.2.2.1 rfl (rest := []) rfl (Nat.le_of_ble_eq_true rfl) ⟨Nat.le_of_ble_eq_true rfl, Nat.le_of_ble_eq_true rfl⟩ ⟨Nat.le_of_ble_eq_true rfl, Nat.le_of_ble_eq_true rfl⟩ (k' := 0) (z' := 0) (N' := N) rfl rfl rfl (fun r σ10863 hp => ?_)
      obtain ⟨rfl, rfl⟩ := hp
      refine Wm.topE (w := 101) (by decide) ?_
      refine m_bipush F (v := 32) (by decide) e_X10_wordHere_23 ?_
      refine m_icmp_eq F e_X10_wordHere_25 (fun q => absurd q (by decide)) (fun _ => ?_)
      refine m_aload_n F rfl e_X10_wordHere_28 ?_
      refine r_getC F e_X10_wordHere_29 fl_X10_107 h1 (f20) ?_
      refine m_iload_n F rfl e_X10_wordHere_32 ?_
      refine m_iadd F e_X10_wordHere_33 ?_
      refine Wm.topE (w := nI (st + 1)) (nI_add st 1) ?_
      refine m_aload_n F rfl e_X10_wordHere_34 ?_
      refine r_getC F e_X10_wordHere_35 fl_X10_97 h1 (f10854) ?_
      refine m_icmp_ge F e_X10_wordHere_38 (fun q38 => ?_) (fun q38 => ?_)
      · have c38 : (st + 1) ≥ P.a := (nI_leI (a := P.a) (b := (st + 1)) (by omega) (by omega)).mp q38
        refine m_ldcS F e_X10_wordHere_69 F.sw.1.2.2 ?_
        refine m_iload_n F rfl e_X10_wordHere_71 ?_
        refine m_iload_n F rfl e_X10_wordHere_72 ?_
        refine m_iadd F e_X10_wordHere_73 ?_
        refine Wm.topE (w := 44) (by decide) ?_
        refine m_callO F e_X10_wordHere_74 (q_charAt (x_l X) V _ _ 44 (by omega)) cb_J0_charAt_5068e ml_X10_137 im_J0_charAt_5068e se_J0_charAt_5068e F.sw.2.2.2.2.2.2.1 rfl (rest := []) rfl (Nat.le_of_ble_eq_true rfl) ⟨Nat.le_of_ble_eq_true rfl, Nat.le_of_ble_eq_true rfl⟩ ⟨Nat.le_of_ble_eq_true rfl, Nat.le_of_ble_eq_true rfl⟩ (k' := 0) (z' := 0) (N' := N) rfl rfl rfl (fun r σ10864 hp => ?_)
        obtain ⟨rfl, rfl⟩ := hp
        refine Wm.topE (w := 101) (by decide) ?_
        refine m_bipush F (v := 32) (by decide) e_X10_wordHere_77 ?_
        refine m_icmp_ne F e_X10_wordHere_79 (fun _ => ?_) (fun q => absurd q (by decide))
        refine Wm.lvsub (lv' := [(1, .int 8), (2, .int 43), (0, .ref c)]) ?_ [1, 2, 3] rfl
        exact wk_8 F hQ h1 f20 hB hn7 hsa hpn hl hm (fun hz => by have z1 : P.a = st + 4 := hz.1; have z2 : t (st + 1) = 101 := hz.2 1 (by decide); omega)
      · have c38 : (st + 1) < P.a := by have hh := mt (nI_leI (a := P.a) (b := (st + 1)) (by omega) (by omega)).mpr q38; omega
        refine m_aload_n F rfl e_X10_wordHere_41 ?_
        refine r_getC F e_X10_wordHere_42 fl_X10_7 h1 (f10856) ?_
        refine m_aload_n F rfl e_X10_wordHere_45 ?_
        refine r_getC F e_X10_wordHere_46 fl_X10_107 h1 (f20) ?_
        refine m_iload_n F rfl e_X10_wordHere_49 ?_
        refine m_iadd F e_X10_wordHere_50 ?_
        refine Wm.topE (w := nI (st + 1)) (nI_add st 1) ?_
        have hb10865 := (hB (st + 1) (by omega)).1
        refine r_iald F (len := 700) (j := st + 1) e_X10_wordHere_51 h1 (fun _ h => h) (by decide) (nI_clamp (by omega)) (vp_in_nI (by omega) (by decide)) (fun x10866 h10867 f10868 => ?_)
        obtain rfl := Option.some.inj ((f10868).symm.trans ((hB (st + 1) (by omega)).2))
        refine m_ldcS F e_X10_wordHere_52 F.sw.1.2.2 ?_
        refine m_iload_n F rfl e_X10_wordHere_54 ?_
        refine m_iload_n F rfl e_X10_wordHere_55 ?_
        refine m_iadd F e_X10_wordHere_56 ?_
        refine Wm.topE (w := 44) (by decide) ?_
        refine m_callO F e_X10_wordHere_57 (q_charAt (x_l X) V _ _ 44 (by omega)) cb_J0_charAt_5068e ml_X10_137 im_J0_charAt_5068e se_J0_charAt_5068e F.sw.2.2.2.2.2.2.1 rfl (rest := [.int (nI (t (st + 1)))]) rfl (Nat.le_of_ble_eq_true rfl) ⟨Nat.le_of_ble_eq_true rfl, Nat.le_of_ble_eq_true rfl⟩ ⟨Nat.le_of_ble_eq_true rfl, Nat.le_of_ble_eq_true rfl⟩ (k' := 0) (z' := 0) (N' := N) rfl rfl rfl (fun r σ10869 hp => ?_)
        obtain ⟨rfl, rfl⟩ := hp
        refine Wm.topE (w := 101) (by decide) ?_
        refine m_icmp_ne F e_X10_wordHere_60 (fun q60 => ?_) (fun q60 => ?_)
        · have c60 : (t (st + 1)) ≠ 101 := by have hh := mt (nI_eq (a := (t (st + 1))) (b := 101) (by omega) (by omega)).mpr q60; omega
          refine m_ldcS F e_X10_wordHere_69 F.sw.1.2.2 ?_
          refine m_iload_n F rfl e_X10_wordHere_71 ?_
          refine m_iload_n F rfl e_X10_wordHere_72 ?_
          refine m_iadd F e_X10_wordHere_73 ?_
          refine Wm.topE (w := 44) (by decide) ?_
          refine m_callO F e_X10_wordHere_74 (q_charAt (x_l X) V _ _ 44 (by omega)) cb_J0_charAt_5068e ml_X10_137 im_J0_charAt_5068e se_J0_charAt_5068e F.sw.2.2.2.2.2.2.1 rfl (rest := []) rfl (Nat.le_of_ble_eq_true rfl) ⟨Nat.le_of_ble_eq_true rfl, Nat.le_of_ble_eq_true rfl⟩ ⟨Nat.le_of_ble_eq_true rfl, Nat.le_of_ble_eq_true rfl⟩ (k' := 0) (z' := 0) (N' := N) rfl rfl rfl (fun r σ10870 hp => ?_)
          obtain ⟨rfl, rfl⟩ := hp
          refine Wm.topE (w := 101) (by decide) ?_
          refine m_bipush F (v := 32) (by decide) e_X10_wordHere_77 ?_
          refine m_icmp_ne F e_X10_wordHere_79 (fun _ => ?_) (fun q => absurd q (by decide))
          refine Wm.lvsub (lv' := [(1, .int 8), (2, .int 43), (0, .ref c)]) ?_ [1, 2, 3] rfl
          exact wk_8 F hQ h1 f20 hB hn7 hsa hpn hl hm (fun hz => by have z1 : P.a = st + 4 := hz.1; have z2 : t (st + 1) = 101 := hz.2 1 (by decide); omega)
        · have c60 : (t (st + 1)) = 101 := (nI_eq (a := (t (st + 1))) (b := 101) (by omega) (by omega)).mp q60
          refine m_iinc F (v := 2) (lv' := [(3, .int 2), (1, .int 8), (2, .int 43), (0, .ref c)]) e_X10_wordHere_63 rfl (by decide) (by decide) rfl ?_
          refine m_goto F e_X10_wordHere_66 ?_
          refine m_ldcS F e_X10_wordHere_15 F.sw.1.2.2 ?_
          refine m_iload_n F rfl e_X10_wordHere_17 ?_
          refine m_iload_n F rfl e_X10_wordHere_18 ?_
          refine m_iadd F e_X10_wordHere_19 ?_
          refine Wm.topE (w := 45) (by decide) ?_
          refine m_callO F e_X10_wordHere_20 (q_charAt (x_l X) V _ _ 45 (by omega)) cb_J0_charAt_5068e ml_X10_137 im_J0_charAt_5068e se_J0_charAt_5068e F.sw.2.2.2.2.2.2.1 rfl (rest := []) rfl (Nat.le_of_ble_eq_true rfl) ⟨Nat.le_of_ble_eq_true rfl, Nat.le_of_ble_eq_true rfl⟩ ⟨Nat.le_of_ble_eq_true rfl, Nat.le_of_ble_eq_true rfl⟩ (k' := 0) (z' := 0) (N' := N) rfl rfl rfl (fun r σ10871 hp => ?_)
          obtain ⟨rfl, rfl⟩ := hp
          refine Wm.topE (w := 101) (by decide) ?_
          refine m_bipush F (v := 32) (by decide) e_X10_wordHere_23 ?_
          refine m_icmp_eq F e_X10_wordHere_25 (fun q => absurd q (by decide)) (fun _ => ?_)
          refine m_aload_n F rfl e_X10_wordHere_28 ?_
          refine r_getC F e_X10_wordHere_29 fl_X10_107 h1 (f20) ?_
          refine m_iload_n F rfl e_X10_wordHere_32 ?_
          refine m_iadd F e_X10_wordHere_33 ?_
          refine Wm.topE (w := nI (st + 2)) (nI_add st 2) ?_
          refine m_aload_n F rfl e_X10_wordHere_34 ?_
          refine r_getC F e_X10_wordHere_35 fl_X10_97 h1 (f10854) ?_
          refine m_icmp_ge F e_X10_wordHere_38 (fun q38 => ?_) (fun q38 => ?_)
          · have c38 : (st + 2) ≥ P.a := (nI_leI (a := P.a) (b := (st + 2)) (by omega) (by omega)).mp q38
            refine m_ldcS F e_X10_wordHere_69 F.sw.1.2.2 ?_
            refine m_iload_n F rfl e_X10_wordHere_71 ?_
            refine m_iload_n F rfl e_X10_wordHere_72 ?_
            refine m_iadd F e_X10_wordHere_73 ?_
            refine Wm.topE (w := 45) (by decide) ?_
            refine m_callO F e_X10_wordHere_74 (q_charAt (x_l X) V _ _ 45 (by omega)) cb_J0_charAt_5068e ml_X10_137 im_J0_charAt_5068e se_J0_charAt_5068e F.sw.2.2.2.2.2.2.1 rfl (rest := []) rfl (Nat.le_of_ble_eq_true rfl) ⟨Nat.le_of_ble_eq_true rfl, Nat.le_of_ble_eq_true rfl⟩ ⟨Nat.le_of_ble_eq_true rfl, Nat.le_of_ble_eq_true rfl⟩ (k' := 0) (z' := 0) (N' := N) rfl rfl rfl (fun r σ10872 hp => ?_)
            obtain ⟨rfl, rfl⟩ := hp
            refine Wm.topE (w := 101) (by decide) ?_
            refine m_bipush F (v := 32) (by decide) e_X10_wordHere_77 ?_
            refine m_icmp_ne F e_X10_wordHere_79 (fun _ => ?_) (fun q => absurd q (by decide))
            refine Wm.lvsub (lv' := [(1, .int 8), (2, .int 43), (0, .ref c)]) ?_ [1, 2, 3] rfl
            exact wk_8 F hQ h1 f20 hB hn7 hsa hpn hl hm (fun hz => by have z1 : P.a = st + 4 := hz.1; have z2 : t (st + 2) = 101 := hz.2 2 (by decide); omega)
          · have c38 : (st + 2) < P.a := by have hh := mt (nI_leI (a := P.a) (b := (st + 2)) (by omega) (by omega)).mpr q38; omega
            refine m_aload_n F rfl e_X10_wordHere_41 ?_
            refine r_getC F e_X10_wordHere_42 fl_X10_7 h1 (f10856) ?_
            refine m_aload_n F rfl e_X10_wordHere_45 ?_
            refine r_getC F e_X10_wordHere_46 fl_X10_107 h1 (f20) ?_
            refine m_iload_n F rfl e_X10_wordHere_49 ?_
            refine m_iadd F e_X10_wordHere_50 ?_
            refine Wm.topE (w := nI (st + 2)) (nI_add st 2) ?_
            have hb10873 := (hB (st + 2) (by omega)).1
            refine r_iald F (len := 700) (j := st + 2) e_X10_wordHere_51 h1 (fun _ h => h) (by decide) (nI_clamp (by omega)) (vp_in_nI (by omega) (by decide)) (fun x10874 h10875 f10876 => ?_)
            obtain rfl := Option.some.inj ((f10876).symm.trans ((hB (st + 2) (by omega)).2))
            refine m_ldcS F e_X10_wordHere_52 F.sw.1.2.2 ?_
            refine m_iload_n F rfl e_X10_wordHere_54 ?_
            refine m_iload_n F rfl e_X10_wordHere_55 ?_
            refine m_iadd F e_X10_wordHere_56 ?_
            refine Wm.topE (w := 45) (by decide) ?_
            refine m_callO F e_X10_wordHere_57 (q_charAt (x_l X) V _ _ 45 (by omega)) cb_J0_charAt_5068e ml_X10_137 im_J0_charAt_5068e se_J0_charAt_5068e F.sw.2.2.2.2.2.2.1 rfl (rest := [.int (nI (t (st + 2)))]) rfl (Nat.le_of_ble_eq_true rfl) ⟨Nat.le_of_ble_eq_true rfl, Nat.le_of_ble_eq_true rfl⟩ ⟨Nat.le_of_ble_eq_true rfl, Nat.le_of_ble_eq_true rfl⟩ (k' := 0) (z' := 0) (N' := N) rfl rfl rfl (fun r σ10877 hp => ?_)
            obtain ⟨rfl, rfl⟩ := hp
            refine Wm.topE (w := 101) (by decide) ?_
            refine m_icmp_ne F e_X10_wordHere_60 (fun q60 => ?_) (fun q60 => ?_)
            · have c60 : (t (st + 2)) ≠ 101 := by have hh := mt (nI_eq (a := (t (st + 2))) (b := 101) (by omega) (by omega)).mpr q60; omega
              refine m_ldcS F e_X10_wordHere_69 F.sw.1.2.2 ?_
              refine m_iload_n F rfl e_X10_wordHere_71 ?_
              refine m_iload_n F rfl e_X10_wordHere_72 ?_
              refine m_iadd F e_X10_wordHere_73 ?_
              refine Wm.topE (w := 45) (by decide) ?_
              refine m_callO F e_X10_wordHere_74 (q_charAt (x_l X) V _ _ 45 (by omega)) cb_J0_charAt_5068e ml_X10_137 im_J0_charAt_5068e se_J0_charAt_5068e F.sw.2.2.2.2.2.2.1 rfl (rest := []) rfl (Nat.le_of_ble_eq_true rfl) ⟨Nat.le_of_ble_eq_true rfl, Nat.le_of_ble_eq_true rfl⟩ ⟨Nat.le_of_ble_eq_true rfl, Nat.le_of_ble_eq_true rfl⟩ (k' := 0) (z' := 0) (N' := N) rfl rfl rfl (fun r σ10878 hp => ?_)
              obtain ⟨rfl, rfl⟩ := hp
              refine Wm.topE (w := 101) (by decide) ?_
              refine m_bipush F (v := 32) (by decide) e_X10_wordHere_77 ?_
              refine m_icmp_ne F e_X10_wordHere_79 (fun _ => ?_) (fun q => absurd q (by decide))
              refine Wm.lvsub (lv' := [(1, .int 8), (2, .int 43), (0, .ref c)]) ?_ [1, 2, 3] rfl
              exact wk_8 F hQ h1 f20 hB hn7 hsa hpn hl hm (fun hz => by have z1 : P.a = st + 4 := hz.1; have z2 : t (st + 2) = 101 := hz.2 2 (by decide); omega)
            · have c60 : (t (st + 2)) = 101 := (nI_eq (a := (t (st + 2))) (b := 101) (by omega) (by omega)).mp q60
              refine m_iinc F (v := 3) (lv' := [(3, .int 3), (1, .int 8), (2, .int 43), (0, .ref c)]) e_X10_wordHere_63 rfl (by decide) (by decide) rfl ?_
              refine m_goto F e_X10_wordHere_66 ?_
              refine m_ldcS F e_X10_wordHere_15 F.sw.1.2.2 ?_
              refine m_iload_n F rfl e_X10_wordHere_17 ?_
              refine m_iload_n F rfl e_X10_wordHere_18 ?_
              refine m_iadd F e_X10_wordHere_19 ?_
              refine Wm.topE (w := 46) (by decide) ?_
              refine m_callO F e_X10_wordHere_20 (q_charAt (x_l X) V _ _ 46 (by omega)) cb_J0_charAt_5068e ml_X10_137 im_J0_charAt_5068e se_J0_charAt_5068e F.sw.2.2.2.2.2.2.1 rfl (rest := []) rfl (Nat.le_of_ble_eq_true rfl) ⟨Nat.le_of_ble_eq_true rfl, Nat.le_of_ble_eq_true rfl⟩ ⟨Nat.le_of_ble_eq_true rfl, Nat.le_of_ble_eq_true rfl⟩ (k' := 0) (z' := 0) (N' := N) rfl rfl rfl (fun r σ10879 hp => ?_)
              obtain ⟨rfl, rfl⟩ := hp
              refine Wm.topE (w := 100) (by decide) ?_
              refine m_bipush F (v := 32) (by decide) e_X10_wordHere_23 ?_
              refine m_icmp_eq F e_X10_wordHere_25 (fun q => absurd q (by decide)) (fun _ => ?_)
              refine m_aload_n F rfl e_X10_wordHere_28 ?_
              refine r_getC F e_X10_wordHere_29 fl_X10_107 h1 (f20) ?_
              refine m_iload_n F rfl e_X10_wordHere_32 ?_
              refine m_iadd F e_X10_wordHere_33 ?_
              refine Wm.topE (w := nI (st + 3)) (nI_add st 3) ?_
              refine m_aload_n F rfl e_X10_wordHere_34 ?_
              refine r_getC F e_X10_wordHere_35 fl_X10_97 h1 (f10854) ?_
              refine m_icmp_ge F e_X10_wordHere_38 (fun q38 => ?_) (fun q38 => ?_)
              · have c38 : (st + 3) ≥ P.a := (nI_leI (a := P.a) (b := (st + 3)) (by omega) (by omega)).mp q38
                refine m_ldcS F e_X10_wordHere_69 F.sw.1.2.2 ?_
                refine m_iload_n F rfl e_X10_wordHere_71 ?_
                refine m_iload_n F rfl e_X10_wordHere_72 ?_
                refine m_iadd F e_X10_wordHere_73 ?_
                refine Wm.topE (w := 46) (by decide) ?_
                refine m_callO F e_X10_wordHere_74 (q_charAt (x_l X) V _ _ 46 (by omega)) cb_J0_charAt_5068e ml_X10_137 im_J0_charAt_5068e se_J0_charAt_5068e F.sw.2.2.2.2.2.2.1 rfl (rest := []) rfl (Nat.le_of_ble_eq_true rfl) ⟨Nat.le_of_ble_eq_true rfl, Nat.le_of_ble_eq_true rfl⟩ ⟨Nat.le_of_ble_eq_true rfl, Nat.le_of_ble_eq_true rfl⟩ (k' := 0) (z' := 0) (N' := N) rfl rfl rfl (fun r σ10880 hp => ?_)
                obtain ⟨rfl, rfl⟩ := hp
                refine Wm.topE (w := 100) (by decide) ?_
                refine m_bipush F (v := 32) (by decide) e_X10_wordHere_77 ?_
                refine m_icmp_ne F e_X10_wordHere_79 (fun _ => ?_) (fun q => absurd q (by decide))
                refine Wm.lvsub (lv' := [(1, .int 8), (2, .int 43), (0, .ref c)]) ?_ [1, 2, 3] rfl
                exact wk_8 F hQ h1 f20 hB hn7 hsa hpn hl hm (fun hz => by have z1 : P.a = st + 4 := hz.1; have z2 : t (st + 3) = 100 := hz.2 3 (by decide); omega)
              · have c38 : (st + 3) < P.a := by have hh := mt (nI_leI (a := P.a) (b := (st + 3)) (by omega) (by omega)).mpr q38; omega
                refine m_aload_n F rfl e_X10_wordHere_41 ?_
                refine r_getC F e_X10_wordHere_42 fl_X10_7 h1 (f10856) ?_
                refine m_aload_n F rfl e_X10_wordHere_45 ?_
                refine r_getC F e_X10_wordHere_46 fl_X10_107 h1 (f20) ?_
                refine m_iload_n F rfl e_X10_wordHere_49 ?_
                refine m_iadd F e_X10_wordHere_50 ?_
                refine Wm.topE (w := nI (st + 3)) (nI_add st 3) ?_
                have hb10881 := (hB (st + 3) (by omega)).1
                refine r_iald F (len := 700) (j := st + 3) e_X10_wordHere_51 h1 (fun _ h => h) (by decide) (nI_clamp (by omega)) (vp_in_nI (by omega) (by decide)) (fun x10882 h10883 f10884 => ?_)
                obtain rfl := Option.some.inj ((f10884).symm.trans ((hB (st + 3) (by omega)).2))
                refine m_ldcS F e_X10_wordHere_52 F.sw.1.2.2 ?_
                refine m_iload_n F rfl e_X10_wordHere_54 ?_
                refine m_iload_n F rfl e_X10_wordHere_55 ?_
                refine m_iadd F e_X10_wordHere_56 ?_
                refine Wm.topE (w := 46) (by decide) ?_
                refine m_callO F e_X10_wordHere_57 (q_charAt (x_l X) V _ _ 46 (by omega)) cb_J0_charAt_5068e ml_X10_137 im_J0_charAt_5068e se_J0_charAt_5068e F.sw.2.2.2.2.2.2.1 rfl (rest := [.int (nI (t (st + 3)))]) rfl (Nat.le_of_ble_eq_true rfl) ⟨Nat.le_of_ble_eq_true rfl, Nat.le_of_ble_eq_true rfl⟩ ⟨Nat.le_of_ble_eq_true rfl, Nat.le_of_ble_eq_true rfl⟩ (k' := 0) (z' := 0) (N' := N) rfl rfl rfl (fun r σ10885 hp => ?_)
                obtain ⟨rfl, rfl⟩ := hp
                refine Wm.topE (w := 100) (by decide) ?_
                refine m_icmp_ne F e_X10_wordHere_60 (fun q60 => ?_) (fun q60 => ?_)
                · have c60 : (t (st + 3)) ≠ 100 := by have hh := mt (nI_eq (a := (t (st + 3))) (b := 100) (by omega) (by omega)).mpr q60; omega
                  refine m_ldcS F e_X10_wordHere_69 F.sw.1.2.2 ?_
                  refine m_iload_n F rfl e_X10_wordHere_71 ?_
                  refine m_iload_n F rfl e_X10_wordHere_72 ?_
                  refine m_iadd F e_X10_wordHere_73 ?_
                  refine Wm.topE (w := 46) (by decide) ?_
                  refine m_callO F e_X10_wordHere_74 (q_charAt (x_l X) V _ _ 46 (by omega)) cb_J0_charAt_5068e ml_X10_137 im_J0_charAt_5068e se_J0_charAt_5068e F.sw.2.2.2.2.2.2.1 rfl (rest := []) rfl (Nat.le_of_ble_eq_true rfl) ⟨Nat.le_of_ble_eq_true rfl, Nat.le_of_ble_eq_true rfl⟩ ⟨Nat.le_of_ble_eq_true rfl, Nat.le_of_ble_eq_true rfl⟩ (k' := 0) (z' := 0) (N' := N) rfl rfl rfl (fun r σ10886 hp => ?_)
                  obtain ⟨rfl, rfl⟩ := hp
                  refine Wm.topE (w := 100) (by decide) ?_
                  refine m_bipush F (v := 32) (by decide) e_X10_wordHere_77 ?_
                  refine m_icmp_ne F e_X10_wordHere_79 (fun _ => ?_) (fun q => absurd q (by decide))
                  refine Wm.lvsub (lv' := [(1, .int 8), (2, .int 43), (0, .ref c)]) ?_ [1, 2, 3] rfl
                  exact wk_8 F hQ h1 f20 hB hn7 hsa hpn hl hm (fun hz => by have z1 : P.a = st + 4 := hz.1; have z2 : t (st + 3) = 100 := hz.2 3 (by decide); omega)
                · have c60 : (t (st + 3)) = 100 := (nI_eq (a := (t (st + 3))) (b := 100) (by omega) (by omega)).mp q60
                  refine m_iinc F (v := 4) (lv' := [(3, .int 4), (1, .int 8), (2, .int 43), (0, .ref c)]) e_X10_wordHere_63 rfl (by decide) (by decide) rfl ?_
                  refine m_goto F e_X10_wordHere_66 ?_
                  refine m_ldcS F e_X10_wordHere_15 F.sw.1.2.2 ?_
                  refine m_iload_n F rfl e_X10_wordHere_17 ?_
                  refine m_iload_n F rfl e_X10_wordHere_18 ?_
                  refine m_iadd F e_X10_wordHere_19 ?_
                  refine Wm.topE (w := 47) (by decide) ?_
                  refine m_callO F e_X10_wordHere_20 (q_charAt (x_l X) V _ _ 47 (by omega)) cb_J0_charAt_5068e ml_X10_137 im_J0_charAt_5068e se_J0_charAt_5068e F.sw.2.2.2.2.2.2.1 rfl (rest := []) rfl (Nat.le_of_ble_eq_true rfl) ⟨Nat.le_of_ble_eq_true rfl, Nat.le_of_ble_eq_true rfl⟩ ⟨Nat.le_of_ble_eq_true rfl, Nat.le_of_ble_eq_true rfl⟩ (k' := 0) (z' := 0) (N' := N) rfl rfl rfl (fun r σ10887 hp => ?_)
                  obtain ⟨rfl, rfl⟩ := hp
                  refine Wm.topE (w := 32) (by decide) ?_
                  refine m_bipush F (v := 32) (by decide) e_X10_wordHere_23 ?_
                  refine m_icmp_eq F e_X10_wordHere_25 (fun _ => ?_) (fun q => absurd (by decide) q)
                  refine m_ldcS F e_X10_wordHere_69 F.sw.1.2.2 ?_
                  refine m_iload_n F rfl e_X10_wordHere_71 ?_
                  refine m_iload_n F rfl e_X10_wordHere_72 ?_
                  refine m_iadd F e_X10_wordHere_73 ?_
                  refine Wm.topE (w := 47) (by decide) ?_
                  refine m_callO F e_X10_wordHere_74 (q_charAt (x_l X) V _ _ 47 (by omega)) cb_J0_charAt_5068e ml_X10_137 im_J0_charAt_5068e se_J0_charAt_5068e F.sw.2.2.2.2.2.2.1 rfl (rest := []) rfl (Nat.le_of_ble_eq_true rfl) ⟨Nat.le_of_ble_eq_true rfl, Nat.le_of_ble_eq_true rfl⟩ ⟨Nat.le_of_ble_eq_true rfl, Nat.le_of_ble_eq_true rfl⟩ (k' := 0) (z' := 0) (N' := N) rfl rfl rfl (fun r σ10888 hp => ?_)
                  obtain ⟨rfl, rfl⟩ := hp
                  refine Wm.topE (w := 32) (by decide) ?_
                  refine m_bipush F (v := 32) (by decide) e_X10_wordHere_77 ?_
                  refine m_icmp_ne F e_X10_wordHere_79 (fun q => absurd (by decide) q) (fun _ => ?_)
                  refine m_aload_n F rfl e_X10_wordHere_82 ?_
                  refine r_getC F e_X10_wordHere_83 fl_X10_107 h1 (f20) ?_
                  refine m_iload_n F rfl e_X10_wordHere_86 ?_
                  refine m_iadd F e_X10_wordHere_87 ?_
                  refine Wm.topE (w := nI (st + 4)) (nI_add st 4) ?_
                  refine m_aload_n F rfl e_X10_wordHere_88 ?_
                  refine r_getC F e_X10_wordHere_89 fl_X10_97 h1 (f10854) ?_
                  refine m_icmp_ne F e_X10_wordHere_92 (fun q92 => ?_) (fun q92 => ?_)
                  · have c92 : (st + 4) ≠ P.a := by have hh := mt (nI_eq (a := (st + 4)) (b := P.a) (by omega) (by omega)).mpr q92; omega
                    refine Wm.lvsub (lv' := [(1, .int 8), (2, .int 43), (0, .ref c)]) ?_ [1, 2, 3] rfl
                    exact wk_8 F hQ h1 f20 hB hn7 hsa hpn hl hm (fun hz => by have z1 : P.a = st + 4 := hz.1; omega)
                  · have c92 : (st + 4) = P.a := (nI_eq (a := (st + 4)) (b := P.a) (by omega) (by omega)).mp q92
                    refine m_iload_n F rfl e_X10_wordHere_95 ?_
                    have hz : mw t st P.a 8 := by
                      refine ⟨(show P.a = st + 4 by omega), fun i hi => ?_⟩
                      have hi2 : i = 0 ∨ i = 1 ∨ i = 2 ∨ i = 3 := by have hi3 : i < 4 := hi; omega
                      rcases hi2 with rfl | rfl | rfl | rfl
                      · show t (st + 0) = 115; first | assumption | omega
                      · show t (st + 1) = 101; first | assumption | omega
                      · show t (st + 2) = 101; first | assumption | omega
                      · show t (st + 3) = 100; first | assumption | omega
                    have hy := kix_mw hsa hl (by decide) hz
                    exact m_iret F hQ e_X10_wordHere_96 ⟨h1, Or.inl ⟨hy.1, by rw [hy.2]; decide, by rw [hy.2]; rfl⟩⟩
set_option maxRecDepth 20000 in
theorem wk_7 {V : VX} {X : MX} {N : Nat} {σ : Mem} {c T Z u h : Nat} {P : NP} {L : Nat → LQ} {n st : Nat} {t : Nat → Nat} (F : Fx V X yX10_wordHere cX10_wordHere 4 (some .int) (rmd 4 0 0)) (hQ : Rt V X 0 0 N (fun r τ => HS V c (⟨T, Z, u, h, P, L⟩ : RG) [0, 1, 2, 3, 4, 5, 6, 7, 8, 9, 10, 11, 12, 13, 14, 15, 16, 17, 18, 19, 20, 21, 22, 23] σ τ ∧ ((P.a - st ≤ 6 ∧ kix (nmc t st P.a 6) < 9 ∧ r = some (.int (nI (kix (nmc t st P.a 6))))) ∨ (¬ (P.a - st ≤ 6 ∧ kix (nmc t st P.a 6) < 9) ∧ r = some (.int (-1)))))) (h1 : HS V c ⟨T, Z, u, h, P, L⟩ [0, 1, 2, 3, 4, 5, 6, 7, 8, 9, 10, 11, 12, 13, 14, 15, 16, 17, 18, 19, 20, 21, 22, 23] σ σ) (f20 : fld σ c 20 = some (.int (nI st))) (hB : BR σ c n t) (hn7 : n ≤ 700) (hsa : st < P.a) (hpn : P.a ≤ n) (hl : ∀ i, st ≤ i → i < P.a → isL (t i) = true) (hm : ∀ m, m < 7 → ¬ mw t st P.a m) (hz : ¬ mw t st P.a 7) : Wm V X 4 N σ 0 0 97 [(1, .int 7), (2, .int 36), (0, .ref c)] [] := by
  refine m_ldcS F e_X10_wordHere_97 F.sw.1.2.2 ?_
  refine m_iload_n F rfl e_X10_wordHere_99 ?_
  refine m_callO F e_X10_wordHere_100 (q_charAt (x_l X) V _ _ 36 (by omega)) cb_J0_charAt_5068e ml_X10_137 im_J0_charAt_5068e se_J0_charAt_5068e F.sw.2.2.2.2.2.2.1 rfl (rest := []) rfl (Nat.le_of_ble_eq_true rfl) ⟨Nat.le_of_ble_eq_true rfl, Nat.le_of_ble_eq_true rfl⟩ ⟨Nat.le_of_ble_eq_true rfl, Nat.le_of_ble_eq_true rfl⟩ (k' := 0) (z' := 0) (N' := N) rfl rfl rfl (fun r σ10889 hp => ?_)
  obtain ⟨rfl, rfl⟩ := hp
  refine Wm.topE (w := 111) (by decide) ?_
  refine m_bipush F (v := 32) (by decide) e_X10_wordHere_103 ?_
  refine m_icmp_eq F e_X10_wordHere_105 (fun q => absurd q (by decide)) (fun _ => ?_)
  refine m_iinc F (v := 37) (lv' := [(2, .int 37), (1, .int 7), (0, .ref c)]) e_X10_wordHere_108 rfl (by decide) (by decide) rfl ?_
  refine m_goto F e_X10_wordHere_111 ?_
  refine m_ldcS F e_X10_wordHere_97 F.sw.1.2.2 ?_
  refine m_iload_n F rfl e_X10_wordHere_99 ?_
  refine m_callO F e_X10_wordHere_100 (q_charAt (x_l X) V _ _ 37 (by omega)) cb_J0_charAt_5068e ml_X10_137 im_J0_charAt_5068e se_J0_charAt_5068e F.sw.2.2.2.2.2.2.1 rfl (rest := []) rfl (Nat.le_of_ble_eq_true rfl) ⟨Nat.le_of_ble_eq_true rfl, Nat.le_of_ble_eq_true rfl⟩ ⟨Nat.le_of_ble_eq_true rfl, Nat.le_of_ble_eq_true rfl⟩ (k' := 0) (z' := 0) (N' := N) rfl rfl rfl (fun r σ10890 hp => ?_)
  obtain ⟨rfl, rfl⟩ := hp
  refine Wm.topE (w := 112) (by decide) ?_
  refine m_bipush F (v := 32) (by decide) e_X10_wordHere_103 ?_
  refine m_icmp_eq F e_X10_wordHere_105 (fun q => absurd q (by decide)) (fun _ => ?_)
  refine m_iinc F (v := 38) (lv' := [(2, .int 38), (1, .int 7), (0, .ref c)]) e_X10_wordHere_108 rfl (by decide) (by decide) rfl ?_
  refine m_goto F e_X10_wordHere_111 ?_
  refine m_ldcS F e_X10_wordHere_97 F.sw.1.2.2 ?_
  refine m_iload_n F rfl e_X10_wordHere_99 ?_
  refine m_callO F e_X10_wordHere_100 (q_charAt (x_l X) V _ _ 38 (by omega)) cb_J0_charAt_5068e ml_X10_137 im_J0_charAt_5068e se_J0_charAt_5068e F.sw.2.2.2.2.2.2.1 rfl (rest := []) rfl (Nat.le_of_ble_eq_true rfl) ⟨Nat.le_of_ble_eq_true rfl, Nat.le_of_ble_eq_true rfl⟩ ⟨Nat.le_of_ble_eq_true rfl, Nat.le_of_ble_eq_true rfl⟩ (k' := 0) (z' := 0) (N' := N) rfl rfl rfl (fun r σ10891 hp => ?_)
  obtain ⟨rfl, rfl⟩ := hp
  refine Wm.topE (w := 116) (by decide) ?_
  refine m_bipush F (v := 32) (by decide) e_X10_wordHere_103 ?_
  refine m_icmp_eq F e_X10_wordHere_105 (fun q => absurd q (by decide)) (fun _ => ?_)
  refine m_iinc F (v := 39) (lv' := [(2, .int 39), (1, .int 7), (0, .ref c)]) e_X10_wordHere_108 rfl (by decide) (by decide) rfl ?_
  refine m_goto F e_X10_wordHere_111 ?_
  refine m_ldcS F e_X10_wordHere_97 F.sw.1.2.2 ?_
  refine m_iload_n F rfl e_X10_wordHere_99 ?_
  refine m_callO F e_X10_wordHere_100 (q_charAt (x_l X) V _ _ 39 (by omega)) cb_J0_charAt_5068e ml_X10_137 im_J0_charAt_5068e se_J0_charAt_5068e F.sw.2.2.2.2.2.2.1 rfl (rest := []) rfl (Nat.le_of_ble_eq_true rfl) ⟨Nat.le_of_ble_eq_true rfl, Nat.le_of_ble_eq_true rfl⟩ ⟨Nat.le_of_ble_eq_true rfl, Nat.le_of_ble_eq_true rfl⟩ (k' := 0) (z' := 0) (N' := N) rfl rfl rfl (fun r σ10892 hp => ?_)
  obtain ⟨rfl, rfl⟩ := hp
  refine Wm.topE (w := 105) (by decide) ?_
  refine m_bipush F (v := 32) (by decide) e_X10_wordHere_103 ?_
  refine m_icmp_eq F e_X10_wordHere_105 (fun q => absurd q (by decide)) (fun _ => ?_)
  refine m_iinc F (v := 40) (lv' := [(2, .int 40), (1, .int 7), (0, .ref c)]) e_X10_wordHere_108 rfl (by decide) (by decide) rfl ?_
  refine m_goto F e_X10_wordHere_111 ?_
  refine m_ldcS F e_X10_wordHere_97 F.sw.1.2.2 ?_
  refine m_iload_n F rfl e_X10_wordHere_99 ?_
  refine m_callO F e_X10_wordHere_100 (q_charAt (x_l X) V _ _ 40 (by omega)) cb_J0_charAt_5068e ml_X10_137 im_J0_charAt_5068e se_J0_charAt_5068e F.sw.2.2.2.2.2.2.1 rfl (rest := []) rfl (Nat.le_of_ble_eq_true rfl) ⟨Nat.le_of_ble_eq_true rfl, Nat.le_of_ble_eq_true rfl⟩ ⟨Nat.le_of_ble_eq_true rfl, Nat.le_of_ble_eq_true rfl⟩ (k' := 0) (z' := 0) (N' := N) rfl rfl rfl (fun r σ10893 hp => ?_)
  obtain ⟨rfl, rfl⟩ := hp
  refine Wm.topE (w := 111) (by decide) ?_
  refine m_bipush F (v := 32) (by decide) e_X10_wordHere_103 ?_
  refine m_icmp_eq F e_X10_wordHere_105 (fun q => absurd q (by decide)) (fun _ => ?_)
  refine m_iinc F (v := 41) (lv' := [(2, .int 41), (1, .int 7), (0, .ref c)]) e_X10_wordHere_108 rfl (by decide) (by decide) rfl ?_
  refine m_goto F e_X10_wordHere_111 ?_
  refine m_ldcS F e_X10_wordHere_97 F.sw.1.2.2 ?_
  refine m_iload_n F rfl e_X10_wordHere_99 ?_
  refine m_callO F e_X10_wordHere_100 (q_charAt (x_l X) V _ _ 41 (by omega)) cb_J0_charAt_5068e ml_X10_137 im_J0_charAt_5068e se_J0_charAt_5068e F.sw.2.2.2.2.2.2.1 rfl (rest := []) rfl (Nat.le_of_ble_eq_true rfl) ⟨Nat.le_of_ble_eq_true rfl, Nat.le_of_ble_eq_true rfl⟩ ⟨Nat.le_of_ble_eq_true rfl, Nat.le_of_ble_eq_true rfl⟩ (k' := 0) (z' := 0) (N' := N) rfl rfl rfl (fun r σ10894 hp => ?_)
  obtain ⟨rfl, rfl⟩ := hp
  refine Wm.topE (w := 110) (by decide) ?_
  refine m_bipush F (v := 32) (by decide) e_X10_wordHere_103 ?_
  refine m_icmp_eq F e_X10_wordHere_105 (fun q => absurd q (by decide)) (fun _ => ?_)
  refine m_iinc F (v := 42) (lv' := [(2, .int 42), (1, .int 7), (0, .ref c)]) e_X10_wordHere_108 rfl (by decide) (by decide) rfl ?_
  refine m_goto F e_X10_wordHere_111 ?_
  refine m_ldcS F e_X10_wordHere_97 F.sw.1.2.2 ?_
  refine m_iload_n F rfl e_X10_wordHere_99 ?_
  refine m_callO F e_X10_wordHere_100 (q_charAt (x_l X) V _ _ 42 (by omega)) cb_J0_charAt_5068e ml_X10_137 im_J0_charAt_5068e se_J0_charAt_5068e F.sw.2.2.2.2.2.2.1 rfl (rest := []) rfl (Nat.le_of_ble_eq_true rfl) ⟨Nat.le_of_ble_eq_true rfl, Nat.le_of_ble_eq_true rfl⟩ ⟨Nat.le_of_ble_eq_true rfl, Nat.le_of_ble_eq_true rfl⟩ (k' := 0) (z' := 0) (N' := N) rfl rfl rfl (fun r σ10895 hp => ?_)
  obtain ⟨rfl, rfl⟩ := hp
  refine Wm.topE (w := 32) (by decide) ?_
  refine m_bipush F (v := 32) (by decide) e_X10_wordHere_103 ?_
  refine m_icmp_eq F e_X10_wordHere_105 (fun _ => ?_) (fun q => absurd (by decide) q)
  refine m_iinc F (v := 43) (lv' := [(2, .int 43), (1, .int 7), (0, .ref c)]) e_X10_wordHere_114 rfl (by decide) (by decide) rfl ?_
  refine m_iinc F (v := 8) (lv' := [(1, .int 8), (2, .int 43), (0, .ref c)]) e_X10_wordHere_117 rfl (by decide) (by decide) rfl ?_
  refine m_goto F e_X10_wordHere_120 ?_
  exact wh_8 F hQ h1 f20 hB hn7 hsa hpn hl (fun m9 h9 => if e9 : m9 = 7 then e9 ▸ hz else hm m9 (by omega))
set_option maxRecDepth 20000 in
theorem wh_7 {V : VX} {X : MX} {N : Nat} {σ : Mem} {c T Z u h : Nat} {P : NP} {L : Nat → LQ} {n st : Nat} {t : Nat → Nat} (F : Fx V X yX10_wordHere cX10_wordHere 4 (some .int) (rmd 4 0 0)) (hQ : Rt V X 0 0 N (fun r τ => HS V c (⟨T, Z, u, h, P, L⟩ : RG) [0, 1, 2, 3, 4, 5, 6, 7, 8, 9, 10, 11, 12, 13, 14, 15, 16, 17, 18, 19, 20, 21, 22, 23] σ τ ∧ ((P.a - st ≤ 6 ∧ kix (nmc t st P.a 6) < 9 ∧ r = some (.int (nI (kix (nmc t st P.a 6))))) ∨ (¬ (P.a - st ≤ 6 ∧ kix (nmc t st P.a 6) < 9) ∧ r = some (.int (-1)))))) (h1 : HS V c ⟨T, Z, u, h, P, L⟩ [0, 1, 2, 3, 4, 5, 6, 7, 8, 9, 10, 11, 12, 13, 14, 15, 16, 17, 18, 19, 20, 21, 22, 23] σ σ) (f20 : fld σ c 20 = some (.int (nI st))) (hB : BR σ c n t) (hn7 : n ≤ 700) (hsa : st < P.a) (hpn : P.a ≤ n) (hl : ∀ i, st ≤ i → i < P.a → isL (t i) = true) (hm : ∀ m, m < 7 → ¬ mw t st P.a m) : Wm V X 4 N σ 0 0 4 [(1, .int 7), (2, .int 36), (0, .ref c)] [] := by
  refine m_iload_n F rfl e_X10_wordHere_4 ?_
  refine m_ldcS F e_X10_wordHere_5 F.sw.1.2.2 ?_
  refine m_callO F e_X10_wordHere_7 (q_length (x_l X) V _ _) cb_J0_length_8abf5 ml_X10_132 im_J0_length_8abf5 se_J0_length_8abf5 F.sw.2.2.2.2.2.2.1 rfl (rest := [.int 36]) rfl (Nat.le_of_ble_eq_true rfl) ⟨Nat.le_of_ble_eq_true rfl, Nat.le_of_ble_eq_true rfl⟩ ⟨Nat.le_of_ble_eq_true rfl, Nat.le_of_ble_eq_true rfl⟩ (k' := 0) (z' := 0) (N' := N) rfl rfl rfl (fun r σ10896 hp => ?_)
  obtain ⟨rfl, rfl⟩ := hp
  refine m_icmp_ge F e_X10_wordHere_10 (fun q => absurd q (by decide)) (fun _ => ?_)
  refine m_iconst F (v := 0) (by decide) e_X10_wordHere_13 ?_
  refine m_istore_n F (lv' := [(3, .int 0), (1, .int 7), (2, .int 36), (0, .ref c)]) e_X10_wordHere_14 (by decide) rfl ?_
  refine m_ldcS F e_X10_wordHere_15 F.sw.1.2.2 ?_
  refine m_iload_n F rfl e_X10_wordHere_17 ?_
  refine m_iload_n F rfl e_X10_wordHere_18 ?_
  refine m_iadd F e_X10_wordHere_19 ?_
  refine Wm.topE (w := 36) (by decide) ?_
  refine m_callO F e_X10_wordHere_20 (q_charAt (x_l X) V _ _ 36 (by omega)) cb_J0_charAt_5068e ml_X10_137 im_J0_charAt_5068e se_J0_charAt_5068e F.sw.2.2.2.2.2.2.1 rfl (rest := []) rfl (Nat.le_of_ble_eq_true rfl) ⟨Nat.le_of_ble_eq_true rfl, Nat.le_of_ble_eq_true rfl⟩ ⟨Nat.le_of_ble_eq_true rfl, Nat.le_of_ble_eq_true rfl⟩ (k' := 0) (z' := 0) (N' := N) rfl rfl rfl (fun r σ10897 hp => ?_)
  obtain ⟨rfl, rfl⟩ := hp
  refine Wm.topE (w := 111) (by decide) ?_
  refine m_bipush F (v := 32) (by decide) e_X10_wordHere_23 ?_
  refine m_icmp_eq F e_X10_wordHere_25 (fun q => absurd q (by decide)) (fun _ => ?_)
  refine m_aload_n F rfl e_X10_wordHere_28 ?_
  refine r_getC F e_X10_wordHere_29 fl_X10_107 h1 (f20) ?_
  refine m_iload_n F rfl e_X10_wordHere_32 ?_
  refine m_iadd F e_X10_wordHere_33 ?_
  refine Wm.topE (w := nI st) (nI_add st 0) ?_
  refine m_aload_n F rfl e_X10_wordHere_34 ?_
  refine r_get F e_X10_wordHere_35 fl_X10_97 h1 rfl (fun v hv f10898 => ?_)
  obtain rfl : v = .int (nI (P.a)) := hv
  refine m_icmp_ge F e_X10_wordHere_38 (fun q38 => ?_) (fun q38 => ?_)
  · have c38 : st ≥ P.a := (nI_leI (a := P.a) (b := st) (by omega) (by omega)).mp q38
    refine m_ldcS F e_X10_wordHere_69 F.sw.1.2.2 ?_
    refine m_iload_n F rfl e_X10_wordHere_71 ?_
    refine m_iload_n F rfl e_X10_wordHere_72 ?_
    refine m_iadd F e_X10_wordHere_73 ?_
    refine Wm.topE (w := 36) (by decide) ?_
    refine m_callO F e_X10_wordHere_74 (q_charAt (x_l X) V _ _ 36 (by omega)) cb_J0_charAt_5068e ml_X10_137 im_J0_charAt_5068e se_J0_charAt_5068e F.sw.2.2.2.2.2.2.1 rfl (rest := []) rfl (Nat.le_of_ble_eq_true rfl) ⟨Nat.le_of_ble_eq_true rfl, Nat.le_of_ble_eq_true rfl⟩ ⟨Nat.le_of_ble_eq_true rfl, Nat.le_of_ble_eq_true rfl⟩ (k' := 0) (z' := 0) (N' := N) rfl rfl rfl (fun r σ10899 hp => ?_)
    obtain ⟨rfl, rfl⟩ := hp
    refine Wm.topE (w := 111) (by decide) ?_
    refine m_bipush F (v := 32) (by decide) e_X10_wordHere_77 ?_
    refine m_icmp_ne F e_X10_wordHere_79 (fun _ => ?_) (fun q => absurd q (by decide))
    refine Wm.lvsub (lv' := [(1, .int 7), (2, .int 36), (0, .ref c)]) ?_ [1, 2, 3] rfl
    exact wk_7 F hQ h1 f20 hB hn7 hsa hpn hl hm (fun hz => by have z1 : P.a = st + 6 := hz.1; have z2 : t (st) = 111 := hz.2 0 (by decide); omega)
  · have c38 : st < P.a := by have hh := mt (nI_leI (a := P.a) (b := st) (by omega) (by omega)).mpr q38; omega
    refine m_aload_n F rfl e_X10_wordHere_41 ?_
    refine r_get F e_X10_wordHere_42 fl_X10_7 h1 rfl (fun v hv f10900 => ?_)
    obtain rfl : v = .ref (c + 1) := hv
    refine m_aload_n F rfl e_X10_wordHere_45 ?_
    refine r_getC F e_X10_wordHere_46 fl_X10_107 h1 (f20) ?_
    refine m_iload_n F rfl e_X10_wordHere_49 ?_
    refine m_iadd F e_X10_wordHere_50 ?_
    refine Wm.topE (w := nI st) (nI_add st 0) ?_
    have hb10901 := (hB st (by omega)).1
    refine r_iald F (len := 700) (j := st) e_X10_wordHere_51 h1 (fun _ h => h) (by decide) (nI_clamp (by omega)) (vp_in_nI (by omega) (by decide)) (fun x10902 h10903 f10904 => ?_)
    obtain rfl := Option.some.inj ((f10904).symm.trans ((hB st (by omega)).2))
    refine m_ldcS F e_X10_wordHere_52 F.sw.1.2.2 ?_
    refine m_iload_n F rfl e_X10_wordHere_54 ?_
    refine m_iload_n F rfl e_X10_wordHere_55 ?_
    refine m_iadd F e_X10_wordHere_56 ?_
    refine Wm.topE (w := 36) (by decide) ?_
    refine m_callO F e_X10_wordHere_57 (q_charAt (x_l X) V _ _ 36 (by omega)) cb_J0_charAt_5068e ml_X10_137 im_J0_charAt_5068e se_J0_charAt_5068e F.sw.2.2.2.2.2.2.1 rfl (rest := [.int (nI (t st))]) rfl (Nat.le_of_ble_eq_true rfl) ⟨Nat.le_of_ble_eq_true rfl, Nat.le_of_ble_eq_true rfl⟩ ⟨Nat.le_of_ble_eq_true rfl, Nat.le_of_ble_eq_true rfl⟩ (k' := 0) (z' := 0) (N' := N) rfl rfl rfl (fun r σ10905 hp => ?_)
    obtain ⟨rfl, rfl⟩ := hp
    refine Wm.topE (w := 111) (by decide) ?_
    refine m_icmp_ne F e_X10_wordHere_60 (fun q60 => ?_) (fun q60 => ?_)
    · have c60 : (t st) ≠ 111 := by have hh := mt (nI_eq (a := (t st)) (b := 111) (by omega) (by omega)).mpr q60; omega
      refine m_ldcS F e_X10_wordHere_69 F.sw.1.2.2 ?_
      refine m_iload_n F rfl e_X10_wordHere_71 ?_
      refine m_iload_n F rfl e_X10_wordHere_72 ?_
      refine m_iadd F e_X10_wordHere_73 ?_
      refine Wm.topE (w := 36) (by decide) ?_
      refine m_callO F e_X10_wordHere_74 (q_charAt (x_l X) V _ _ 36 (by omega)) cb_J0_charAt_5068e ml_X10_137 im_J0_charAt_5068e se_J0_charAt_5068e F.sw.2.2.2.2.2.2.1 rfl (rest := []) rfl (Nat.le_of_ble_eq_true rfl) ⟨Nat.le_of_ble_eq_true rfl, Nat.le_of_ble_eq_true rfl⟩ ⟨Nat.le_of_ble_eq_true rfl, Nat.le_of_ble_eq_true rfl⟩ (k' := 0) (z' := 0) (N' := N) rfl rfl rfl (fun r σ10906 hp => ?_)
      obtain ⟨rfl, rfl⟩ := hp
      refine Wm.topE (w := 111) (by decide) ?_
      refine m_bipush F (v := 32) (by decide) e_X10_wordHere_77 ?_
      refine m_icmp_ne F e_X10_wordHere_79 (fun _ => ?_) (fun q => absurd q (by decide))
      refine Wm.lvsub (lv' := [(1, .int 7), (2, .int 36), (0, .ref c)]) ?_ [1, 2, 3] rfl
      exact wk_7 F hQ h1 f20 hB hn7 hsa hpn hl hm (fun hz => by have z1 : P.a = st + 6 := hz.1; have z2 : t (st) = 111 := hz.2 0 (by decide); omega)
    · have c60 : (t st) = 111 := (nI_eq (a := (t st)) (b := 111) (by omega) (by omega)).mp q60
      refine m_iinc F (v := 1) (lv' := [(3, .int 1), (1, .int 7), (2, .int 36), (0, .ref c)]) e_X10_wordHere_63 rfl (by decide) (by decide) rfl ?_
      refine m_goto F e_X10_wordHere_66 ?_
      refine m_ldcS F e_X10_wordHere_15 F.sw.1.2.2 ?_
      refine m_iload_n F rfl e_X10_wordHere_17 ?_
      refine m_iload_n F rfl e_X10_wordHere_18 ?_
      refine m_iadd F e_X10_wordHere_19 ?_
      refine Wm.topE (w := 37) (by decide) ?_
      refine m_callO F e_X10_wordHere_20 (q_charAt (x_l X) V _ _ 37 (by omega)) cb_J0_charAt_5068e ml_X10_137 im_J0_charAt_5068e se_J0_charAt_5068e F.sw.2.2.2.2.2.2.1 rfl (rest := []) rfl (Nat.le_of_ble_eq_true rfl) ⟨Nat.le_of_ble_eq_true rfl, Nat.le_of_ble_eq_true rfl⟩ ⟨Nat.le_of_ble_eq_true rfl, Nat.le_of_ble_eq_true rfl⟩ (k' := 0) (z' := 0) (N' := N) rfl rfl rfl (fun r σ10907 hp => ?_)
      obtain ⟨rfl, rfl⟩ := hp
      refine Wm.topE (w := 112) (by decide) ?_
      refine m_bipush F (v := 32) (by decide) e_X10_wordHere_23 ?_
      refine m_icmp_eq F e_X10_wordHere_25 (fun q => absurd q (by decide)) (fun _ => ?_)
      refine m_aload_n F rfl e_X10_wordHere_28 ?_
      refine r_getC F e_X10_wordHere_29 fl_X10_107 h1 (f20) ?_
      refine m_iload_n F rfl e_X10_wordHere_32 ?_
      refine m_iadd F e_X10_wordHere_33 ?_
      refine Wm.topE (w := nI (st + 1)) (nI_add st 1) ?_
      refine m_aload_n F rfl e_X10_wordHere_34 ?_
      refine r_getC F e_X10_wordHere_35 fl_X10_97 h1 (f10898) ?_
      refine m_icmp_ge F e_X10_wordHere_38 (fun q38 => ?_) (fun q38 => ?_)
      · have c38 : (st + 1) ≥ P.a := (nI_leI (a := P.a) (b := (st + 1)) (by omega) (by omega)).mp q38
        refine m_ldcS F e_X10_wordHere_69 F.sw.1.2.2 ?_
        refine m_iload_n F rfl e_X10_wordHere_71 ?_
        refine m_iload_n F rfl e_X10_wordHere_72 ?_
        refine m_iadd F e_X10_wordHere_73 ?_
        refine Wm.topE (w := 37) (by decide) ?_
        refine m_callO F e_X10_wordHere_74 (q_charAt (x_l X) V _ _ 37 (by omega)) cb_J0_charAt_5068e ml_X10_137 im_J0_charAt_5068e se_J0_charAt_5068e F.sw.2.2.2.2.2.2.1 rfl (rest := []) rfl (Nat.le_of_ble_eq_true rfl) ⟨Nat.le_of_ble_eq_true rfl, Nat.le_of_ble_eq_true rfl⟩ ⟨Nat.le_of_ble_eq_true rfl, Nat.le_of_ble_eq_true rfl⟩ (k' := 0) (z' := 0) (N' := N) rfl rfl rfl (fun r σ10908 hp => ?_)
        obtain ⟨rfl, rfl⟩ := hp
        refine Wm.topE (w := 112) (by decide) ?_
        refine m_bipush F (v := 32) (by decide) e_X10_wordHere_77 ?_
        refine m_icmp_ne F e_X10_wordHere_79 (fun _ => ?_) (fun q => absurd q (by decide))
        refine Wm.lvsub (lv' := [(1, .int 7), (2, .int 36), (0, .ref c)]) ?_ [1, 2, 3] rfl
        exact wk_7 F hQ h1 f20 hB hn7 hsa hpn hl hm (fun hz => by have z1 : P.a = st + 6 := hz.1; have z2 : t (st + 1) = 112 := hz.2 1 (by decide); omega)
      · have c38 : (st + 1) < P.a := by have hh := mt (nI_leI (a := P.a) (b := (st + 1)) (by omega) (by omega)).mpr q38; omega
        refine m_aload_n F rfl e_X10_wordHere_41 ?_
        refine r_getC F e_X10_wordHere_42 fl_X10_7 h1 (f10900) ?_
        refine m_aload_n F rfl e_X10_wordHere_45 ?_
        refine r_getC F e_X10_wordHere_46 fl_X10_107 h1 (f20) ?_
        refine m_iload_n F rfl e_X10_wordHere_49 ?_
        refine m_iadd F e_X10_wordHere_50 ?_
        refine Wm.topE (w := nI (st + 1)) (nI_add st 1) ?_
        have hb10909 := (hB (st + 1) (by omega)).1
        refine r_iald F (len := 700) (j := st + 1) e_X10_wordHere_51 h1 (fun _ h => h) (by decide) (nI_clamp (by omega)) (vp_in_nI (by omega) (by decide)) (fun x10910 h10911 f10912 => ?_)
        obtain rfl := Option.some.inj ((f10912).symm.trans ((hB (st + 1) (by omega)).2))
        refine m_ldcS F e_X10_wordHere_52 F.sw.1.2.2 ?_
        refine m_iload_n F rfl e_X10_wordHere_54 ?_
        refine m_iload_n F rfl e_X10_wordHere_55 ?_
        refine m_iadd F e_X10_wordHere_56 ?_
        refine Wm.topE (w := 37) (by decide) ?_
        refine m_callO F e_X10_wordHere_57 (q_charAt (x_l X) V _ _ 37 (by omega)) cb_J0_charAt_5068e ml_X10_137 im_J0_charAt_5068e se_J0_charAt_5068e F.sw.2.2.2.2.2.2.1 rfl (rest := [.int (nI (t (st + 1)))]) rfl (Nat.le_of_ble_eq_true rfl) ⟨Nat.le_of_ble_eq_true rfl, Nat.le_of_ble_eq_true rfl⟩ ⟨Nat.le_of_ble_eq_true rfl, Nat.le_of_ble_eq_true rfl⟩ (k' := 0) (z' := 0) (N' := N) rfl rfl rfl (fun r σ10913 hp => ?_)
        obtain ⟨rfl, rfl⟩ := hp
        refine Wm.topE (w := 112) (by decide) ?_
        refine m_icmp_ne F e_X10_wordHere_60 (fun q60 => ?_) (fun q60 => ?_)
        · have c60 : (t (st + 1)) ≠ 112 := by have hh := mt (nI_eq (a := (t (st + 1))) (b := 112) (by omega) (by omega)).mpr q60; omega
          refine m_ldcS F e_X10_wordHere_69 F.sw.1.2.2 ?_
          refine m_iload_n F rfl e_X10_wordHere_71 ?_
          refine m_iload_n F rfl e_X10_wordHere_72 ?_
          refine m_iadd F e_X10_wordHere_73 ?_
          refine Wm.topE (w := 37) (by decide) ?_
          refine m_callO F e_X10_wordHere_74 (q_charAt (x_l X) V _ _ 37 (by omega)) cb_J0_charAt_5068e ml_X10_137 im_J0_charAt_5068e se_J0_charAt_5068e F.sw.2.2.2.2.2.2.1 rfl (rest := []) rfl (Nat.le_of_ble_eq_true rfl) ⟨Nat.le_of_ble_eq_true rfl, Nat.le_of_ble_eq_true rfl⟩ ⟨Nat.le_of_ble_eq_true rfl, Nat.le_of_ble_eq_true rfl⟩ (k' := 0) (z' := 0) (N' := N) rfl rfl rfl (fun r σ10914 hp => ?_)
          obtain ⟨rfl, rfl⟩ := hp
          refine Wm.topE (w := 112) (by decide) ?_
          refine m_bipush F (v := 32) (by decide) e_X10_wordHere_77 ?_
          refine m_icmp_ne F e_X10_wordHere_79 (fun _ => ?_) (fun q => absurd q (by decide))
          refine Wm.lvsub (lv' := [(1, .int 7), (2, .int 36), (0, .ref c)]) ?_ [1, 2, 3] rfl
          exact wk_7 F hQ h1 f20 hB hn7 hsa hpn hl hm (fun hz => by have z1 : P.a = st + 6 := hz.1; have z2 : t (st + 1) = 112 := hz.2 1 (by decide); omega)
        · have c60 : (t (st + 1)) = 112 := (nI_eq (a := (t (st + 1))) (b := 112) (by omega) (by omega)).mp q60
          refine m_iinc F (v := 2) (lv' := [(3, .int 2), (1, .int 7), (2, .int 36), (0, .ref c)]) e_X10_wordHere_63 rfl (by decide) (by decide) rfl ?_
          refine m_goto F e_X10_wordHere_66 ?_
          refine m_ldcS F e_X10_wordHere_15 F.sw.1.2.2 ?_
          refine m_iload_n F rfl e_X10_wordHere_17 ?_
          refine m_iload_n F rfl e_X10_wordHere_18 ?_
          refine m_iadd F e_X10_wordHere_19 ?_
          refine Wm.topE (w := 38) (by decide) ?_
          refine m_callO F e_X10_wordHere_20 (q_charAt (x_l X) V _ _ 38 (by omega)) cb_J0_charAt_5068e ml_X10_137 im_J0_charAt_5068e se_J0_charAt_5068e F.sw.2.2.2.2.2.2.1 rfl (rest := []) rfl (Nat.le_of_ble_eq_true rfl) ⟨Nat.le_of_ble_eq_true rfl, Nat.le_of_ble_eq_true rfl⟩ ⟨Nat.le_of_ble_eq_true rfl, Nat.le_of_ble_eq_true rfl⟩ (k' := 0) (z' := 0) (N' := N) rfl rfl rfl (fun r σ10915 hp => ?_)
          obtain ⟨rfl, rfl⟩ := hp
          refine Wm.topE (w := 116) (by decide) ?_
          refine m_bipush F (v := 32) (by decide) e_X10_wordHere_23 ?_
          refine m_icmp_eq F e_X10_wordHere_25 (fun q => absurd q (by decide)) (fun _ => ?_)
          refine m_aload_n F rfl e_X10_wordHere_28 ?_
          refine r_getC F e_X10_wordHere_29 fl_X10_107 h1 (f20) ?_
          refine m_iload_n F rfl e_X10_wordHere_32 ?_
          refine m_iadd F e_X10_wordHere_33 ?_
          refine Wm.topE (w := nI (st + 2)) (nI_add st 2) ?_
          refine m_aload_n F rfl e_X10_wordHere_34 ?_
          refine r_getC F e_X10_wordHere_35 fl_X10_97 h1 (f10898) ?_
          refine m_icmp_ge F e_X10_wordHere_38 (fun q38 => ?_) (fun q38 => ?_)
          · have c38 : (st + 2) ≥ P.a := (nI_leI (a := P.a) (b := (st + 2)) (by omega) (by omega)).mp q38
            refine m_ldcS F e_X10_wordHere_69 F.sw.1.2.2 ?_
            refine m_iload_n F rfl e_X10_wordHere_71 ?_
            refine m_iload_n F rfl e_X10_wordHere_72 ?_
            refine m_iadd F e_X10_wordHere_73 ?_
            refine Wm.topE (w := 38) (by decide) ?_
            refine m_callO F e_X10_wordHere_74 (q_charAt (x_l X) V _ _ 38 (by omega)) cb_J0_charAt_5068e ml_X10_137 im_J0_charAt_5068e se_J0_charAt_5068e F.sw.2.2.2.2.2.2.1 rfl (rest := []) rfl (Nat.le_of_ble_eq_true rfl) ⟨Nat.le_of_ble_eq_true rfl, Nat.le_of_ble_eq_true rfl⟩ ⟨Nat.le_of_ble_eq_true rfl, Nat.le_of_ble_eq_true rfl⟩ (k' := 0) (z' := 0) (N' := N) rfl rfl rfl (fun r σ10916 hp => ?_)
            obtain ⟨rfl, rfl⟩ := hp
            refine Wm.topE (w := 116) (by decide) ?_
            refine m_bipush F (v := 32) (by decide) e_X10_wordHere_77 ?_
            refine m_icmp_ne F e_X10_wordHere_79 (fun _ => ?_) (fun q => absurd q (by decide))
            refine Wm.lvsub (lv' := [(1, .int 7), (2, .int 36), (0, .ref c)]) ?_ [1, 2, 3] rfl
            exact wk_7 F hQ h1 f20 hB hn7 hsa hpn hl hm (fun hz => by have z1 : P.a = st + 6 := hz.1; have z2 : t (st + 2) = 116 := hz.2 2 (by decide); omega)
          · have c38 : (st + 2) < P.a := by have hh := mt (nI_leI (a := P.a) (b := (st + 2)) (by omega) (by omega)).mpr q38; omega
            refine m_aload_n F rfl e_X10_wordHere_41 ?_
            refine r_getC F e_X10_wordHere_42 fl_X10_7 h1 (f10900) ?_
            refine m_aload_n F rfl e_X10_wordHere_45 ?_
            refine r_getC F e_X10_wordHere_46 fl_X10_107 h1 (f20) ?_
            refine m_iload_n F rfl e_X10_wordHere_49 ?_
            refine m_iadd F e_X10_wordHere_50 ?_
            refine Wm.topE (w := nI (st + 2)) (nI_add st 2) ?_
            have hb10917 := (hB (st + 2) (by omega)).1
            refine r_iald F (len := 700) (j := st + 2) e_X10_wordHere_51 h1 (fun _ h => h) (by decide) (nI_clamp (by omega)) (vp_in_nI (by omega) (by decide)) (fun x10918 h10919 f10920 => ?_)
            obtain rfl := Option.some.inj ((f10920).symm.trans ((hB (st + 2) (by omega)).2))
            refine m_ldcS F e_X10_wordHere_52 F.sw.1.2.2 ?_
            refine m_iload_n F rfl e_X10_wordHere_54 ?_
            refine m_iload_n F rfl e_X10_wordHere_55 ?_
            refine m_iadd F e_X10_wordHere_56 ?_
            refine Wm.topE (w := 38) (by decide) ?_
            refine m_callO F e_X10_wordHere_57 (q_charAt (x_l X) V _ _ 38 (by omega)) cb_J0_charAt_5068e ml_X10_137 im_J0_charAt_5068e se_J0_charAt_5068e F.sw.2.2.2.2.2.2.1 rfl (rest := [.int (nI (t (st + 2)))]) rfl (Nat.le_of_ble_eq_true rfl) ⟨Nat.le_of_ble_eq_true rfl, Nat.le_of_ble_eq_true rfl⟩ ⟨Nat.le_of_ble_eq_true rfl, Nat.le_of_ble_eq_true rfl⟩ (k' := 0) (z' := 0) (N' := N) rfl rfl rfl (fun r σ10921 hp => ?_)
            obtain ⟨rfl, rfl⟩ := hp
            refine Wm.topE (w := 116) (by decide) ?_
            refine m_icmp_ne F e_X10_wordHere_60 (fun q60 => ?_) (fun q60 => ?_)
            · have c60 : (t (st + 2)) ≠ 116 := by have hh := mt (nI_eq (a := (t (st + 2))) (b := 116) (by omega) (by omega)).mpr q60; omega
              refine m_ldcS F e_X10_wordHere_69 F.sw.1.2.2 ?_
              refine m_iload_n F rfl e_X10_wordHere_71 ?_
              refine m_iload_n F rfl e_X10_wordHere_72 ?_
              refine m_iadd F e_X10_wordHere_73 ?_
              refine Wm.topE (w := 38) (by decide) ?_
              refine m_callO F e_X10_wordHere_74 (q_charAt (x_l X) V _ _ 38 (by omega)) cb_J0_charAt_5068e ml_X10_137 im_J0_charAt_5068e se_J0_charAt_5068e F.sw.2.2.2.2.2.2.1 rfl (rest := []) rfl (Nat.le_of_ble_eq_true rfl) ⟨Nat.le_of_ble_eq_true rfl, Nat.le_of_ble_eq_true rfl⟩ ⟨Nat.le_of_ble_eq_true rfl, Nat.le_of_ble_eq_true rfl⟩ (k' := 0) (z' := 0) (N' := N) rfl rfl rfl (fun r σ10922 hp => ?_)
              obtain ⟨rfl, rfl⟩ := hp
              refine Wm.topE (w := 116) (by decide) ?_
              refine m_bipush F (v := 32) (by decide) e_X10_wordHere_77 ?_
              refine m_icmp_ne F e_X10_wordHere_79 (fun _ => ?_) (fun q => absurd q (by decide))
              refine Wm.lvsub (lv' := [(1, .int 7), (2, .int 36), (0, .ref c)]) ?_ [1, 2, 3] rfl
              exact wk_7 F hQ h1 f20 hB hn7 hsa hpn hl hm (fun hz => by have z1 : P.a = st + 6 := hz.1; have z2 : t (st + 2) = 116 := hz.2 2 (by decide); omega)
            · have c60 : (t (st + 2)) = 116 := (nI_eq (a := (t (st + 2))) (b := 116) (by omega) (by omega)).mp q60
              refine m_iinc F (v := 3) (lv' := [(3, .int 3), (1, .int 7), (2, .int 36), (0, .ref c)]) e_X10_wordHere_63 rfl (by decide) (by decide) rfl ?_
              refine m_goto F e_X10_wordHere_66 ?_
              refine m_ldcS F e_X10_wordHere_15 F.sw.1.2.2 ?_
              refine m_iload_n F rfl e_X10_wordHere_17 ?_
              refine m_iload_n F rfl e_X10_wordHere_18 ?_
              refine m_iadd F e_X10_wordHere_19 ?_
              refine Wm.topE (w := 39) (by decide) ?_
              refine m_callO F e_X10_wordHere_20 (q_charAt (x_l X) V _ _ 39 (by omega)) cb_J0_charAt_5068e ml_X10_137 im_J0_charAt_5068e se_J0_charAt_5068e F.sw.2.2.2.2.2.2.1 rfl (rest := []) rfl (Nat.le_of_ble_eq_true rfl) ⟨Nat.le_of_ble_eq_true rfl, Nat.le_of_ble_eq_true rfl⟩ ⟨Nat.le_of_ble_eq_true rfl, Nat.le_of_ble_eq_true rfl⟩ (k' := 0) (z' := 0) (N' := N) rfl rfl rfl (fun r σ10923 hp => ?_)
              obtain ⟨rfl, rfl⟩ := hp
              refine Wm.topE (w := 105) (by decide) ?_
              refine m_bipush F (v := 32) (by decide) e_X10_wordHere_23 ?_
              refine m_icmp_eq F e_X10_wordHere_25 (fun q => absurd q (by decide)) (fun _ => ?_)
              refine m_aload_n F rfl e_X10_wordHere_28 ?_
              refine r_getC F e_X10_wordHere_29 fl_X10_107 h1 (f20) ?_
              refine m_iload_n F rfl e_X10_wordHere_32 ?_
              refine m_iadd F e_X10_wordHere_33 ?_
              refine Wm.topE (w := nI (st + 3)) (nI_add st 3) ?_
              refine m_aload_n F rfl e_X10_wordHere_34 ?_
              refine r_getC F e_X10_wordHere_35 fl_X10_97 h1 (f10898) ?_
              refine m_icmp_ge F e_X10_wordHere_38 (fun q38 => ?_) (fun q38 => ?_)
              · have c38 : (st + 3) ≥ P.a := (nI_leI (a := P.a) (b := (st + 3)) (by omega) (by omega)).mp q38
                refine m_ldcS F e_X10_wordHere_69 F.sw.1.2.2 ?_
                refine m_iload_n F rfl e_X10_wordHere_71 ?_
                refine m_iload_n F rfl e_X10_wordHere_72 ?_
                refine m_iadd F e_X10_wordHere_73 ?_
                refine Wm.topE (w := 39) (by decide) ?_
                refine m_callO F e_X10_wordHere_74 (q_charAt (x_l X) V _ _ 39 (by omega)) cb_J0_charAt_5068e ml_X10_137 im_J0_charAt_5068e se_J0_charAt_5068e F.sw.2.2.2.2.2.2.1 rfl (rest := []) rfl (Nat.le_of_ble_eq_true rfl) ⟨Nat.le_of_ble_eq_true rfl, Nat.le_of_ble_eq_true rfl⟩ ⟨Nat.le_of_ble_eq_true rfl, Nat.le_of_ble_eq_true rfl⟩ (k' := 0) (z' := 0) (N' := N) rfl rfl rfl (fun r σ10924 hp => ?_)
                obtain ⟨rfl, rfl⟩ := hp
                refine Wm.topE (w := 105) (by decide) ?_
                refine m_bipush F (v := 32) (by decide) e_X10_wordHere_77 ?_
                refine m_icmp_ne F e_X10_wordHere_79 (fun _ => ?_) (fun q => absurd q (by decide))
                refine Wm.lvsub (lv' := [(1, .int 7), (2, .int 36), (0, .ref c)]) ?_ [1, 2, 3] rfl
                exact wk_7 F hQ h1 f20 hB hn7 hsa hpn hl hm (fun hz => by have z1 : P.a = st + 6 := hz.1; have z2 : t (st + 3) = 105 := hz.2 3 (by decide); omega)
              · have c38 : (st + 3) < P.a := by have hh := mt (nI_leI (a := P.a) (b := (st + 3)) (by omega) (by omega)).mpr q38; omega
                refine m_aload_n F rfl e_X10_wordHere_41 ?_
                refine r_getC F e_X10_wordHere_42 fl_X10_7 h1 (f10900) ?_
                refine m_aload_n F rfl e_X10_wordHere_45 ?_
                refine r_getC F e_X10_wordHere_46 fl_X10_107 h1 (f20) ?_
                refine m_iload_n F rfl e_X10_wordHere_49 ?_
                refine m_iadd F e_X10_wordHere_50 ?_
                refine Wm.topE (w := nI (st + 3)) (nI_add st 3) ?_
                have hb10925 := (hB (st + 3) (by omega)).1
                refine r_iald F (len := 700) (j := st + 3) e_X10_wordHere_51 h1 (fun _ h => h) (by decide) (nI_clamp (by omega)) (vp_in_nI (by omega) (by decide)) (fun x10926 h10927 f10928 => ?_)
                obtain rfl := Option.some.inj ((f10928).symm.trans ((hB (st + 3) (by omega)).2))
                refine m_ldcS F e_X10_wordHere_52 F.sw.1.2.2 ?_
                refine m_iload_n F rfl e_X10_wordHere_54 ?_
                refine m_iload_n F rfl e_X10_wordHere_55 ?_
                refine m_iadd F e_X10_wordHere_56 ?_
                refine Wm.topE (w := 39) (by decide) ?_
                refine m_callO F e_X10_wordHere_57 (q_charAt (x_l X) V _ _ 39 (by omega)) cb_J0_charAt_5068e ml_X10_137 im_J0_charAt_5068e se_J0_charAt_5068e F.sw.2.2.2.2.2.2.1 rfl (rest := [.int (nI (t (st + 3)))]) rfl (Nat.le_of_ble_eq_true rfl) ⟨Nat.le_of_ble_eq_true rfl, Nat.le_of_ble_eq_true rfl⟩ ⟨Nat.le_of_ble_eq_true rfl, Nat.le_of_ble_eq_true rfl⟩ (k' := 0) (z' := 0) (N' := N) rfl rfl rfl (fun r σ10929 hp => ?_)
                obtain ⟨rfl, rfl⟩ := hp
                refine Wm.topE (w := 105) (by decide) ?_
                refine m_icmp_ne F e_X10_wordHere_60 (fun q60 => ?_) (fun q60 => ?_)
                · have c60 : (t (st + 3)) ≠ 105 := by have hh := mt (nI_eq (a := (t (st + 3))) (b := 105) (by omega) (by omega)).mpr q60; omega
                  refine m_ldcS F e_X10_wordHere_69 F.sw.1.2.2 ?_
                  refine m_iload_n F rfl e_X10_wordHere_71 ?_
                  refine m_iload_n F rfl e_X10_wordHere_72 ?_
                  refine m_iadd F e_X10_wordHere_73 ?_
                  refine Wm.topE (w := 39) (by decide) ?_
                  refine m_callO F e_X10_wordHere_74 (q_charAt (x_l X) V _ _ 39 (by omega)) cb_J0_charAt_5068e ml_X10_137 im_J0_charAt_5068e se_J0_charAt_5068e F.sw.2.2.2.2.2.2.1 rfl (rest := []) rfl (Nat.le_of_ble_eq_true rfl) ⟨Nat.le_of_ble_eq_true rfl, Nat.le_of_ble_eq_true rfl⟩ ⟨Nat.le_of_ble_eq_true rfl, Nat.le_of_ble_eq_true rfl⟩ (k' := 0) (z' := 0) (N' := N) rfl rfl rfl (fun r σ10930 hp => ?_)
                  obtain ⟨rfl, rfl⟩ := hp
                  refine Wm.topE (w := 105) (by decide) ?_
                  refine m_bipush F (v := 32) (by decide) e_X10_wordHere_77 ?_
                  refine m_icmp_ne F e_X10_wordHere_79 (fun _ => ?_) (fun q => absurd q (by decide))
                  refine Wm.lvsub (lv' := [(1, .int 7), (2, .int 36), (0, .ref c)]) ?_ [1, 2, 3] rfl
                  exact wk_7 F hQ h1 f20 hB hn7 hsa hpn hl hm (fun hz => by have z1 : P.a = st + 6 := hz.1; have z2 : t (st + 3) = 105 := hz.2 3 (by decide); omega)
                · have c60 : (t (st + 3)) = 105 := (nI_eq (a := (t (st + 3))) (b := 105) (by omega) (by omega)).mp q60
                  refine m_iinc F (v := 4) (lv' := [(3, .int 4), (1, .int 7), (2, .int 36), (0, .ref c)]) e_X10_wordHere_63 rfl (by decide) (by decide) rfl ?_
                  refine m_goto F e_X10_wordHere_66 ?_
                  refine m_ldcS F e_X10_wordHere_15 F.sw.1.2.2 ?_
                  refine m_iload_n F rfl e_X10_wordHere_17 ?_
                  refine m_iload_n F rfl e_X10_wordHere_18 ?_
                  refine m_iadd F e_X10_wordHere_19 ?_
                  refine Wm.topE (w := 40) (by decide) ?_
                  refine m_callO F e_X10_wordHere_20 (q_charAt (x_l X) V _ _ 40 (by omega)) cb_J0_charAt_5068e ml_X10_137 im_J0_charAt_5068e se_J0_charAt_5068e F.sw.2.2.2.2.2.2.1 rfl (rest := []) rfl (Nat.le_of_ble_eq_true rfl) ⟨Nat.le_of_ble_eq_true rfl, Nat.le_of_ble_eq_true rfl⟩ ⟨Nat.le_of_ble_eq_true rfl, Nat.le_of_ble_eq_true rfl⟩ (k' := 0) (z' := 0) (N' := N) rfl rfl rfl (fun r σ10931 hp => ?_)
                  obtain ⟨rfl, rfl⟩ := hp
                  refine Wm.topE (w := 111) (by decide) ?_
                  refine m_bipush F (v := 32) (by decide) e_X10_wordHere_23 ?_
                  refine m_icmp_eq F e_X10_wordHere_25 (fun q => absurd q (by decide)) (fun _ => ?_)
                  refine m_aload_n F rfl e_X10_wordHere_28 ?_
                  refine r_getC F e_X10_wordHere_29 fl_X10_107 h1 (f20) ?_
                  refine m_iload_n F rfl e_X10_wordHere_32 ?_
                  refine m_iadd F e_X10_wordHere_33 ?_
                  refine Wm.topE (w := nI (st + 4)) (nI_add st 4) ?_
                  refine m_aload_n F rfl e_X10_wordHere_34 ?_
                  refine r_getC F e_X10_wordHere_35 fl_X10_97 h1 (f10898) ?_
                  refine m_icmp_ge F e_X10_wordHere_38 (fun q38 => ?_) (fun q38 => ?_)
                  · have c38 : (st + 4) ≥ P.a := (nI_leI (a := P.a) (b := (st + 4)) (by omega) (by omega)).mp q38
                    refine m_ldcS F e_X10_wordHere_69 F.sw.1.2.2 ?_
                    refine m_iload_n F rfl e_X10_wordHere_71 ?_
                    refine m_iload_n F rfl e_X10_wordHere_72 ?_
                    refine m_iadd F e_X10_wordHere_73 ?_
                    refine Wm.topE (w := 40) (by decide) ?_
                    refine m_callO F e_X10_wordHere_74 (q_charAt (x_l X) V _ _ 40 (by omega)) cb_J0_charAt_5068e ml_X10_137 im_J0_charAt_5068e se_J0_charAt_5068e F.sw.2.2.2.2.2.2.1 rfl (rest := []) rfl (Nat.le_of_ble_eq_true rfl) ⟨Nat.le_of_ble_eq_true rfl, Nat.le_of_ble_eq_true rfl⟩ ⟨Nat.le_of_ble_eq_true rfl, Nat.le_of_ble_eq_true rfl⟩ (k' := 0) (z' := 0) (N' := N) rfl rfl rfl (fun r σ10932 hp => ?_)
                    obtain ⟨rfl, rfl⟩ := hp
                    refine Wm.topE (w := 111) (by decide) ?_
                    refine m_bipush F (v := 32) (by decide) e_X10_wordHere_77 ?_
                    refine m_icmp_ne F e_X10_wordHere_79 (fun _ => ?_) (fun q => absurd q (by decide))
                    refine Wm.lvsub (lv' := [(1, .int 7), (2, .int 36), (0, .ref c)]) ?_ [1, 2, 3] rfl
                    exact wk_7 F hQ h1 f20 hB hn7 hsa hpn hl hm (fun hz => by have z1 : P.a = st + 6 := hz.1; have z2 : t (st + 4) = 111 := hz.2 4 (by decide); omega)
                  · have c38 : (st + 4) < P.a := by have hh := mt (nI_leI (a := P.a) (b := (st + 4)) (by omega) (by omega)).mpr q38; omega
                    refine m_aload_n F rfl e_X10_wordHere_41 ?_
                    refine r_getC F e_X10_wordHere_42 fl_X10_7 h1 (f10900) ?_
                    refine m_aload_n F rfl e_X10_wordHere_45 ?_
                    refine r_getC F e_X10_wordHere_46 fl_X10_107 h1 (f20) ?_
                    refine m_iload_n F rfl e_X10_wordHere_49 ?_
                    refine m_iadd F e_X10_wordHere_50 ?_
                    refine Wm.topE (w := nI (st + 4)) (nI_add st 4) ?_
                    have hb10933 := (hB (st + 4) (by omega)).1
                    refine r_iald F (len := 700) (j := st + 4) e_X10_wordHere_51 h1 (fun _ h => h) (by decide) (nI_clamp (by omega)) (vp_in_nI (by omega) (by decide)) (fun x10934 h10935 f10936 => ?_)
                    obtain rfl := Option.some.inj ((f10936).symm.trans ((hB (st + 4) (by omega)).2))
                    refine m_ldcS F e_X10_wordHere_52 F.sw.1.2.2 ?_
                    refine m_iload_n F rfl e_X10_wordHere_54 ?_
                    refine m_iload_n F rfl e_X10_wordHere_55 ?_
                    refine m_iadd F e_X10_wordHere_56 ?_
                    refine Wm.topE (w := 40) (by decide) ?_
                    refine m_callO F e_X10_wordHere_57 (q_charAt (x_l X) V _ _ 40 (by omega)) cb_J0_charAt_5068e ml_X10_137 im_J0_charAt_5068e se_J0_charAt_5068e F.sw.2.2.2.2.2.2.1 rfl (rest := [.int (nI (t (st + 4)))]) rfl (Nat.le_of_ble_eq_true rfl) ⟨Nat.le_of_ble_eq_true rfl, Nat.le_of_ble_eq_true rfl⟩ ⟨Nat.le_of_ble_eq_true rfl, Nat.le_of_ble_eq_true rfl⟩ (k' := 0) (z' := 0) (N' := N) rfl rfl rfl (fun r σ10937 hp => ?_)
                    obtain ⟨rfl, rfl⟩ := hp
                    refine Wm.topE (w := 111) (by decide) ?_
                    refine m_icmp_ne F e_X10_wordHere_60 (fun q60 => ?_) (fun q60 => ?_)
                    · have c60 : (t (st + 4)) ≠ 111 := by have hh := mt (nI_eq (a := (t (st + 4))) (b := 111) (by omega) (by omega)).mpr q60; omega
                      refine m_ldcS F e_X10_wordHere_69 F.sw.1.2.2 ?_
                      refine m_iload_n F rfl e_X10_wordHere_71 ?_
                      refine m_iload_n F rfl e_X10_wordHere_72 ?_
                      refine m_iadd F e_X10_wordHere_73 ?_
                      refine Wm.topE (w := 40) (by decide) ?_
                      refine m_callO F e_X10_wordHere_74 (q_charAt (x_l X) V _ _ 40 (by omega)) cb_J0_charAt_5068e ml_X10_137 im_J0_charAt_5068e se_J0_charAt_5068e F.sw.2.2.2.2.2.2.1 rfl (rest := []) rfl (Nat.le_of_ble_eq_true rfl) ⟨Nat.le_of_ble_eq_true rfl, Nat.le_of_ble_eq_true rfl⟩ ⟨Nat.le_of_ble_eq_true rfl, Nat.le_of_ble_eq_true rfl⟩ (k' := 0) (z' := 0) (N' := N) rfl rfl rfl (fun r σ10938 hp => ?_)
                      obtain ⟨rfl, rfl⟩ := hp
                      refine Wm.topE (w := 111) (by decide) ?_
                      refine m_bipush F (v := 32) (by decide) e_X10_wordHere_77 ?_
                      refine m_icmp_ne F e_X10_wordHere_79 (fun _ => ?_) (fun q => absurd q (by decide))
                      refine Wm.lvsub (lv' := [(1, .int 7), (2, .int 36), (0, .ref c)]) ?_ [1, 2, 3] rfl
                      exact wk_7 F hQ h1 f20 hB hn7 hsa hpn hl hm (fun hz => by have z1 : P.a = st + 6 := hz.1; have z2 : t (st + 4) = 111 := hz.2 4 (by decide); omega)
                    · have c60 : (t (st + 4)) = 111 := (nI_eq (a := (t (st + 4))) (b := 111) (by omega) (by omega)).mp q60
                      refine m_iinc F (v := 5) (lv' := [(3, .int 5), (1, .int 7), (2, .int 36), (0, .ref c)]) e_X10_wordHere_63 rfl (by decide) (by decide) rfl ?_
                      refine m_goto F e_X10_wordHere_66 ?_
                      refine m_ldcS F e_X10_wordHere_15 F.sw.1.2.2 ?_
                      refine m_iload_n F rfl e_X10_wordHere_17 ?_
                      refine m_iload_n F rfl e_X10_wordHere_18 ?_
                      refine m_iadd F e_X10_wordHere_19 ?_
                      refine Wm.topE (w := 41) (by decide) ?_
                      refine m_callO F e_X10_wordHere_20 (q_charAt (x_l X) V _ _ 41 (by omega)) cb_J0_charAt_5068e ml_X10_137 im_J0_charAt_5068e se_J0_charAt_5068e F.sw.2.2.2.2.2.2.1 rfl (rest := []) rfl (Nat.le_of_ble_eq_true rfl) ⟨Nat.le_of_ble_eq_true rfl, Nat.le_of_ble_eq_true rfl⟩ ⟨Nat.le_of_ble_eq_true rfl, Nat.le_of_ble_eq_true rfl⟩ (k' := 0) (z' := 0) (N' := N) rfl rfl rfl (fun r σ10939 hp => ?_)
                      obtain ⟨rfl, rfl⟩ := hp
                      refine Wm.topE (w := 110) (by decide) ?_
                      refine m_bipush F (v := 32) (by decide) e_X10_wordHere_23 ?_
                      refine m_icmp_eq F e_X10_wordHere_25 (fun q => absurd q (by decide)) (fun _ => ?_)
                      refine m_aload_n F rfl e_X10_wordHere_28 ?_
                      refine r_getC F e_X10_wordHere_29 fl_X10_107 h1 (f20) ?_
                      refine m_iload_n F rfl e_X10_wordHere_32 ?_
                      refine m_iadd F e_X10_wordHere_33 ?_
                      refine Wm.topE (w := nI (st + 5)) (nI_add st 5) ?_
                      refine m_aload_n F rfl e_X10_wordHere_34 ?_
                      refine r_getC F e_X10_wordHere_35 fl_X10_97 h1 (f10898) ?_
                      refine m_icmp_ge F e_X10_wordHere_38 (fun q38 => ?_) (fun q38 => ?_)
                      · have c38 : (st + 5) ≥ P.a := (nI_leI (a := P.a) (b := (st + 5)) (by omega) (by omega)).mp q38
                        refine m_ldcS F e_X10_wordHere_69 F.sw.1.2.2 ?_
                        refine m_iload_n F rfl e_X10_wordHere_71 ?_
                        refine m_iload_n F rfl e_X10_wordHere_72 ?_
                        refine m_iadd F e_X10_wordHere_73 ?_
                        refine Wm.topE (w := 41) (by decide) ?_
                        refine m_callO F e_X10_wordHere_74 (q_charAt (x_l X) V _ _ 41 (by omega)) cb_J0_charAt_5068e ml_X10_137 im_J0_charAt_5068e se_J0_charAt_5068e F.sw.2.2.2.2.2.2.1 rfl (rest := []) rfl (Nat.le_of_ble_eq_true rfl) ⟨Nat.le_of_ble_eq_true rfl, Nat.le_of_ble_eq_true rfl⟩ ⟨Nat.le_of_ble_eq_true rfl, Nat.le_of_ble_eq_true rfl⟩ (k' := 0) (z' := 0) (N' := N) rfl rfl rfl (fun r σ10940 hp => ?_)
                        obtain ⟨rfl, rfl⟩ := hp
                        refine Wm.topE (w := 110) (by decide) ?_
                        refine m_bipush F (v := 32) (by decide) e_X10_wordHere_77 ?_
                        refine m_icmp_ne F e_X10_wordHere_79 (fun _ => ?_) (fun q => absurd q (by decide))
                        refine Wm.lvsub (lv' := [(1, .int 7), (2, .int 36), (0, .ref c)]) ?_ [1, 2, 3] rfl
                        exact wk_7 F hQ h1 f20 hB hn7 hsa hpn hl hm (fun hz => by have z1 : P.a = st + 6 := hz.1; have z2 : t (st + 5) = 110 := hz.2 5 (by decide); omega)
                      · have c38 : (st + 5) < P.a := by have hh := mt (nI_leI (a := P.a) (b := (st + 5)) (by omega) (by omega)).mpr q38; omega
                        refine m_aload_n F rfl e_X10_wordHere_41 ?_
                        refine r_getC F e_X10_wordHere_42 fl_X10_7 h1 (f10900) ?_
                        refine m_aload_n F rfl e_X10_wordHere_45 ?_
                        refine r_getC F e_X10_wordHere_46 fl_X10_107 h1 (f20) ?_
                        refine m_iload_n F rfl e_X10_wordHere_49 ?_
                        refine m_iadd F e_X10_wordHere_50 ?_
                        refine Wm.topE (w := nI (st + 5)) (nI_add st 5) ?_
                        have hb10941 := (hB (st + 5) (by omega)).1
                        refine r_iald F (len := 700) (j := st + 5) e_X10_wordHere_51 h1 (fun _ h => h) (by decide) (nI_clamp (by omega)) (vp_in_nI (by omega) (by decide)) (fun x10942 h10943 f10944 => ?_)
                        obtain rfl := Option.some.inj ((f10944).symm.trans ((hB (st + 5) (by omega)).2))
                        refine m_ldcS F e_X10_wordHere_52 F.sw.1.2.2 ?_
                        refine m_iload_n F rfl e_X10_wordHere_54 ?_
                        refine m_iload_n F rfl e_X10_wordHere_55 ?_
                        refine m_iadd F e_X10_wordHere_56 ?_
                        refine Wm.topE (w := 41) (by decide) ?_
                        refine m_callO F e_X10_wordHere_57 (q_charAt (x_l X) V _ _ 41 (by omega)) cb_J0_charAt_5068e ml_X10_137 im_J0_charAt_5068e se_J0_charAt_5068e F.sw.2.2.2.2.2.2.1 rfl (rest := [.int (nI (t (st + 5)))]) rfl (Nat.le_of_ble_eq_true rfl) ⟨Nat.le_of_ble_eq_true rfl, Nat.le_of_ble_eq_true rfl⟩ ⟨Nat.le_of_ble_eq_true rfl, Nat.le_of_ble_eq_true rfl⟩ (k' := 0) (z' := 0) (N' := N) rfl rfl rfl (fun r σ10945 hp => ?_)
                        obtain ⟨rfl, rfl⟩ := hp
                        refine Wm.topE (w := 110) (by decide) ?_
                        refine m_icmp_ne F e_X10_wordHere_60 (fun q60 => ?_) (fun q60 => ?_)
                        · have c60 : (t (st + 5)) ≠ 110 := by have hh := mt (nI_eq (a := (t (st + 5))) (b := 110) (by omega) (by omega)).mpr q60; omega
                          refine m_ldcS F e_X10_wordHere_69 F.sw.1.2.2 ?_
                          refine m_iload_n F rfl e_X10_wordHere_71 ?_
                          refine m_iload_n F rfl e_X10_wordHere_72 ?_
                          refine m_iadd F e_X10_wordHere_73 ?_
                          refine Wm.topE (w := 41) (by decide) ?_
                          refine m_callO F e_X10_wordHere_74 (q_charAt (x_l X) V _ _ 41 (by omega)) cb_J0_charAt_5068e ml_X10_137 im_J0_charAt_5068e se_J0_charAt_5068e F.sw.2.2.2.2.2.2.1 rfl (rest := []) rfl (Nat.le_of_ble_eq_true rfl) ⟨Nat.le_of_ble_eq_true rfl, Nat.le_of_ble_eq_true rfl⟩ ⟨Nat.le_of_ble_eq_true rfl, Nat.le_of_ble_eq_true rfl⟩ (k' := 0) (z' := 0) (N' := N) rfl rfl rfl (fun r σ10946 hp => ?_)
                          obtain ⟨rfl, rfl⟩ := hp
                          refine Wm.topE (w := 110) (by decide) ?_
                          refine m_bipush F (v := 32) (by decide) e_X10_wordHere_77 ?_
                          refine m_icmp_ne F e_X10_wordHere_79 (fun _ => ?_) (fun q => absurd q (by decide))
                          refine Wm.lvsub (lv' := [(1, .int 7), (2, .int 36), (0, .ref c)]) ?_ [1, 2, 3] rfl
                          exact wk_7 F hQ h1 f20 hB hn7 hsa hpn hl hm (fun hz => by have z1 : P.a = st + 6 := hz.1; have z2 : t (st + 5) = 110 := hz.2 5 (by decide); omega)
                        · have c60 : (t (st + 5)) = 110 := (nI_eq (a := (t (st + 5))) (b := 110) (by omega) (by omega)).mp q60
                          refine m_iinc F (v := 6) (lv' := [(3, .int 6), (1, .int 7), (2, .int 36), (0, .ref c)]) e_X10_wordHere_63 rfl (by decide) (by decide) rfl ?_
                          refine m_goto F e_X10_wordHere_66 ?_
                          refine m_ldcS F e_X10_wordHere_15 F.sw.1.2.2 ?_
                          refine m_iload_n F rfl e_X10_wordHere_17 ?_
                          refine m_iload_n F rfl e_X10_wordHere_18 ?_
                          refine m_iadd F e_X10_wordHere_19 ?_
                          refine Wm.topE (w := 42) (by decide) ?_
                          refine m_callO F e_X10_wordHere_20 (q_charAt (x_l X) V _ _ 42 (by omega)) cb_J0_charAt_5068e ml_X10_137 im_J0_charAt_5068e se_J0_charAt_5068e F.sw.2.2.2.2.2.2.1 rfl (rest := []) rfl (Nat.le_of_ble_eq_true rfl) ⟨Nat.le_of_ble_eq_true rfl, Nat.le_of_ble_eq_true rfl⟩ ⟨Nat.le_of_ble_eq_true rfl, Nat.le_of_ble_eq_true rfl⟩ (k' := 0) (z' := 0) (N' := N) rfl rfl rfl (fun r σ10947 hp => ?_)
                          obtain ⟨rfl, rfl⟩ := hp
                          refine Wm.topE (w := 32) (by decide) ?_
                          refine m_bipush F (v := 32) (by decide) e_X10_wordHere_23 ?_
                          refine m_icmp_eq F e_X10_wordHere_25 (fun _ => ?_) (fun q => absurd (by decide) q)
                          refine m_ldcS F e_X10_wordHere_69 F.sw.1.2.2 ?_
                          refine m_iload_n F rfl e_X10_wordHere_71 ?_
                          refine m_iload_n F rfl e_X10_wordHere_72 ?_
                          refine m_iadd F e_X10_wordHere_73 ?_
                          refine Wm.topE (w := 42) (by decide) ?_
                          refine m_callO F e_X10_wordHere_74 (q_charAt (x_l X) V _ _ 42 (by omega)) cb_J0_charAt_5068e ml_X10_137 im_J0_charAt_5068e se_J0_charAt_5068e F.sw.2.2.2.2.2.2.1 rfl (rest := []) rfl (Nat.le_of_ble_eq_true rfl) ⟨Nat.le_of_ble_eq_true rfl, Nat.le_of_ble_eq_true rfl⟩ ⟨Nat.le_of_ble_eq_true rfl, Nat.le_of_ble_eq_true rfl⟩ (k' := 0) (z' := 0) (N' := N) rfl rfl rfl (fun r σ10948 hp => ?_)
                          obtain ⟨rfl, rfl⟩ := hp
                          refine Wm.topE (w := 32) (by decide) ?_
                          refine m_bipush F (v := 32) (by decide) e_X10_wordHere_77 ?_
                          refine m_icmp_ne F e_X10_wordHere_79 (fun q => absurd (by decide) q) (fun _ => ?_)
                          refine m_aload_n F rfl e_X10_wordHere_82 ?_
                          refine r_getC F e_X10_wordHere_83 fl_X10_107 h1 (f20) ?_
                          refine m_iload_n F rfl e_X10_wordHere_86 ?_
                          refine m_iadd F e_X10_wordHere_87 ?_
                          refine Wm.topE (w := nI (st + 6)) (nI_add st 6) ?_
                          refine m_aload_n F rfl e_X10_wordHere_88 ?_
                          refine r_getC F e_X10_wordHere_89 fl_X10_97 h1 (f10898) ?_
                          refine m_icmp_ne F e_X10_wordHere_92 (fun q92 => ?_) (fun q92 => ?_)
                          · have c92 : (st + 6) ≠ P.a := by have hh := mt (nI_eq (a := (st + 6)) (b := P.a) (by omega) (by omega)).mpr q92; omega
                            refine Wm.lvsub (lv' := [(1, .int 7), (2, .int 36), (0, .ref c)]) ?_ [1, 2, 3] rfl
                            exact wk_7 F hQ h1 f20 hB hn7 hsa hpn hl hm (fun hz => by have z1 : P.a = st + 6 := hz.1; omega)
                          · have c92 : (st + 6) = P.a := (nI_eq (a := (st + 6)) (b := P.a) (by omega) (by omega)).mp q92
                            refine m_iload_n F rfl e_X10_wordHere_95 ?_
                            have hz : mw t st P.a 7 := by
                              refine ⟨(show P.a = st + 6 by omega), fun i hi => ?_⟩
                              have hi2 : i = 0 ∨ i = 1 ∨ i = 2 ∨ i = 3 ∨ i = 4 ∨ i = 5 := by have hi3 : i < 6 := hi; omega
                              rcases hi2 with rfl | rfl | rfl | rfl | rfl | rfl
                              · show t (st + 0) = 111; first | assumption | omega
                              · show t (st + 1) = 112; first | assumption | omega
                              · show t (st + 2) = 116; first | assumption | omega
                              · show t (st + 3) = 105; first | assumption | omega
                              · show t (st + 4) = 111; first | assumption | omega
                              · show t (st + 5) = 110; first | assumption | omega
                            have hy := kix_mw hsa hl (by decide) hz
                            exact m_iret F hQ e_X10_wordHere_96 ⟨h1, Or.inl ⟨hy.1, by rw [hy.2]; decide, by rw [hy.2]; rfl⟩⟩
set_option maxRecDepth 20000 in
theorem wk_6 {V : VX} {X : MX} {N : Nat} {σ : Mem} {c T Z u h : Nat} {P : NP} {L : Nat → LQ} {n st : Nat} {t : Nat → Nat} (F : Fx V X yX10_wordHere cX10_wordHere 4 (some .int) (rmd 4 0 0)) (hQ : Rt V X 0 0 N (fun r τ => HS V c (⟨T, Z, u, h, P, L⟩ : RG) [0, 1, 2, 3, 4, 5, 6, 7, 8, 9, 10, 11, 12, 13, 14, 15, 16, 17, 18, 19, 20, 21, 22, 23] σ τ ∧ ((P.a - st ≤ 6 ∧ kix (nmc t st P.a 6) < 9 ∧ r = some (.int (nI (kix (nmc t st P.a 6))))) ∨ (¬ (P.a - st ≤ 6 ∧ kix (nmc t st P.a 6) < 9) ∧ r = some (.int (-1)))))) (h1 : HS V c ⟨T, Z, u, h, P, L⟩ [0, 1, 2, 3, 4, 5, 6, 7, 8, 9, 10, 11, 12, 13, 14, 15, 16, 17, 18, 19, 20, 21, 22, 23] σ σ) (f20 : fld σ c 20 = some (.int (nI st))) (hB : BR σ c n t) (hn7 : n ≤ 700) (hsa : st < P.a) (hpn : P.a ≤ n) (hl : ∀ i, st ≤ i → i < P.a → isL (t i) = true) (hm : ∀ m, m < 6 → ¬ mw t st P.a m) (hz : ¬ mw t st P.a 6) : Wm V X 4 N σ 0 0 97 [(1, .int 6), (2, .int 30), (0, .ref c)] [] := by
  refine m_ldcS F e_X10_wordHere_97 F.sw.1.2.2 ?_
  refine m_iload_n F rfl e_X10_wordHere_99 ?_
  refine m_callO F e_X10_wordHere_100 (q_charAt (x_l X) V _ _ 30 (by omega)) cb_J0_charAt_5068e ml_X10_137 im_J0_charAt_5068e se_J0_charAt_5068e F.sw.2.2.2.2.2.2.1 rfl (rest := []) rfl (Nat.le_of_ble_eq_true rfl) ⟨Nat.le_of_ble_eq_true rfl, Nat.le_of_ble_eq_true rfl⟩ ⟨Nat.le_of_ble_eq_true rfl, Nat.le_of_ble_eq_true rfl⟩ (k' := 0) (z' := 0) (N' := N) rfl rfl rfl (fun r σ10949 hp => ?_)
  obtain ⟨rfl, rfl⟩ := hp
  refine Wm.topE (w := 105) (by decide) ?_
  refine m_bipush F (v := 32) (by decide) e_X10_wordHere_103 ?_
  refine m_icmp_eq F e_X10_wordHere_105 (fun q => absurd q (by decide)) (fun _ => ?_)
  refine m_iinc F (v := 31) (lv' := [(2, .int 31), (1, .int 6), (0, .ref c)]) e_X10_wordHere_108 rfl (by decide) (by decide) rfl ?_
  refine m_goto F e_X10_wordHere_111 ?_
  refine m_ldcS F e_X10_wordHere_97 F.sw.1.2.2 ?_
  refine m_iload_n F rfl e_X10_wordHere_99 ?_
  refine m_callO F e_X10_wordHere_100 (q_charAt (x_l X) V _ _ 31 (by omega)) cb_J0_charAt_5068e ml_X10_137 im_J0_charAt_5068e se_J0_charAt_5068e F.sw.2.2.2.2.2.2.1 rfl (rest := []) rfl (Nat.le_of_ble_eq_true rfl) ⟨Nat.le_of_ble_eq_true rfl, Nat.le_of_ble_eq_true rfl⟩ ⟨Nat.le_of_ble_eq_true rfl, Nat.le_of_ble_eq_true rfl⟩ (k' := 0) (z' := 0) (N' := N) rfl rfl rfl (fun r σ10950 hp => ?_)
  obtain ⟨rfl, rfl⟩ := hp
  refine Wm.topE (w := 110) (by decide) ?_
  refine m_bipush F (v := 32) (by decide) e_X10_wordHere_103 ?_
  refine m_icmp_eq F e_X10_wordHere_105 (fun q => absurd q (by decide)) (fun _ => ?_)
  refine m_iinc F (v := 32) (lv' := [(2, .int 32), (1, .int 6), (0, .ref c)]) e_X10_wordHere_108 rfl (by decide) (by decide) rfl ?_
  refine m_goto F e_X10_wordHere_111 ?_
  refine m_ldcS F e_X10_wordHere_97 F.sw.1.2.2 ?_
  refine m_iload_n F rfl e_X10_wordHere_99 ?_
  refine m_callO F e_X10_wordHere_100 (q_charAt (x_l X) V _ _ 32 (by omega)) cb_J0_charAt_5068e ml_X10_137 im_J0_charAt_5068e se_J0_charAt_5068e F.sw.2.2.2.2.2.2.1 rfl (rest := []) rfl (Nat.le_of_ble_eq_true rfl) ⟨Nat.le_of_ble_eq_true rfl, Nat.le_of_ble_eq_true rfl⟩ ⟨Nat.le_of_ble_eq_true rfl, Nat.le_of_ble_eq_true rfl⟩ (k' := 0) (z' := 0) (N' := N) rfl rfl rfl (fun r σ10951 hp => ?_)
  obtain ⟨rfl, rfl⟩ := hp
  refine Wm.topE (w := 100) (by decide) ?_
  refine m_bipush F (v := 32) (by decide) e_X10_wordHere_103 ?_
  refine m_icmp_eq F e_X10_wordHere_105 (fun q => absurd q (by decide)) (fun _ => ?_)
  refine m_iinc F (v := 33) (lv' := [(2, .int 33), (1, .int 6), (0, .ref c)]) e_X10_wordHere_108 rfl (by decide) (by decide) rfl ?_
  refine m_goto F e_X10_wordHere_111 ?_
  refine m_ldcS F e_X10_wordHere_97 F.sw.1.2.2 ?_
  refine m_iload_n F rfl e_X10_wordHere_99 ?_
  refine m_callO F e_X10_wordHere_100 (q_charAt (x_l X) V _ _ 33 (by omega)) cb_J0_charAt_5068e ml_X10_137 im_J0_charAt_5068e se_J0_charAt_5068e F.sw.2.2.2.2.2.2.1 rfl (rest := []) rfl (Nat.le_of_ble_eq_true rfl) ⟨Nat.le_of_ble_eq_true rfl, Nat.le_of_ble_eq_true rfl⟩ ⟨Nat.le_of_ble_eq_true rfl, Nat.le_of_ble_eq_true rfl⟩ (k' := 0) (z' := 0) (N' := N) rfl rfl rfl (fun r σ10952 hp => ?_)
  obtain ⟨rfl, rfl⟩ := hp
  refine Wm.topE (w := 101) (by decide) ?_
  refine m_bipush F (v := 32) (by decide) e_X10_wordHere_103 ?_
  refine m_icmp_eq F e_X10_wordHere_105 (fun q => absurd q (by decide)) (fun _ => ?_)
  refine m_iinc F (v := 34) (lv' := [(2, .int 34), (1, .int 6), (0, .ref c)]) e_X10_wordHere_108 rfl (by decide) (by decide) rfl ?_
  refine m_goto F e_X10_wordHere_111 ?_
  refine m_ldcS F e_X10_wordHere_97 F.sw.1.2.2 ?_
  refine m_iload_n F rfl e_X10_wordHere_99 ?_
  refine m_callO F e_X10_wordHere_100 (q_charAt (x_l X) V _ _ 34 (by omega)) cb_J0_charAt_5068e ml_X10_137 im_J0_charAt_5068e se_J0_charAt_5068e F.sw.2.2.2.2.2.2.1 rfl (rest := []) rfl (Nat.le_of_ble_eq_true rfl) ⟨Nat.le_of_ble_eq_true rfl, Nat.le_of_ble_eq_true rfl⟩ ⟨Nat.le_of_ble_eq_true rfl, Nat.le_of_ble_eq_true rfl⟩ (k' := 0) (z' := 0) (N' := N) rfl rfl rfl (fun r σ10953 hp => ?_)
  obtain ⟨rfl, rfl⟩ := hp
  refine Wm.topE (w := 120) (by decide) ?_
  refine m_bipush F (v := 32) (by decide) e_X10_wordHere_103 ?_
  refine m_icmp_eq F e_X10_wordHere_105 (fun q => absurd q (by decide)) (fun _ => ?_)
  refine m_iinc F (v := 35) (lv' := [(2, .int 35), (1, .int 6), (0, .ref c)]) e_X10_wordHere_108 rfl (by decide) (by decide) rfl ?_
  refine m_goto F e_X10_wordHere_111 ?_
  refine m_ldcS F e_X10_wordHere_97 F.sw.1.2.2 ?_
  refine m_iload_n F rfl e_X10_wordHere_99 ?_
  refine m_callO F e_X10_wordHere_100 (q_charAt (x_l X) V _ _ 35 (by omega)) cb_J0_charAt_5068e ml_X10_137 im_J0_charAt_5068e se_J0_charAt_5068e F.sw.2.2.2.2.2.2.1 rfl (rest := []) rfl (Nat.le_of_ble_eq_true rfl) ⟨Nat.le_of_ble_eq_true rfl, Nat.le_of_ble_eq_true rfl⟩ ⟨Nat.le_of_ble_eq_true rfl, Nat.le_of_ble_eq_true rfl⟩ (k' := 0) (z' := 0) (N' := N) rfl rfl rfl (fun r σ10954 hp => ?_)
  obtain ⟨rfl, rfl⟩ := hp
  refine Wm.topE (w := 32) (by decide) ?_
  refine m_bipush F (v := 32) (by decide) e_X10_wordHere_103 ?_
  refine m_icmp_eq F e_X10_wordHere_105 (fun _ => ?_) (fun q => absurd (by decide) q)
  refine m_iinc F (v := 36) (lv' := [(2, .int 36), (1, .int 6), (0, .ref c)]) e_X10_wordHere_114 rfl (by decide) (by decide) rfl ?_
  refine m_iinc F (v := 7) (lv' := [(1, .int 7), (2, .int 36), (0, .ref c)]) e_X10_wordHere_117 rfl (by decide) (by decide) rfl ?_
  refine m_goto F e_X10_wordHere_120 ?_
  exact wh_7 F hQ h1 f20 hB hn7 hsa hpn hl (fun m9 h9 => if e9 : m9 = 6 then e9 ▸ hz else hm m9 (by omega))
set_option maxRecDepth 20000 in
theorem wh_6 {V : VX} {X : MX} {N : Nat} {σ : Mem} {c T Z u h : Nat} {P : NP} {L : Nat → LQ} {n st : Nat} {t : Nat → Nat} (F : Fx V X yX10_wordHere cX10_wordHere 4 (some .int) (rmd 4 0 0)) (hQ : Rt V X 0 0 N (fun r τ => HS V c (⟨T, Z, u, h, P, L⟩ : RG) [0, 1, 2, 3, 4, 5, 6, 7, 8, 9, 10, 11, 12, 13, 14, 15, 16, 17, 18, 19, 20, 21, 22, 23] σ τ ∧ ((P.a - st ≤ 6 ∧ kix (nmc t st P.a 6) < 9 ∧ r = some (.int (nI (kix (nmc t st P.a 6))))) ∨ (¬ (P.a - st ≤ 6 ∧ kix (nmc t st P.a 6) < 9) ∧ r = some (.int (-1)))))) (h1 : HS V c ⟨T, Z, u, h, P, L⟩ [0, 1, 2, 3, 4, 5, 6, 7, 8, 9, 10, 11, 12, 13, 14, 15, 16, 17, 18, 19, 20, 21, 22, 23] σ σ) (f20 : fld σ c 20 = some (.int (nI st))) (hB : BR σ c n t) (hn7 : n ≤ 700) (hsa : st < P.a) (hpn : P.a ≤ n) (hl : ∀ i, st ≤ i → i < P.a → isL (t i) = true) (hm : ∀ m, m < 6 → ¬ mw t st P.a m) : Wm V X 4 N σ 0 0 4 [(1, .int 6), (2, .int 30), (0, .ref c)] [] := by
  refine m_iload_n F rfl e_X10_wordHere_4 ?_
  refine m_ldcS F e_X10_wordHere_5 F.sw.1.2.2 ?_
  refine m_callO F e_X10_wordHere_7 (q_length (x_l X) V _ _) cb_J0_length_8abf5 ml_X10_132 im_J0_length_8abf5 se_J0_length_8abf5 F.sw.2.2.2.2.2.2.1 rfl (rest := [.int 30]) rfl (Nat.le_of_ble_eq_true rfl) ⟨Nat.le_of_ble_eq_true rfl, Nat.le_of_ble_eq_true rfl⟩ ⟨Nat.le_of_ble_eq_true rfl, Nat.le_of_ble_eq_true rfl⟩ (k' := 0) (z' := 0) (N' := N) rfl rfl rfl (fun r σ10955 hp => ?_)
  obtain ⟨rfl, rfl⟩ := hp
  refine m_icmp_ge F e_X10_wordHere_10 (fun q => absurd q (by decide)) (fun _ => ?_)
  refine m_iconst F (v := 0) (by decide) e_X10_wordHere_13 ?_
  refine m_istore_n F (lv' := [(3, .int 0), (1, .int 6), (2, .int 30), (0, .ref c)]) e_X10_wordHere_14 (by decide) rfl ?_
  refine m_ldcS F e_X10_wordHere_15 F.sw.1.2.2 ?_
  refine m_iload_n F rfl e_X10_wordHere_17 ?_
  refine m_iload_n F rfl e_X10_wordHere_18 ?_
  refine m_iadd F e_X10_wordHere_19 ?_
  refine Wm.topE (w := 30) (by decide) ?_
  refine m_callO F e_X10_wordHere_20 (q_charAt (x_l X) V _ _ 30 (by omega)) cb_J0_charAt_5068e ml_X10_137 im_J0_charAt_5068e se_J0_charAt_5068e F.sw.2.2.2.2.2.2.1 rfl (rest := []) rfl (Nat.le_of_ble_eq_true rfl) ⟨Nat.le_of_ble_eq_true rfl, Nat.le_of_ble_eq_true rfl⟩ ⟨Nat.le_of_ble_eq_true rfl, Nat.le_of_ble_eq_true rfl⟩ (k' := 0) (z' := 0) (N' := N) rfl rfl rfl (fun r σ10956 hp => ?_)
  obtain ⟨rfl, rfl⟩ := hp
  refine Wm.topE (w := 105) (by decide) ?_
  refine m_bipush F (v := 32) (by decide) e_X10_wordHere_23 ?_
  refine m_icmp_eq F e_X10_wordHere_25 (fun q => absurd q (by decide)) (fun _ => ?_)
  refine m_aload_n F rfl e_X10_wordHere_28 ?_
  refine r_getC F e_X10_wordHere_29 fl_X10_107 h1 (f20) ?_
  refine m_iload_n F rfl e_X10_wordHere_32 ?_
  refine m_iadd F e_X10_wordHere_33 ?_
  refine Wm.topE (w := nI st) (nI_add st 0) ?_
  refine m_aload_n F rfl e_X10_wordHere_34 ?_
  refine r_get F e_X10_wordHere_35 fl_X10_97 h1 rfl (fun v hv f10957 => ?_)
  obtain rfl : v = .int (nI (P.a)) := hv
  refine m_icmp_ge F e_X10_wordHere_38 (fun q38 => ?_) (fun q38 => ?_)
  · have c38 : st ≥ P.a := (nI_leI (a := P.a) (b := st) (by omega) (by omega)).mp q38
    refine m_ldcS F e_X10_wordHere_69 F.sw.1.2.2 ?_
    refine m_iload_n F rfl e_X10_wordHere_71 ?_
    refine m_iload_n F rfl e_X10_wordHere_72 ?_
    refine m_iadd F e_X10_wordHere_73 ?_
    refine Wm.topE (w := 30) (by decide) ?_
    refine m_callO F e_X10_wordHere_74 (q_charAt (x_l X) V _ _ 30 (by omega)) cb_J0_charAt_5068e ml_X10_137 im_J0_charAt_5068e se_J0_charAt_5068e F.sw.2.2.2.2.2.2.1 rfl (rest := []) rfl (Nat.le_of_ble_eq_true rfl) ⟨Nat.le_of_ble_eq_true rfl, Nat.le_of_ble_eq_true rfl⟩ ⟨Nat.le_of_ble_eq_true rfl, Nat.le_of_ble_eq_true rfl⟩ (k' := 0) (z' := 0) (N' := N) rfl rfl rfl (fun r σ10958 hp => ?_)
    obtain ⟨rfl, rfl⟩ := hp
    refine Wm.topE (w := 105) (by decide) ?_
    refine m_bipush F (v := 32) (by decide) e_X10_wordHere_77 ?_
    refine m_icmp_ne F e_X10_wordHere_79 (fun _ => ?_) (fun q => absurd q (by decide))
    refine Wm.lvsub (lv' := [(1, .int 6), (2, .int 30), (0, .ref c)]) ?_ [1, 2, 3] rfl
    exact wk_6 F hQ h1 f20 hB hn7 hsa hpn hl hm (fun hz => by have z1 : P.a = st + 5 := hz.1; have z2 : t (st) = 105 := hz.2 0 (by decide); omega)
  · have c38 : st < P.a := by have hh := mt (nI_leI (a := P.a) (b := st) (by omega) (by omega)).mpr q38; omega
    refine m_aload_n F rfl e_X10_wordHere_41 ?_
    refine r_get F e_X10_wordHere_42 fl_X10_7 h1 rfl (fun v hv f10959 => ?_)
    obtain rfl : v = .ref (c + 1) := hv
    refine m_aload_n F rfl e_X10_wordHere_45 ?_
    refine r_getC F e_X10_wordHere_46 fl_X10_107 h1 (f20) ?_
    refine m_iload_n F rfl e_X10_wordHere_49 ?_
    refine m_iadd F e_X10_wordHere_50 ?_
    refine Wm.topE (w := nI st) (nI_add st 0) ?_
    have hb10960 := (hB st (by omega)).1
    refine r_iald F (len := 700) (j := st) e_X10_wordHere_51 h1 (fun _ h => h) (by decide) (nI_clamp (by omega)) (vp_in_nI (by omega) (by decide)) (fun x10961 h10962 f10963 => ?_)
    obtain rfl := Option.some.inj ((f10963).symm.trans ((hB st (by omega)).2))
    refine m_ldcS F e_X10_wordHere_52 F.sw.1.2.2 ?_
    refine m_iload_n F rfl e_X10_wordHere_54 ?_
    refine m_iload_n F rfl e_X10_wordHere_55 ?_
    refine m_iadd F e_X10_wordHere_56 ?_
    refine Wm.topE (w := 30) (by decide) ?_
    refine m_callO F e_X10_wordHere_57 (q_charAt (x_l X) V _ _ 30 (by omega)) cb_J0_charAt_5068e ml_X10_137 im_J0_charAt_5068e se_J0_charAt_5068e F.sw.2.2.2.2.2.2.1 rfl (rest := [.int (nI (t st))]) rfl (Nat.le_of_ble_eq_true rfl) ⟨Nat.le_of_ble_eq_true rfl, Nat.le_of_ble_eq_true rfl⟩ ⟨Nat.le_of_ble_eq_true rfl, Nat.le_of_ble_eq_true rfl⟩ (k' := 0) (z' := 0) (N' := N) rfl rfl rfl (fun r σ10964 hp => ?_)
    obtain ⟨rfl, rfl⟩ := hp
    refine Wm.topE (w := 105) (by decide) ?_
    refine m_icmp_ne F e_X10_wordHere_60 (fun q60 => ?_) (fun q60 => ?_)
    · have c60 : (t st) ≠ 105 := by have hh := mt (nI_eq (a := (t st)) (b := 105) (by omega) (by omega)).mpr q60; omega
      refine m_ldcS F e_X10_wordHere_69 F.sw.1.2.2 ?_
      refine m_iload_n F rfl e_X10_wordHere_71 ?_
      refine m_iload_n F rfl e_X10_wordHere_72 ?_
      refine m_iadd F e_X10_wordHere_73 ?_
      refine Wm.topE (w := 30) (by decide) ?_
      refine m_callO F e_X10_wordHere_74 (q_charAt (x_l X) V _ _ 30 (by omega)) cb_J0_charAt_5068e ml_X10_137 im_J0_charAt_5068e se_J0_charAt_5068e F.sw.2.2.2.2.2.2.1 rfl (rest := []) rfl (Nat.le_of_ble_eq_true rfl) ⟨Nat.le_of_ble_eq_true rfl, Nat.le_of_ble_eq_true rfl⟩ ⟨Nat.le_of_ble_eq_true rfl, Nat.le_of_ble_eq_true rfl⟩ (k' := 0) (z' := 0) (N' := N) rfl rfl rfl (fun r σ10965 hp => ?_)
      obtain ⟨rfl, rfl⟩ := hp
      refine Wm.topE (w := 105) (by decide) ?_
      refine m_bipush F (v := 32) (by decide) e_X10_wordHere_77 ?_
      refine m_icmp_ne F e_X10_wordHere_79 (fun _ => ?_) (fun q => absurd q (by decide))
      refine Wm.lvsub (lv' := [(1, .int 6), (2, .int 30), (0, .ref c)]) ?_ [1, 2, 3] rfl
      exact wk_6 F hQ h1 f20 hB hn7 hsa hpn hl hm (fun hz => by have z1 : P.a = st + 5 := hz.1; have z2 : t (st) = 105 := hz.2 0 (by decide); omega)
    · have c60 : (t st) = 105 := (nI_eq (a := (t st)) (b := 105) (by omega) (by omega)).mp q60
      refine m_iinc F (v := 1) (lv' := [(3, .int 1), (1, .int 6), (2, .int 30), (0, .ref c)]) e_X10_wordHere_63 rfl (by decide) (by decide) rfl ?_
      refine m_goto F e_X10_wordHere_66 ?_
      refine m_ldcS F e_X10_wordHere_15 F.sw.1.2.2 ?_
      refine m_iload_n F rfl e_X10_wordHere_17 ?_
      refine m_iload_n F rfl e_X10_wordHere_18 ?_
      refine m_iadd F e_X10_wordHere_19 ?_
      refine Wm.topE (w := 31) (by decide) ?_
      refine m_callO F e_X10_wordHere_20 (q_charAt (x_l X) V _ _ 31 (by omega)) cb_J0_charAt_5068e ml_X10_137 im_J0_charAt_5068e se_J0_charAt_5068e F.sw.2.2.2.2.2.2.1 rfl (rest := []) rfl (Nat.le_of_ble_eq_true rfl) ⟨Nat.le_of_ble_eq_true rfl, Nat.le_of_ble_eq_true rfl⟩ ⟨Nat.le_of_ble_eq_true rfl, Nat.le_of_ble_eq_true rfl⟩ (k' := 0) (z' := 0) (N' := N) rfl rfl rfl (fun r σ10966 hp => ?_)
      obtain ⟨rfl, rfl⟩ := hp
      refine Wm.topE (w := 110) (by decide) ?_
      refine m_bipush F (v := 32) (by decide) e_X10_wordHere_23 ?_
      refine m_icmp_eq F e_X10_wordHere_25 (fun q => absurd q (by decide)) (fun _ => ?_)
      refine m_aload_n F rfl e_X10_wordHere_28 ?_
      refine r_getC F e_X10_wordHere_29 fl_X10_107 h1 (f20) ?_
      refine m_iload_n F rfl e_X10_wordHere_32 ?_
      refine m_iadd F e_X10_wordHere_33 ?_
      refine Wm.topE (w := nI (st + 1)) (nI_add st 1) ?_
      refine m_aload_n F rfl e_X10_wordHere_34 ?_
      refine r_getC F e_X10_wordHere_35 fl_X10_97 h1 (f10957) ?_
      refine m_icmp_ge F e_X10_wordHere_38 (fun q38 => ?_) (fun q38 => ?_)
      · have c38 : (st + 1) ≥ P.a := (nI_leI (a := P.a) (b := (st + 1)) (by omega) (by omega)).mp q38
        refine m_ldcS F e_X10_wordHere_69 F.sw.1.2.2 ?_
        refine m_iload_n F rfl e_X10_wordHere_71 ?_
        refine m_iload_n F rfl e_X10_wordHere_72 ?_
        refine m_iadd F e_X10_wordHere_73 ?_
        refine Wm.topE (w := 31) (by decide) ?_
        refine m_callO F e_X10_wordHere_74 (q_charAt (x_l X) V _ _ 31 (by omega)) cb_J0_charAt_5068e ml_X10_137 im_J0_charAt_5068e se_J0_charAt_5068e F.sw.2.2.2.2.2.2.1 rfl (rest := []) rfl (Nat.le_of_ble_eq_true rfl) ⟨Nat.le_of_ble_eq_true rfl, Nat.le_of_ble_eq_true rfl⟩ ⟨Nat.le_of_ble_eq_true rfl, Nat.le_of_ble_eq_true rfl⟩ (k' := 0) (z' := 0) (N' := N) rfl rfl rfl (fun r σ10967 hp => ?_)
        obtain ⟨rfl, rfl⟩ := hp
        refine Wm.topE (w := 110) (by decide) ?_
        refine m_bipush F (v := 32) (by decide) e_X10_wordHere_77 ?_
        refine m_icmp_ne F e_X10_wordHere_79 (fun _ => ?_) (fun q => absurd q (by decide))
        refine Wm.lvsub (lv' := [(1, .int 6), (2, .int 30), (0, .ref c)]) ?_ [1, 2, 3] rfl
        exact wk_6 F hQ h1 f20 hB hn7 hsa hpn hl hm (fun hz => by have z1 : P.a = st + 5 := hz.1; have z2 : t (st + 1) = 110 := hz.2 1 (by decide); omega)
      · have c38 : (st + 1) < P.a := by have hh := mt (nI_leI (a := P.a) (b := (st + 1)) (by omega) (by omega)).mpr q38; omega
        refine m_aload_n F rfl e_X10_wordHere_41 ?_
        refine r_getC F e_X10_wordHere_42 fl_X10_7 h1 (f10959) ?_
        refine m_aload_n F rfl e_X10_wordHere_45 ?_
        refine r_getC F e_X10_wordHere_46 fl_X10_107 h1 (f20) ?_
        refine m_iload_n F rfl e_X10_wordHere_49 ?_
        refine m_iadd F e_X10_wordHere_50 ?_
        refine Wm.topE (w := nI (st + 1)) (nI_add st 1) ?_
        have hb10968 := (hB (st + 1) (by omega)).1
        refine r_iald F (len := 700) (j := st + 1) e_X10_wordHere_51 h1 (fun _ h => h) (by decide) (nI_clamp (by omega)) (vp_in_nI (by omega) (by decide)) (fun x10969 h10970 f10971 => ?_)
        obtain rfl := Option.some.inj ((f10971).symm.trans ((hB (st + 1) (by omega)).2))
        refine m_ldcS F e_X10_wordHere_52 F.sw.1.2.2 ?_
        refine m_iload_n F rfl e_X10_wordHere_54 ?_
        refine m_iload_n F rfl e_X10_wordHere_55 ?_
        refine m_iadd F e_X10_wordHere_56 ?_
        refine Wm.topE (w := 31) (by decide) ?_
        refine m_callO F e_X10_wordHere_57 (q_charAt (x_l X) V _ _ 31 (by omega)) cb_J0_charAt_5068e ml_X10_137 im_J0_charAt_5068e se_J0_charAt_5068e F.sw.2.2.2.2.2.2.1 rfl (rest := [.int (nI (t (st + 1)))]) rfl (Nat.le_of_ble_eq_true rfl) ⟨Nat.le_of_ble_eq_true rfl, Nat.le_of_ble_eq_true rfl⟩ ⟨Nat.le_of_ble_eq_true rfl, Nat.le_of_ble_eq_true rfl⟩ (k' := 0) (z' := 0) (N' := N) rfl rfl rfl (fun r σ10972 hp => ?_)
        obtain ⟨rfl, rfl⟩ := hp
        refine Wm.topE (w := 110) (by decide) ?_
        refine m_icmp_ne F e_X10_wordHere_60 (fun q60 => ?_) (fun q60 => ?_)
        · have c60 : (t (st + 1)) ≠ 110 := by have hh := mt (nI_eq (a := (t (st + 1))) (b := 110) (by omega) (by omega)).mpr q60; omega
          refine m_ldcS F e_X10_wordHere_69 F.sw.1.2.2 ?_
          refine m_iload_n F rfl e_X10_wordHere_71 ?_
          refine m_iload_n F rfl e_X10_wordHere_72 ?_
          refine m_iadd F e_X10_wordHere_73 ?_
          refine Wm.topE (w := 31) (by decide) ?_
          refine m_callO F e_X10_wordHere_74 (q_charAt (x_l X) V _ _ 31 (by omega)) cb_J0_charAt_5068e ml_X10_137 im_J0_charAt_5068e se_J0_charAt_5068e F.sw.2.2.2.2.2.2.1 rfl (rest := []) rfl (Nat.le_of_ble_eq_true rfl) ⟨Nat.le_of_ble_eq_true rfl, Nat.le_of_ble_eq_true rfl⟩ ⟨Nat.le_of_ble_eq_true rfl, Nat.le_of_ble_eq_true rfl⟩ (k' := 0) (z' := 0) (N' := N) rfl rfl rfl (fun r σ10973 hp => ?_)
          obtain ⟨rfl, rfl⟩ := hp
          refine Wm.topE (w := 110) (by decide) ?_
          refine m_bipush F (v := 32) (by decide) e_X10_wordHere_77 ?_
          refine m_icmp_ne F e_X10_wordHere_79 (fun _ => ?_) (fun q => absurd q (by decide))
          refine Wm.lvsub (lv' := [(1, .int 6), (2, .int 30), (0, .ref c)]) ?_ [1, 2, 3] rfl
          exact wk_6 F hQ h1 f20 hB hn7 hsa hpn hl hm (fun hz => by have z1 : P.a = st + 5 := hz.1; have z2 : t (st + 1) = 110 := hz.2 1 (by decide); omega)
        · have c60 : (t (st + 1)) = 110 := (nI_eq (a := (t (st + 1))) (b := 110) (by omega) (by omega)).mp q60
          refine m_iinc F (v := 2) (lv' := [(3, .int 2), (1, .int 6), (2, .int 30), (0, .ref c)]) e_X10_wordHere_63 rfl (by decide) (by decide) rfl ?_
          refine m_goto F e_X10_wordHere_66 ?_
          refine m_ldcS F e_X10_wordHere_15 F.sw.1.2.2 ?_
          refine m_iload_n F rfl e_X10_wordHere_17 ?_
          refine m_iload_n F rfl e_X10_wordHere_18 ?_
          refine m_iadd F e_X10_wordHere_19 ?_
          refine Wm.topE (w := 32) (by decide) ?_
          refine m_callO F e_X10_wordHere_20 (q_charAt (x_l X) V _ _ 32 (by omega)) cb_J0_charAt_5068e ml_X10_137 im_J0_charAt_5068e se_J0_charAt_5068e F.sw.2.2.2.2.2.2.1 rfl (rest := []) rfl (Nat.le_of_ble_eq_true rfl) ⟨Nat.le_of_ble_eq_true rfl, Nat.le_of_ble_eq_true rfl⟩ ⟨Nat.le_of_ble_eq_true rfl, Nat.le_of_ble_eq_true rfl⟩ (k' := 0) (z' := 0) (N' := N) rfl rfl rfl (fun r σ10974 hp => ?_)
          obtain ⟨rfl, rfl⟩ := hp
          refine Wm.topE (w := 100) (by decide) ?_
          refine m_bipush F (v := 32) (by decide) e_X10_wordHere_23 ?_
          refine m_icmp_eq F e_X10_wordHere_25 (fun q => absurd q (by decide)) (fun _ => ?_)
          refine m_aload_n F rfl e_X10_wordHere_28 ?_
          refine r_getC F e_X10_wordHere_29 fl_X10_107 h1 (f20) ?_
          refine m_iload_n F rfl e_X10_wordHere_32 ?_
          refine m_iadd F e_X10_wordHere_33 ?_
          refine Wm.topE (w := nI (st + 2)) (nI_add st 2) ?_
          refine m_aload_n F rfl e_X10_wordHere_34 ?_
          refine r_getC F e_X10_wordHere_35 fl_X10_97 h1 (f10957) ?_
          refine m_icmp_ge F e_X10_wordHere_38 (fun q38 => ?_) (fun q38 => ?_)
          · have c38 : (st + 2) ≥ P.a := (nI_leI (a := P.a) (b := (st + 2)) (by omega) (by omega)).mp q38
            refine m_ldcS F e_X10_wordHere_69 F.sw.1.2.2 ?_
            refine m_iload_n F rfl e_X10_wordHere_71 ?_
            refine m_iload_n F rfl e_X10_wordHere_72 ?_
            refine m_iadd F e_X10_wordHere_73 ?_
            refine Wm.topE (w := 32) (by decide) ?_
            refine m_callO F e_X10_wordHere_74 (q_charAt (x_l X) V _ _ 32 (by omega)) cb_J0_charAt_5068e ml_X10_137 im_J0_charAt_5068e se_J0_charAt_5068e F.sw.2.2.2.2.2.2.1 rfl (rest := []) rfl (Nat.le_of_ble_eq_true rfl) ⟨Nat.le_of_ble_eq_true rfl, Nat.le_of_ble_eq_true rfl⟩ ⟨Nat.le_of_ble_eq_true rfl, Nat.le_of_ble_eq_true rfl⟩ (k' := 0) (z' := 0) (N' := N) rfl rfl rfl (fun r σ10975 hp => ?_)
            obtain ⟨rfl, rfl⟩ := hp
            refine Wm.topE (w := 100) (by decide) ?_
            refine m_bipush F (v := 32) (by decide) e_X10_wordHere_77 ?_
            refine m_icmp_ne F e_X10_wordHere_79 (fun _ => ?_) (fun q => absurd q (by decide))
            refine Wm.lvsub (lv' := [(1, .int 6), (2, .int 30), (0, .ref c)]) ?_ [1, 2, 3] rfl
            exact wk_6 F hQ h1 f20 hB hn7 hsa hpn hl hm (fun hz => by have z1 : P.a = st + 5 := hz.1; have z2 : t (st + 2) = 100 := hz.2 2 (by decide); omega)
          · have c38 : (st + 2) < P.a := by have hh := mt (nI_leI (a := P.a) (b := (st + 2)) (by omega) (by omega)).mpr q38; omega
            refine m_aload_n F rfl e_X10_wordHere_41 ?_
            refine r_getC F e_X10_wordHere_42 fl_X10_7 h1 (f10959) ?_
            refine m_aload_n F rfl e_X10_wordHere_45 ?_
            refine r_getC F e_X10_wordHere_46 fl_X10_107 h1 (f20) ?_
            refine m_iload_n F rfl e_X10_wordHere_49 ?_
            refine m_iadd F e_X10_wordHere_50 ?_
            refine Wm.topE (w := nI (st + 2)) (nI_add st 2) ?_
            have hb10976 := (hB (st + 2) (by omega)).1
            refine r_iald F (len := 700) (j := st + 2) e_X10_wordHere_51 h1 (fun _ h => h) (by decide) (nI_clamp (by omega)) (vp_in_nI (by omega) (by decide)) (fun x10977 h10978 f10979 => ?_)
            obtain rfl := Option.some.inj ((f10979).symm.trans ((hB (st + 2) (by omega)).2))
            refine m_ldcS F e_X10_wordHere_52 F.sw.1.2.2 ?_
            refine m_iload_n F rfl e_X10_wordHere_54 ?_
            refine m_iload_n F rfl e_X10_wordHere_55 ?_
            refine m_iadd F e_X10_wordHere_56 ?_
            refine Wm.topE (w := 32) (by decide) ?_
            refine m_callO F e_X10_wordHere_57 (q_charAt (x_l X) V _ _ 32 (by omega)) cb_J0_charAt_5068e ml_X10_137 im_J0_charAt_5068e se_J0_charAt_5068e F.sw.2.2.2.2.2.2.1 rfl (rest := [.int (nI (t (st + 2)))]) rfl (Nat.le_of_ble_eq_true rfl) ⟨Nat.le_of_ble_eq_true rfl, Nat.le_of_ble_eq_true rfl⟩ ⟨Nat.le_of_ble_eq_true rfl, Nat.le_of_ble_eq_true rfl⟩ (k' := 0) (z' := 0) (N' := N) rfl rfl rfl (fun r σ10980 hp => ?_)
            obtain ⟨rfl, rfl⟩ := hp
            refine Wm.topE (w := 100) (by decide) ?_
            refine m_icmp_ne F e_X10_wordHere_60 (fun q60 => ?_) (fun q60 => ?_)
            · have c60 : (t (st + 2)) ≠ 100 := by have hh := mt (nI_eq (a := (t (st + 2))) (b := 100) (by omega) (by omega)).mpr q60; omega
              refine m_ldcS F e_X10_wordHere_69 F.sw.1.2.2 ?_
              refine m_iload_n F rfl e_X10_wordHere_71 ?_
              refine m_iload_n F rfl e_X10_wordHere_72 ?_
              refine m_iadd F e_X10_wordHere_73 ?_
              refine Wm.topE (w := 32) (by decide) ?_
              refine m_callO F e_X10_wordHere_74 (q_charAt (x_l X) V _ _ 32 (by omega)) cb_J0_charAt_5068e ml_X10_137 im_J0_charAt_5068e se_J0_charAt_5068e F.sw.2.2.2.2.2.2.1 rfl (rest := []) rfl (Nat.le_of_ble_eq_true rfl) ⟨Nat.le_of_ble_eq_true rfl, Nat.le_of_ble_eq_true rfl⟩ ⟨Nat.le_of_ble_eq_true rfl, Nat.le_of_ble_eq_true rfl⟩ (k' := 0) (z' := 0) (N' := N) rfl rfl rfl (fun r σ10981 hp => ?_)
              obtain ⟨rfl, rfl⟩ := hp
              refine Wm.topE (w := 100) (by decide) ?_
              refine m_bipush F (v := 32) (by decide) e_X10_wordHere_77 ?_
              refine m_icmp_ne F e_X10_wordHere_79 (fun _ => ?_) (fun q => absurd q (by decide))
              refine Wm.lvsub (lv' := [(1, .int 6), (2, .int 30), (0, .ref c)]) ?_ [1, 2, 3] rfl
              exact wk_6 F hQ h1 f20 hB hn7 hsa hpn hl hm (fun hz => by have z1 : P.a = st + 5 := hz.1; have z2 : t (st + 2) = 100 := hz.2 2 (by decide); omega)
            · have c60 : (t (st + 2)) = 100 := (nI_eq (a := (t (st + 2))) (b := 100) (by omega) (by omega)).mp q60
              refine m_iinc F (v := 3) (lv' := [(3, .int 3), (1, .int 6), (2, .int 30), (0, .ref c)]) e_X10_wordHere_63 rfl (by decide) (by decide) rfl ?_
              refine m_goto F e_X10_wordHere_66 ?_
              refine m_ldcS F e_X10_wordHere_15 F.sw.1.2.2 ?_
              refine m_iload_n F rfl e_X10_wordHere_17 ?_
              refine m_iload_n F rfl e_X10_wordHere_18 ?_
              refine m_iadd F e_X10_wordHere_19 ?_
              refine Wm.topE (w := 33) (by decide) ?_
              refine m_callO F e_X10_wordHere_20 (q_charAt (x_l X) V _ _ 33 (by omega)) cb_J0_charAt_5068e ml_X10_137 im_J0_charAt_5068e se_J0_charAt_5068e F.sw.2.2.2.2.2.2.1 rfl (rest := []) rfl (Nat.le_of_ble_eq_true rfl) ⟨Nat.le_of_ble_eq_true rfl, Nat.le_of_ble_eq_true rfl⟩ ⟨Nat.le_of_ble_eq_true rfl, Nat.le_of_ble_eq_true rfl⟩ (k' := 0) (z' := 0) (N' := N) rfl rfl rfl (fun r σ10982 hp => ?_)
              obtain ⟨rfl, rfl⟩ := hp
              refine Wm.topE (w := 101) (by decide) ?_
              refine m_bipush F (v := 32) (by decide) e_X10_wordHere_23 ?_
              refine m_icmp_eq F e_X10_wordHere_25 (fun q => absurd q (by decide)) (fun _ => ?_)
              refine m_aload_n F rfl e_X10_wordHere_28 ?_
              refine r_getC F e_X10_wordHere_29 fl_X10_107 h1 (f20) ?_
              refine m_iload_n F rfl e_X10_wordHere_32 ?_
              refine m_iadd F e_X10_wordHere_33 ?_
              refine Wm.topE (w := nI (st + 3)) (nI_add st 3) ?_
              refine m_aload_n F rfl e_X10_wordHere_34 ?_
              refine r_getC F e_X10_wordHere_35 fl_X10_97 h1 (f10957) ?_
              refine m_icmp_ge F e_X10_wordHere_38 (fun q38 => ?_) (fun q38 => ?_)
              · have c38 : (st + 3) ≥ P.a := (nI_leI (a := P.a) (b := (st + 3)) (by omega) (by omega)).mp q38
                refine m_ldcS F e_X10_wordHere_69 F.sw.1.2.2 ?_
                refine m_iload_n F rfl e_X10_wordHere_71 ?_
                refine m_iload_n F rfl e_X10_wordHere_72 ?_
                refine m_iadd F e_X10_wordHere_73 ?_
                refine Wm.topE (w := 33) (by decide) ?_
                refine m_callO F e_X10_wordHere_74 (q_charAt (x_l X) V _ _ 33 (by omega)) cb_J0_charAt_5068e ml_X10_137 im_J0_charAt_5068e se_J0_charAt_5068e F.sw.2.2.2.2.2.2.1 rfl (rest := []) rfl (Nat.le_of_ble_eq_true rfl) ⟨Nat.le_of_ble_eq_true rfl, Nat.le_of_ble_eq_true rfl⟩ ⟨Nat.le_of_ble_eq_true rfl, Nat.le_of_ble_eq_true rfl⟩ (k' := 0) (z' := 0) (N' := N) rfl rfl rfl (fun r σ10983 hp => ?_)
                obtain ⟨rfl, rfl⟩ := hp
                refine Wm.topE (w := 101) (by decide) ?_
                refine m_bipush F (v := 32) (by decide) e_X10_wordHere_77 ?_
                refine m_icmp_ne F e_X10_wordHere_79 (fun _ => ?_) (fun q => absurd q (by decide))
                refine Wm.lvsub (lv' := [(1, .int 6), (2, .int 30), (0, .ref c)]) ?_ [1, 2, 3] rfl
                exact wk_6 F hQ h1 f20 hB hn7 hsa hpn hl hm (fun hz => by have z1 : P.a = st + 5 := hz.1; have z2 : t (st + 3) = 101 := hz.2 3 (by decide); omega)
              · have c38 : (st + 3) < P.a := by have hh := mt (nI_leI (a := P.a) (b := (st + 3)) (by omega) (by omega)).mpr q38; omega
                refine m_aload_n F rfl e_X10_wordHere_41 ?_
                refine r_getC F e_X10_wordHere_42 fl_X10_7 h1 (f10959) ?_
                refine m_aload_n F rfl e_X10_wordHere_45 ?_
                refine r_getC F e_X10_wordHere_46 fl_X10_107 h1 (f20) ?_
                refine m_iload_n F rfl e_X10_wordHere_49 ?_
                refine m_iadd F e_X10_wordHere_50 ?_
                refine Wm.topE (w := nI (st + 3)) (nI_add st 3) ?_
                have hb10984 := (hB (st + 3) (by omega)).1
                refine r_iald F (len := 700) (j := st + 3) e_X10_wordHere_51 h1 (fun _ h => h) (by decide) (nI_clamp (by omega)) (vp_in_nI (by omega) (by decide)) (fun x10985 h10986 f10987 => ?_)
                obtain rfl := Option.some.inj ((f10987).symm.trans ((hB (st + 3) (by omega)).2))
                refine m_ldcS F e_X10_wordHere_52 F.sw.1.2.2 ?_
                refine m_iload_n F rfl e_X10_wordHere_54 ?_
                refine m_iload_n F rfl e_X10_wordHere_55 ?_
                refine m_iadd F e_X10_wordHere_56 ?_
                refine Wm.topE (w := 33) (by decide) ?_
                refine m_callO F e_X10_wordHere_57 (q_charAt (x_l X) V _ _ 33 (by omega)) cb_J0_charAt_5068e ml_X10_137 im_J0_charAt_5068e se_J0_charAt_5068e F.sw.2.2.2.2.2.2.1 rfl (rest := [.int (nI (t (st + 3)))]) rfl (Nat.le_of_ble_eq_true rfl) ⟨Nat.le_of_ble_eq_true rfl, Nat.le_of_ble_eq_true rfl⟩ ⟨Nat.le_of_ble_eq_true rfl, Nat.le_of_ble_eq_true rfl⟩ (k' := 0) (z' := 0) (N' := N) rfl rfl rfl (fun r σ10988 hp => ?_)
                obtain ⟨rfl, rfl⟩ := hp
                refine Wm.topE (w := 101) (by decide) ?_
                refine m_icmp_ne F e_X10_wordHere_60 (fun q60 => ?_) (fun q60 => ?_)
                · have c60 : (t (st + 3)) ≠ 101 := by have hh := mt (nI_eq (a := (t (st + 3))) (b := 101) (by omega) (by omega)).mpr q60; omega
                  refine m_ldcS F e_X10_wordHere_69 F.sw.1.2.2 ?_
                  refine m_iload_n F rfl e_X10_wordHere_71 ?_
                  refine m_iload_n F rfl e_X10_wordHere_72 ?_
                  refine m_iadd F e_X10_wordHere_73 ?_
                  refine Wm.topE (w := 33) (by decide) ?_
                  refine m_callO F e_X10_wordHere_74 (q_charAt (x_l X) V _ _ 33 (by omega)) cb_J0_charAt_5068e ml_X10_137 im_J0_charAt_5068e se_J0_charAt_5068e F.sw.2.2.2.2.2.2.1 rfl (rest := []) rfl (Nat.le_of_ble_eq_true rfl) ⟨Nat.le_of_ble_eq_true rfl, Nat.le_of_ble_eq_true rfl⟩ ⟨Nat.le_of_ble_eq_true rfl, Nat.le_of_ble_eq_true rfl⟩ (k' := 0) (z' := 0) (N' := N) rfl rfl rfl (fun r σ10989 hp => ?_)
                  obtain ⟨rfl, rfl⟩ := hp
                  refine Wm.topE (w := 101) (by decide) ?_
                  refine m_bipush F (v := 32) (by decide) e_X10_wordHere_77 ?_
                  refine m_icmp_ne F e_X10_wordHere_79 (fun _ => ?_) (fun q => absurd q (by decide))
                  refine Wm.lvsub (lv' := [(1, .int 6), (2, .int 30), (0, .ref c)]) ?_ [1, 2, 3] rfl
                  exact wk_6 F hQ h1 f20 hB hn7 hsa hpn hl hm (fun hz => by have z1 : P.a = st + 5 := hz.1; have z2 : t (st + 3) = 101 := hz.2 3 (by decide); omega)
                · have c60 : (t (st + 3)) = 101 := (nI_eq (a := (t (st + 3))) (b := 101) (by omega) (by omega)).mp q60
                  refine m_iinc F (v := 4) (lv' := [(3, .int 4), (1, .int 6), (2, .int 30), (0, .ref c)]) e_X10_wordHere_63 rfl (by decide) (by decide) rfl ?_
                  refine m_goto F e_X10_wordHere_66 ?_
                  refine m_ldcS F e_X10_wordHere_15 F.sw.1.2.2 ?_
                  refine m_iload_n F rfl e_X10_wordHere_17 ?_
                  refine m_iload_n F rfl e_X10_wordHere_18 ?_
                  refine m_iadd F e_X10_wordHere_19 ?_
                  refine Wm.topE (w := 34) (by decide) ?_
                  refine m_callO F e_X10_wordHere_20 (q_charAt (x_l X) V _ _ 34 (by omega)) cb_J0_charAt_5068e ml_X10_137 im_J0_charAt_5068e se_J0_charAt_5068e F.sw.2.2.2.2.2.2.1 rfl (rest := []) rfl (Nat.le_of_ble_eq_true rfl) ⟨Nat.le_of_ble_eq_true rfl, Nat.le_of_ble_eq_true rfl⟩ ⟨Nat.le_of_ble_eq_true rfl, Nat.le_of_ble_eq_true rfl⟩ (k' := 0) (z' := 0) (N' := N) rfl rfl rfl (fun r σ10990 hp => ?_)
                  obtain ⟨rfl, rfl⟩ := hp
                  refine Wm.topE (w := 120) (by decide) ?_
                  refine m_bipush F (v := 32) (by decide) e_X10_wordHere_23 ?_
                  refine m_icmp_eq F e_X10_wordHere_25 (fun q => absurd q (by decide)) (fun _ => ?_)
                  refine m_aload_n F rfl e_X10_wordHere_28 ?_
                  refine r_getC F e_X10_wordHere_29 fl_X10_107 h1 (f20) ?_
                  refine m_iload_n F rfl e_X10_wordHere_32 ?_
                  refine m_iadd F e_X10_wordHere_33 ?_
                  refine Wm.topE (w := nI (st + 4)) (nI_add st 4) ?_
                  refine m_aload_n F rfl e_X10_wordHere_34 ?_
                  refine r_getC F e_X10_wordHere_35 fl_X10_97 h1 (f10957) ?_
                  refine m_icmp_ge F e_X10_wordHere_38 (fun q38 => ?_) (fun q38 => ?_)
                  · have c38 : (st + 4) ≥ P.a := (nI_leI (a := P.a) (b := (st + 4)) (by omega) (by omega)).mp q38
                    refine m_ldcS F e_X10_wordHere_69 F.sw.1.2.2 ?_
                    refine m_iload_n F rfl e_X10_wordHere_71 ?_
                    refine m_iload_n F rfl e_X10_wordHere_72 ?_
                    refine m_iadd F e_X10_wordHere_73 ?_
                    refine Wm.topE (w := 34) (by decide) ?_
                    refine m_callO F e_X10_wordHere_74 (q_charAt (x_l X) V _ _ 34 (by omega)) cb_J0_charAt_5068e ml_X10_137 im_J0_charAt_5068e se_J0_charAt_5068e F.sw.2.2.2.2.2.2.1 rfl (rest := []) rfl (Nat.le_of_ble_eq_true rfl) ⟨Nat.le_of_ble_eq_true rfl, Nat.le_of_ble_eq_true rfl⟩ ⟨Nat.le_of_ble_eq_true rfl, Nat.le_of_ble_eq_true rfl⟩ (k' := 0) (z' := 0) (N' := N) rfl rfl rfl (fun r σ10991 hp => ?_)
                    obtain ⟨rfl, rfl⟩ := hp
                    refine Wm.topE (w := 120) (by decide) ?_
                    refine m_bipush F (v := 32) (by decide) e_X10_wordHere_77 ?_
                    refine m_icmp_ne F e_X10_wordHere_79 (fun _ => ?_) (fun q => absurd q (by decide))
                    refine Wm.lvsub (lv' := [(1, .int 6), (2, .int 30), (0, .ref c)]) ?_ [1, 2, 3] rfl
                    exact wk_6 F hQ h1 f20 hB hn7 hsa hpn hl hm (fun hz => by have z1 : P.a = st + 5 := hz.1; have z2 : t (st + 4) = 120 := hz.2 4 (by decide); omega)
                  · have c38 : (st + 4) < P.a := by have hh := mt (nI_leI (a := P.a) (b := (st + 4)) (by omega) (by omega)).mpr q38; omega
                    refine m_aload_n F rfl e_X10_wordHere_41 ?_
                    refine r_getC F e_X10_wordHere_42 fl_X10_7 h1 (f10959) ?_
                    refine m_aload_n F rfl e_X10_wordHere_45 ?_
                    refine r_getC F e_X10_wordHere_46 fl_X10_107 h1 (f20) ?_
                    refine m_iload_n F rfl e_X10_wordHere_49 ?_
                    refine m_iadd F e_X10_wordHere_50 ?_
                    refine Wm.topE (w := nI (st + 4)) (nI_add st 4) ?_
                    have hb10992 := (hB (st + 4) (by omega)).1
                    refine r_iald F (len := 700) (j := st + 4) e_X10_wordHere_51 h1 (fun _ h => h) (by decide) (nI_clamp (by omega)) (vp_in_nI (by omega) (by decide)) (fun x10993 h10994 f10995 => ?_)
                    obtain rfl := Option.some.inj ((f10995).symm.trans ((hB (st + 4) (by omega)).2))
                    refine m_ldcS F e_X10_wordHere_52 F.sw.1.2.2 ?_
                    refine m_iload_n F rfl e_X10_wordHere_54 ?_
                    refine m_iload_n F rfl e_X10_wordHere_55 ?_
                    refine m_iadd F e_X10_wordHere_56 ?_
                    refine Wm.topE (w := 34) (by decide) ?_
                    refine m_callO F e_X10_wordHere_57 (q_charAt (x_l X) V _ _ 34 (by omega)) cb_J0_charAt_5068e ml_X10_137 im_J0_charAt_5068e se_J0_charAt_5068e F.sw.2.2.2.2.2.2.1 rfl (rest := [.int (nI (t (st + 4)))]) rfl (Nat.le_of_ble_eq_true rfl) ⟨Nat.le_of_ble_eq_true rfl, Nat.le_of_ble_eq_true rfl⟩ ⟨Nat.le_of_ble_eq_true rfl, Nat.le_of_ble_eq_true rfl⟩ (k' := 0) (z' := 0) (N' := N) rfl rfl rfl (fun r σ10996 hp => ?_)
                    obtain ⟨rfl, rfl⟩ := hp
                    refine Wm.topE (w := 120) (by decide) ?_
                    refine m_icmp_ne F e_X10_wordHere_60 (fun q60 => ?_) (fun q60 => ?_)
                    · have c60 : (t (st + 4)) ≠ 120 := by have hh := mt (nI_eq (a := (t (st + 4))) (b := 120) (by omega) (by omega)).mpr q60; omega
                      refine m_ldcS F e_X10_wordHere_69 F.sw.1.2.2 ?_
                      refine m_iload_n F rfl e_X10_wordHere_71 ?_
                      refine m_iload_n F rfl e_X10_wordHere_72 ?_
                      refine m_iadd F e_X10_wordHere_73 ?_
                      refine Wm.topE (w := 34) (by decide) ?_
                      refine m_callO F e_X10_wordHere_74 (q_charAt (x_l X) V _ _ 34 (by omega)) cb_J0_charAt_5068e ml_X10_137 im_J0_charAt_5068e se_J0_charAt_5068e F.sw.2.2.2.2.2.2.1 rfl (rest := []) rfl (Nat.le_of_ble_eq_true rfl) ⟨Nat.le_of_ble_eq_true rfl, Nat.le_of_ble_eq_true rfl⟩ ⟨Nat.le_of_ble_eq_true rfl, Nat.le_of_ble_eq_true rfl⟩ (k' := 0) (z' := 0) (N' := N) rfl rfl rfl (fun r σ10997 hp => ?_)
                      obtain ⟨rfl, rfl⟩ := hp
                      refine Wm.topE (w := 120) (by decide) ?_
                      refine m_bipush F (v := 32) (by decide) e_X10_wordHere_77 ?_
                      refine m_icmp_ne F e_X10_wordHere_79 (fun _ => ?_) (fun q => absurd q (by decide))
                      refine Wm.lvsub (lv' := [(1, .int 6), (2, .int 30), (0, .ref c)]) ?_ [1, 2, 3] rfl
                      exact wk_6 F hQ h1 f20 hB hn7 hsa hpn hl hm (fun hz => by have z1 : P.a = st + 5 := hz.1; have z2 : t (st + 4) = 120 := hz.2 4 (by decide); omega)
                    · have c60 : (t (st + 4)) = 120 := (nI_eq (a := (t (st + 4))) (b := 120) (by omega) (by omega)).mp q60
                      refine m_iinc F (v := 5) (lv' := [(3, .int 5), (1, .int 6), (2, .int 30), (0, .ref c)]) e_X10_wordHere_63 rfl (by decide) (by decide) rfl ?_
                      refine m_goto F e_X10_wordHere_66 ?_
                      refine m_ldcS F e_X10_wordHere_15 F.sw.1.2.2 ?_
                      refine m_iload_n F rfl e_X10_wordHere_17 ?_
                      refine m_iload_n F rfl e_X10_wordHere_18 ?_
                      refine m_iadd F e_X10_wordHere_19 ?_
                      refine Wm.topE (w := 35) (by decide) ?_
                      refine m_callO F e_X10_wordHere_20 (q_charAt (x_l X) V _ _ 35 (by omega)) cb_J0_charAt_5068e ml_X10_137 im_J0_charAt_5068e se_J0_charAt_5068e F.sw.2.2.2.2.2.2.1 rfl (rest := []) rfl (Nat.le_of_ble_eq_true rfl) ⟨Nat.le_of_ble_eq_true rfl, Nat.le_of_ble_eq_true rfl⟩ ⟨Nat.le_of_ble_eq_true rfl, Nat.le_of_ble_eq_true rfl⟩ (k' := 0) (z' := 0) (N' := N) rfl rfl rfl (fun r σ10998 hp => ?_)
                      obtain ⟨rfl, rfl⟩ := hp
                      refine Wm.topE (w := 32) (by decide) ?_
                      refine m_bipush F (v := 32) (by decide) e_X10_wordHere_23 ?_
                      refine m_icmp_eq F e_X10_wordHere_25 (fun _ => ?_) (fun q => absurd (by decide) q)
                      refine m_ldcS F e_X10_wordHere_69 F.sw.1.2.2 ?_
                      refine m_iload_n F rfl e_X10_wordHere_71 ?_
                      refine m_iload_n F rfl e_X10_wordHere_72 ?_
                      refine m_iadd F e_X10_wordHere_73 ?_
                      refine Wm.topE (w := 35) (by decide) ?_
                      refine m_callO F e_X10_wordHere_74 (q_charAt (x_l X) V _ _ 35 (by omega)) cb_J0_charAt_5068e ml_X10_137 im_J0_charAt_5068e se_J0_charAt_5068e F.sw.2.2.2.2.2.2.1 rfl (rest := []) rfl (Nat.le_of_ble_eq_true rfl) ⟨Nat.le_of_ble_eq_true rfl, Nat.le_of_ble_eq_true rfl⟩ ⟨Nat.le_of_ble_eq_true rfl, Nat.le_of_ble_eq_true rfl⟩ (k' := 0) (z' := 0) (N' := N) rfl rfl rfl (fun r σ10999 hp => ?_)
                      obtain ⟨rfl, rfl⟩ := hp
                      refine Wm.topE (w := 32) (by decide) ?_
                      refine m_bipush F (v := 32) (by decide) e_X10_wordHere_77 ?_
                      refine m_icmp_ne F e_X10_wordHere_79 (fun q => absurd (by decide) q) (fun _ => ?_)
                      refine m_aload_n F rfl e_X10_wordHere_82 ?_
                      refine r_getC F e_X10_wordHere_83 fl_X10_107 h1 (f20) ?_
                      refine m_iload_n F rfl e_X10_wordHere_86 ?_
                      refine m_iadd F e_X10_wordHere_87 ?_
                      refine Wm.topE (w := nI (st + 5)) (nI_add st 5) ?_
                      refine m_aload_n F rfl e_X10_wordHere_88 ?_
                      refine r_getC F e_X10_wordHere_89 fl_X10_97 h1 (f10957) ?_
                      refine m_icmp_ne F e_X10_wordHere_92 (fun q92 => ?_) (fun q92 => ?_)
                      · have c92 : (st + 5) ≠ P.a := by have hh := mt (nI_eq (a := (st + 5)) (b := P.a) (by omega) (by omega)).mpr q92; omega
                        refine Wm.lvsub (lv' := [(1, .int 6), (2, .int 30), (0, .ref c)]) ?_ [1, 2, 3] rfl
                        exact wk_6 F hQ h1 f20 hB hn7 hsa hpn hl hm (fun hz => by have z1 : P.a = st + 5 := hz.1; omega)
                      · have c92 : (st + 5) = P.a := (nI_eq (a := (st + 5)) (b := P.a) (by omega) (by omega)).mp q92
                        refine m_iload_n F rfl e_X10_wordHere_95 ?_
                        have hz : mw t st P.a 6 := by
                          refine ⟨(show P.a = st + 5 by omega), fun i hi => ?_⟩
                          have hi2 : i = 0 ∨ i = 1 ∨ i = 2 ∨ i = 3 ∨ i = 4 := by have hi3 : i < 5 := hi; omega
                          rcases hi2 with rfl | rfl | rfl | rfl | rfl
                          · show t (st + 0) = 105; first | assumption | omega
                          · show t (st + 1) = 110; first | assumption | omega
                          · show t (st + 2) = 100; first | assumption | omega
                          · show t (st + 3) = 101; first | assumption | omega
                          · show t (st + 4) = 120; first | assumption | omega
                        have hy := kix_mw hsa hl (by decide) hz
                        exact m_iret F hQ e_X10_wordHere_96 ⟨h1, Or.inl ⟨hy.1, by rw [hy.2]; decide, by rw [hy.2]; rfl⟩⟩
set_option maxRecDepth 20000 in
theorem wk_5 {V : VX} {X : MX} {N : Nat} {σ : Mem} {c T Z u h : Nat} {P : NP} {L : Nat → LQ} {n st : Nat} {t : Nat → Nat} (F : Fx V X yX10_wordHere cX10_wordHere 4 (some .int) (rmd 4 0 0)) (hQ : Rt V X 0 0 N (fun r τ => HS V c (⟨T, Z, u, h, P, L⟩ : RG) [0, 1, 2, 3, 4, 5, 6, 7, 8, 9, 10, 11, 12, 13, 14, 15, 16, 17, 18, 19, 20, 21, 22, 23] σ τ ∧ ((P.a - st ≤ 6 ∧ kix (nmc t st P.a 6) < 9 ∧ r = some (.int (nI (kix (nmc t st P.a 6))))) ∨ (¬ (P.a - st ≤ 6 ∧ kix (nmc t st P.a 6) < 9) ∧ r = some (.int (-1)))))) (h1 : HS V c ⟨T, Z, u, h, P, L⟩ [0, 1, 2, 3, 4, 5, 6, 7, 8, 9, 10, 11, 12, 13, 14, 15, 16, 17, 18, 19, 20, 21, 22, 23] σ σ) (f20 : fld σ c 20 = some (.int (nI st))) (hB : BR σ c n t) (hn7 : n ≤ 700) (hsa : st < P.a) (hpn : P.a ≤ n) (hl : ∀ i, st ≤ i → i < P.a → isL (t i) = true) (hm : ∀ m, m < 5 → ¬ mw t st P.a m) (hz : ¬ mw t st P.a 5) : Wm V X 4 N σ 0 0 97 [(1, .int 5), (2, .int 25), (0, .ref c)] [] := by
  refine m_ldcS F e_X10_wordHere_97 F.sw.1.2.2 ?_
  refine m_iload_n F rfl e_X10_wordHere_99 ?_
  refine m_callO F e_X10_wordHere_100 (q_charAt (x_l X) V _ _ 25 (by omega)) cb_J0_charAt_5068e ml_X10_137 im_J0_charAt_5068e se_J0_charAt_5068e F.sw.2.2.2.2.2.2.1 rfl (rest := []) rfl (Nat.le_of_ble_eq_true rfl) ⟨Nat.le_of_ble_eq_true rfl, Nat.le_of_ble_eq_true rfl⟩ ⟨Nat.le_of_ble_eq_true rfl, Nat.le_of_ble_eq_true rfl⟩ (k' := 0) (z' := 0) (N' := N) rfl rfl rfl (fun r σ11000 hp => ?_)
  obtain ⟨rfl, rfl⟩ := hp
  refine Wm.topE (w := 116) (by decide) ?_
  refine m_bipush F (v := 32) (by decide) e_X10_wordHere_103 ?_
  refine m_icmp_eq F e_X10_wordHere_105 (fun q => absurd q (by decide)) (fun _ => ?_)
  refine m_iinc F (v := 26) (lv' := [(2, .int 26), (1, .int 5), (0, .ref c)]) e_X10_wordHere_108 rfl (by decide) (by decide) rfl ?_
  refine m_goto F e_X10_wordHere_111 ?_
  refine m_ldcS F e_X10_wordHere_97 F.sw.1.2.2 ?_
  refine m_iload_n F rfl e_X10_wordHere_99 ?_
  refine m_callO F e_X10_wordHere_100 (q_charAt (x_l X) V _ _ 26 (by omega)) cb_J0_charAt_5068e ml_X10_137 im_J0_charAt_5068e se_J0_charAt_5068e F.sw.2.2.2.2.2.2.1 rfl (rest := []) rfl (Nat.le_of_ble_eq_true rfl) ⟨Nat.le_of_ble_eq_true rfl, Nat.le_of_ble_eq_true rfl⟩ ⟨Nat.le_of_ble_eq_true rfl, Nat.le_of_ble_eq_true rfl⟩ (k' := 0) (z' := 0) (N' := N) rfl rfl rfl (fun r σ11001 hp => ?_)
  obtain ⟨rfl, rfl⟩ := hp
  refine Wm.topE (w := 105) (by decide) ?_
  refine m_bipush F (v := 32) (by decide) e_X10_wordHere_103 ?_
  refine m_icmp_eq F e_X10_wordHere_105 (fun q => absurd q (by decide)) (fun _ => ?_)
  refine m_iinc F (v := 27) (lv' := [(2, .int 27), (1, .int 5), (0, .ref c)]) e_X10_wordHere_108 rfl (by decide) (by decide) rfl ?_
  refine m_goto F e_X10_wordHere_111 ?_
  refine m_ldcS F e_X10_wordHere_97 F.sw.1.2.2 ?_
  refine m_iload_n F rfl e_X10_wordHere_99 ?_
  refine m_callO F e_X10_wordHere_100 (q_charAt (x_l X) V _ _ 27 (by omega)) cb_J0_charAt_5068e ml_X10_137 im_J0_charAt_5068e se_J0_charAt_5068e F.sw.2.2.2.2.2.2.1 rfl (rest := []) rfl (Nat.le_of_ble_eq_true rfl) ⟨Nat.le_of_ble_eq_true rfl, Nat.le_of_ble_eq_true rfl⟩ ⟨Nat.le_of_ble_eq_true rfl, Nat.le_of_ble_eq_true rfl⟩ (k' := 0) (z' := 0) (N' := N) rfl rfl rfl (fun r σ11002 hp => ?_)
  obtain ⟨rfl, rfl⟩ := hp
  refine Wm.topE (w := 101) (by decide) ?_
  refine m_bipush F (v := 32) (by decide) e_X10_wordHere_103 ?_
  refine m_icmp_eq F e_X10_wordHere_105 (fun q => absurd q (by decide)) (fun _ => ?_)
  refine m_iinc F (v := 28) (lv' := [(2, .int 28), (1, .int 5), (0, .ref c)]) e_X10_wordHere_108 rfl (by decide) (by decide) rfl ?_
  refine m_goto F e_X10_wordHere_111 ?_
  refine m_ldcS F e_X10_wordHere_97 F.sw.1.2.2 ?_
  refine m_iload_n F rfl e_X10_wordHere_99 ?_
  refine m_callO F e_X10_wordHere_100 (q_charAt (x_l X) V _ _ 28 (by omega)) cb_J0_charAt_5068e ml_X10_137 im_J0_charAt_5068e se_J0_charAt_5068e F.sw.2.2.2.2.2.2.1 rfl (rest := []) rfl (Nat.le_of_ble_eq_true rfl) ⟨Nat.le_of_ble_eq_true rfl, Nat.le_of_ble_eq_true rfl⟩ ⟨Nat.le_of_ble_eq_true rfl, Nat.le_of_ble_eq_true rfl⟩ (k' := 0) (z' := 0) (N' := N) rfl rfl rfl (fun r σ11003 hp => ?_)
  obtain ⟨rfl, rfl⟩ := hp
  refine Wm.topE (w := 100) (by decide) ?_
  refine m_bipush F (v := 32) (by decide) e_X10_wordHere_103 ?_
  refine m_icmp_eq F e_X10_wordHere_105 (fun q => absurd q (by decide)) (fun _ => ?_)
  refine m_iinc F (v := 29) (lv' := [(2, .int 29), (1, .int 5), (0, .ref c)]) e_X10_wordHere_108 rfl (by decide) (by decide) rfl ?_
  refine m_goto F e_X10_wordHere_111 ?_
  refine m_ldcS F e_X10_wordHere_97 F.sw.1.2.2 ?_
  refine m_iload_n F rfl e_X10_wordHere_99 ?_
  refine m_callO F e_X10_wordHere_100 (q_charAt (x_l X) V _ _ 29 (by omega)) cb_J0_charAt_5068e ml_X10_137 im_J0_charAt_5068e se_J0_charAt_5068e F.sw.2.2.2.2.2.2.1 rfl (rest := []) rfl (Nat.le_of_ble_eq_true rfl) ⟨Nat.le_of_ble_eq_true rfl, Nat.le_of_ble_eq_true rfl⟩ ⟨Nat.le_of_ble_eq_true rfl, Nat.le_of_ble_eq_true rfl⟩ (k' := 0) (z' := 0) (N' := N) rfl rfl rfl (fun r σ11004 hp => ?_)
  obtain ⟨rfl, rfl⟩ := hp
  refine Wm.topE (w := 32) (by decide) ?_
  refine m_bipush F (v := 32) (by decide) e_X10_wordHere_103 ?_
  refine m_icmp_eq F e_X10_wordHere_105 (fun _ => ?_) (fun q => absurd (by decide) q)
  refine m_iinc F (v := 30) (lv' := [(2, .int 30), (1, .int 5), (0, .ref c)]) e_X10_wordHere_114 rfl (by decide) (by decide) rfl ?_
  refine m_iinc F (v := 6) (lv' := [(1, .int 6), (2, .int 30), (0, .ref c)]) e_X10_wordHere_117 rfl (by decide) (by decide) rfl ?_
  refine m_goto F e_X10_wordHere_120 ?_
  exact wh_6 F hQ h1 f20 hB hn7 hsa hpn hl (fun m9 h9 => if e9 : m9 = 5 then e9 ▸ hz else hm m9 (by omega))
set_option maxRecDepth 20000 in
theorem wh_5 {V : VX} {X : MX} {N : Nat} {σ : Mem} {c T Z u h : Nat} {P : NP} {L : Nat → LQ} {n st : Nat} {t : Nat → Nat} (F : Fx V X yX10_wordHere cX10_wordHere 4 (some .int) (rmd 4 0 0)) (hQ : Rt V X 0 0 N (fun r τ => HS V c (⟨T, Z, u, h, P, L⟩ : RG) [0, 1, 2, 3, 4, 5, 6, 7, 8, 9, 10, 11, 12, 13, 14, 15, 16, 17, 18, 19, 20, 21, 22, 23] σ τ ∧ ((P.a - st ≤ 6 ∧ kix (nmc t st P.a 6) < 9 ∧ r = some (.int (nI (kix (nmc t st P.a 6))))) ∨ (¬ (P.a - st ≤ 6 ∧ kix (nmc t st P.a 6) < 9) ∧ r = some (.int (-1)))))) (h1 : HS V c ⟨T, Z, u, h, P, L⟩ [0, 1, 2, 3, 4, 5, 6, 7, 8, 9, 10, 11, 12, 13, 14, 15, 16, 17, 18, 19, 20, 21, 22, 23] σ σ) (f20 : fld σ c 20 = some (.int (nI st))) (hB : BR σ c n t) (hn7 : n ≤ 700) (hsa : st < P.a) (hpn : P.a ≤ n) (hl : ∀ i, st ≤ i → i < P.a → isL (t i) = true) (hm : ∀ m, m < 5 → ¬ mw t st P.a m) : Wm V X 4 N σ 0 0 4 [(1, .int 5), (2, .int 25), (0, .ref c)] [] := by
  refine m_iload_n F rfl e_X10_wordHere_4 ?_
  refine m_ldcS F e_X10_wordHere_5 F.sw.1.2.2 ?_
  refine m_callO F e_X10_wordHere_7 (q_length (x_l X) V _ _) cb_J0_length_8abf5 ml_X10_132 im_J0_length_8abf5 se_J0_length_8abf5 F.sw.2.2.2.2.2.2.1 rfl (rest := [.int 25]) rfl (Nat.le_of_ble_eq_true rfl) ⟨Nat.le_of_ble_eq_true rfl, Nat.le_of_ble_eq_true rfl⟩ ⟨Nat.le_of_ble_eq_true rfl, Nat.le_of_ble_eq_true rfl⟩ (k' := 0) (z' := 0) (N' := N) rfl rfl rfl (fun r σ11005 hp => ?_)
  obtain ⟨rfl, rfl⟩ := hp
  refine m_icmp_ge F e_X10_wordHere_10 (fun q => absurd q (by decide)) (fun _ => ?_)
  refine m_iconst F (v := 0) (by decide) e_X10_wordHere_13 ?_
  refine m_istore_n F (lv' := [(3, .int 0), (1, .int 5), (2, .int 25), (0, .ref c)]) e_X10_wordHere_14 (by decide) rfl ?_
  refine m_ldcS F e_X10_wordHere_15 F.sw.1.2.2 ?_
  refine m_iload_n F rfl e_X10_wordHere_17 ?_
  refine m_iload_n F rfl e_X10_wordHere_18 ?_
  refine m_iadd F e_X10_wordHere_19 ?_
  refine Wm.topE (w := 25) (by decide) ?_
  refine m_callO F e_X10_wordHere_20 (q_charAt (x_l X) V _ _ 25 (by omega)) cb_J0_charAt_5068e ml_X10_137 im_J0_charAt_5068e se_J0_charAt_5068e F.sw.2.2.2.2.2.2.1 rfl (rest := []) rfl (Nat.le_of_ble_eq_true rfl) ⟨Nat.le_of_ble_eq_true rfl, Nat.le_of_ble_eq_true rfl⟩ ⟨Nat.le_of_ble_eq_true rfl, Nat.le_of_ble_eq_true rfl⟩ (k' := 0) (z' := 0) (N' := N) rfl rfl rfl (fun r σ11006 hp => ?_)
  obtain ⟨rfl, rfl⟩ := hp
  refine Wm.topE (w := 116) (by decide) ?_
  refine m_bipush F (v := 32) (by decide) e_X10_wordHere_23 ?_
  refine m_icmp_eq F e_X10_wordHere_25 (fun q => absurd q (by decide)) (fun _ => ?_)
  refine m_aload_n F rfl e_X10_wordHere_28 ?_
  refine r_getC F e_X10_wordHere_29 fl_X10_107 h1 (f20) ?_
  refine m_iload_n F rfl e_X10_wordHere_32 ?_
  refine m_iadd F e_X10_wordHere_33 ?_
  refine Wm.topE (w := nI st) (nI_add st 0) ?_
  refine m_aload_n F rfl e_X10_wordHere_34 ?_
  refine r_get F e_X10_wordHere_35 fl_X10_97 h1 rfl (fun v hv f11007 => ?_)
  obtain rfl : v = .int (nI (P.a)) := hv
  refine m_icmp_ge F e_X10_wordHere_38 (fun q38 => ?_) (fun q38 => ?_)
  · have c38 : st ≥ P.a := (nI_leI (a := P.a) (b := st) (by omega) (by omega)).mp q38
    refine m_ldcS F e_X10_wordHere_69 F.sw.1.2.2 ?_
    refine m_iload_n F rfl e_X10_wordHere_71 ?_
    refine m_iload_n F rfl e_X10_wordHere_72 ?_
    refine m_iadd F e_X10_wordHere_73 ?_
    refine Wm.topE (w := 25) (by decide) ?_
    refine m_callO F e_X10_wordHere_74 (q_charAt (x_l X) V _ _ 25 (by omega)) cb_J0_charAt_5068e ml_X10_137 im_J0_charAt_5068e se_J0_charAt_5068e F.sw.2.2.2.2.2.2.1 rfl (rest := []) rfl (Nat.le_of_ble_eq_true rfl) ⟨Nat.le_of_ble_eq_true rfl, Nat.le_of_ble_eq_true rfl⟩ ⟨Nat.le_of_ble_eq_true rfl, Nat.le_of_ble_eq_true rfl⟩ (k' := 0) (z' := 0) (N' := N) rfl rfl rfl (fun r σ11008 hp => ?_)
    obtain ⟨rfl, rfl⟩ := hp
    refine Wm.topE (w := 116) (by decide) ?_
    refine m_bipush F (v := 32) (by decide) e_X10_wordHere_77 ?_
    refine m_icmp_ne F e_X10_wordHere_79 (fun _ => ?_) (fun q => absurd q (by decide))
    refine Wm.lvsub (lv' := [(1, .int 5), (2, .int 25), (0, .ref c)]) ?_ [1, 2, 3] rfl
    exact wk_5 F hQ h1 f20 hB hn7 hsa hpn hl hm (fun hz => by have z1 : P.a = st + 4 := hz.1; have z2 : t (st) = 116 := hz.2 0 (by decide); omega)
  · have c38 : st < P.a := by have hh := mt (nI_leI (a := P.a) (b := st) (by omega) (by omega)).mpr q38; omega
    refine m_aload_n F rfl e_X10_wordHere_41 ?_
    refine r_get F e_X10_wordHere_42 fl_X10_7 h1 rfl (fun v hv f11009 => ?_)
    obtain rfl : v = .ref (c + 1) := hv
    refine m_aload_n F rfl e_X10_wordHere_45 ?_
    refine r_getC F e_X10_wordHere_46 fl_X10_107 h1 (f20) ?_
    refine m_iload_n F rfl e_X10_wordHere_49 ?_
    refine m_iadd F e_X10_wordHere_50 ?_
    refine Wm.topE (w := nI st) (nI_add st 0) ?_
    have hb11010 := (hB st (by omega)).1
    refine r_iald F (len := 700) (j := st) e_X10_wordHere_51 h1 (fun _ h => h) (by decide) (nI_clamp (by omega)) (vp_in_nI (by omega) (by decide)) (fun x11011 h11012 f11013 => ?_)
    obtain rfl := Option.some.inj ((f11013).symm.trans ((hB st (by omega)).2))
    refine m_ldcS F e_X10_wordHere_52 F.sw.1.2.2 ?_
    refine m_iload_n F rfl e_X10_wordHere_54 ?_
    refine m_iload_n F rfl e_X10_wordHere_55 ?_
    refine m_iadd F e_X10_wordHere_56 ?_
    refine Wm.topE (w := 25) (by decide) ?_
    refine m_callO F e_X10_wordHere_57 (q_charAt (x_l X) V _ _ 25 (by omega)) cb_J0_charAt_5068e ml_X10_137 im_J0_charAt_5068e se_J0_charAt_5068e F.sw.2.2.2.2.2.2.1 rfl (rest := [.int (nI (t st))]) rfl (Nat.le_of_ble_eq_true rfl) ⟨Nat.le_of_ble_eq_true rfl, Nat.le_of_ble_eq_true rfl⟩ ⟨Nat.le_of_ble_eq_true rfl, Nat.le_of_ble_eq_true rfl⟩ (k' := 0) (z' := 0) (N' := N) rfl rfl rfl (fun r σ11014 hp => ?_)
    obtain ⟨rfl, rfl⟩ := hp
    refine Wm.topE (w := 116) (by decide) ?_
    refine m_icmp_ne F e_X10_wordHere_60 (fun q60 => ?_) (fun q60 => ?_)
    · have c60 : (t st) ≠ 116 := by have hh := mt (nI_eq (a := (t st)) (b := 116) (by omega) (by omega)).mpr q60; omega
      refine m_ldcS F e_X10_wordHere_69 F.sw.1.2.2 ?_
      refine m_iload_n F rfl e_X10_wordHere_71 ?_
      refine m_iload_n F rfl e_X10_wordHere_72 ?_
      refine m_iadd F e_X10_wordHere_73 ?_
      refine Wm.topE (w := 25) (by decide) ?_
      refine m_callO F e_X10_wordHere_74 (q_charAt (x_l X) V _ _ 25 (by omega)) cb_J0_charAt_5068e ml_X10_137 im_J0_charAt_5068e se_J0_charAt_5068e F.sw.2.2.2.2.2.2.1 rfl (rest := []) rfl (Nat.le_of_ble_eq_true rfl) ⟨Nat.le_of_ble_eq_true rfl, Nat.le_of_ble_eq_true rfl⟩ ⟨Nat.le_of_ble_eq_true rfl, Nat.le_of_ble_eq_true rfl⟩ (k' := 0) (z' := 0) (N' := N) rfl rfl rfl (fun r σ11015 hp => ?_)
      obtain ⟨rfl, rfl⟩ := hp
      refine Wm.topE (w := 116) (by decide) ?_
      refine m_bipush F (v := 32) (by decide) e_X10_wordHere_77 ?_
      refine m_icmp_ne F e_X10_wordHere_79 (fun _ => ?_) (fun q => absurd q (by decide))
      refine Wm.lvsub (lv' := [(1, .int 5), (2, .int 25), (0, .ref c)]) ?_ [1, 2, 3] rfl
      exact wk_5 F hQ h1 f20 hB hn7 hsa hpn hl hm (fun hz => by have z1 : P.a = st + 4 := hz.1; have z2 : t (st) = 116 := hz.2 0 (by decide); omega)
    · have c60 : (t st) = 116 := (nI_eq (a := (t st)) (b := 116) (by omega) (by omega)).mp q60
      refine m_iinc F (v := 1) (lv' := [(3, .int 1), (1, .int 5), (2, .int 25), (0, .ref c)]) e_X10_wordHere_63 rfl (by decide) (by decide) rfl ?_
      refine m_goto F e_X10_wordHere_66 ?_
      refine m_ldcS F e_X10_wordHere_15 F.sw.1.2.2 ?_
      refine m_iload_n F rfl e_X10_wordHere_17 ?_
      refine m_iload_n F rfl e_X10_wordHere_18 ?_
      refine m_iadd F e_X10_wordHere_19 ?_
      refine Wm.topE (w := 26) (by decide) ?_
      refine m_callO F e_X10_wordHere_20 (q_charAt (x_l X) V _ _ 26 (by omega)) cb_J0_charAt_5068e ml_X10_137 im_J0_charAt_5068e se_J0_charAt_5068e F.sw.2.2.2.2.2.2.1 rfl (rest := []) rfl (Nat.le_of_ble_eq_true rfl) ⟨Nat.le_of_ble_eq_true rfl, Nat.le_of_ble_eq_true rfl⟩ ⟨Nat.le_of_ble_eq_true rfl, Nat.le_of_ble_eq_true rfl⟩ (k' := 0) (z' := 0) (N' := N) rfl rfl rfl (fun r σ11016 hp => ?_)
      obtain ⟨rfl, rfl⟩ := hp
      refine Wm.topE (w := 105) (by decide) ?_
      refine m_bipush F (v := 32) (by decide) e_X10_wordHere_23 ?_
      refine m_icmp_eq F e_X10_wordHere_25 (fun q => absurd q (by decide)) (fun _ => ?_)
      refine m_aload_n F rfl e_X10_wordHere_28 ?_
      refine r_getC F e_X10_wordHere_29 fl_X10_107 h1 (f20) ?_
      refine m_iload_n F rfl e_X10_wordHere_32 ?_
      refine m_iadd F e_X10_wordHere_33 ?_
      refine Wm.topE (w := nI (st + 1)) (nI_add st 1) ?_
      refine m_aload_n F rfl e_X10_wordHere_34 ?_
      refine r_getC F e_X10_wordHere_35 fl_X10_97 h1 (f11007) ?_
      refine m_icmp_ge F e_X10_wordHere_38 (fun q38 => ?_) (fun q38 => ?_)
      · have c38 : (st + 1) ≥ P.a := (nI_leI (a := P.a) (b := (st + 1)) (by omega) (by omega)).mp q38
        refine m_ldcS F e_X10_wordHere_69 F.sw.1.2.2 ?_
        refine m_iload_n F rfl e_X10_wordHere_71 ?_
        refine m_iload_n F rfl e_X10_wordHere_72 ?_
        refine m_iadd F e_X10_wordHere_73 ?_
        refine Wm.topE (w := 26) (by decide) ?_
        refine m_callO F e_X10_wordHere_74 (q_charAt (x_l X) V _ _ 26 (by omega)) cb_J0_charAt_5068e ml_X10_137 im_J0_charAt_5068e se_J0_charAt_5068e F.sw.2.2.2.2.2.2.1 rfl (rest := []) rfl (Nat.le_of_ble_eq_true rfl) ⟨Nat.le_of_ble_eq_true rfl, Nat.le_of_ble_eq_true rfl⟩ ⟨Nat.le_of_ble_eq_true rfl, Nat.le_of_ble_eq_true rfl⟩ (k' := 0) (z' := 0) (N' := N) rfl rfl rfl (fun r σ11017 hp => ?_)
        obtain ⟨rfl, rfl⟩ := hp
        refine Wm.topE (w := 105) (by decide) ?_
        refine m_bipush F (v := 32) (by decide) e_X10_wordHere_77 ?_
        refine m_icmp_ne F e_X10_wordHere_79 (fun _ => ?_) (fun q => absurd q (by decide))
        refine Wm.lvsub (lv' := [(1, .int 5), (2, .int 25), (0, .ref c)]) ?_ [1, 2, 3] rfl
        exact wk_5 F hQ h1 f20 hB hn7 hsa hpn hl hm (fun hz => by have z1 : P.a = st + 4 := hz.1; have z2 : t (st + 1) = 105 := hz.2 1 (by decide); omega)
      · have c38 : (st + 1) < P.a := by have hh := mt (nI_leI (a := P.a) (b := (st + 1)) (by omega) (by omega)).mpr q38; omega
        refine m_aload_n F rfl e_X10_wordHere_41 ?_
        refine r_getC F e_X10_wordHere_42 fl_X10_7 h1 (f11009) ?_
        refine m_aload_n F rfl e_X10_wordHere_45 ?_
        refine r_getC F e_X10_wordHere_46 fl_X10_107 h1 (f20) ?_
        refine m_iload_n F rfl e_X10_wordHere_49 ?_
        refine m_iadd F e_X10_wordHere_50 ?_
        refine Wm.topE (w := nI (st + 1)) (nI_add st 1) ?_
        have hb11018 := (hB (st + 1) (by omega)).1
        refine r_iald F (len := 700) (j := st + 1) e_X10_wordHere_51 h1 (fun _ h => h) (by decide) (nI_clamp (by omega)) (vp_in_nI (by omega) (by decide)) (fun x11019 h11020 f11021 => ?_)
        obtain rfl := Option.some.inj ((f11021).symm.trans ((hB (st + 1) (by omega)).2))
        refine m_ldcS F e_X10_wordHere_52 F.sw.1.2.2 ?_
        refine m_iload_n F rfl e_X10_wordHere_54 ?_
        refine m_iload_n F rfl e_X10_wordHere_55 ?_
        refine m_iadd F e_X10_wordHere_56 ?_
        refine Wm.topE (w := 26) (by decide) ?_
        refine m_callO F e_X10_wordHere_57 (q_charAt (x_l X) V _ _ 26 (by omega)) cb_J0_charAt_5068e ml_X10_137 im_J0_charAt_5068e se_J0_charAt_5068e F.sw.2.2.2.2.2.2.1 rfl (rest := [.int (nI (t (st + 1)))]) rfl (Nat.le_of_ble_eq_true rfl) ⟨Nat.le_of_ble_eq_true rfl, Nat.le_of_ble_eq_true rfl⟩ ⟨Nat.le_of_ble_eq_true rfl, Nat.le_of_ble_eq_true rfl⟩ (k' := 0) (z' := 0) (N' := N) rfl rfl rfl (fun r σ11022 hp => ?_)
        obtain ⟨rfl, rfl⟩ := hp
        refine Wm.topE (w := 105) (by decide) ?_
        refine m_icmp_ne F e_X10_wordHere_60 (fun q60 => ?_) (fun q60 => ?_)
        · have c60 : (t (st + 1)) ≠ 105 := by have hh := mt (nI_eq (a := (t (st + 1))) (b := 105) (by omega) (by omega)).mpr q60; omega
          refine m_ldcS F e_X10_wordHere_69 F.sw.1.2.2 ?_
          refine m_iload_n F rfl e_X10_wordHere_71 ?_
          refine m_iload_n F rfl e_X10_wordHere_72 ?_
          refine m_iadd F e_X10_wordHere_73 ?_
          refine Wm.topE (w := 26) (by decide) ?_
          refine m_callO F e_X10_wordHere_74 (q_charAt (x_l X) V _ _ 26 (by omega)) cb_J0_charAt_5068e ml_X10_137 im_J0_charAt_5068e se_J0_charAt_5068e F.sw.2.2.2.2.2.2.1 rfl (rest := []) rfl (Nat.le_of_ble_eq_true rfl) ⟨Nat.le_of_ble_eq_true rfl, Nat.le_of_ble_eq_true rfl⟩ ⟨Nat.le_of_ble_eq_true rfl, Nat.le_of_ble_eq_true rfl⟩ (k' := 0) (z' := 0) (N' := N) rfl rfl rfl (fun r σ11023 hp => ?_)
          obtain ⟨rfl, rfl⟩ := hp
          refine Wm.topE (w := 105) (by decide) ?_
          refine m_bipush F (v := 32) (by decide) e_X10_wordHere_77 ?_
          refine m_icmp_ne F e_X10_wordHere_79 (fun _ => ?_) (fun q => absurd q (by decide))
          refine Wm.lvsub (lv' := [(1, .int 5), (2, .int 25), (0, .ref c)]) ?_ [1, 2, 3] rfl
          exact wk_5 F hQ h1 f20 hB hn7 hsa hpn hl hm (fun hz => by have z1 : P.a = st + 4 := hz.1; have z2 : t (st + 1) = 105 := hz.2 1 (by decide); omega)
        · have c60 : (t (st + 1)) = 105 := (nI_eq (a := (t (st + 1))) (b := 105) (by omega) (by omega)).mp q60
          refine m_iinc F (v := 2) (lv' := [(3, .int 2), (1, .int 5), (2, .int 25), (0, .ref c)]) e_X10_wordHere_63 rfl (by decide) (by decide) rfl ?_
          refine m_goto F e_X10_wordHere_66 ?_
          refine m_ldcS F e_X10_wordHere_15 F.sw.1.2.2 ?_
          refine m_iload_n F rfl e_X10_wordHere_17 ?_
          refine m_iload_n F rfl e_X10_wordHere_18 ?_
          refine m_iadd F e_X10_wordHere_19 ?_
          refine Wm.topE (w := 27) (by decide) ?_
          refine m_callO F e_X10_wordHere_20 (q_charAt (x_l X) V _ _ 27 (by omega)) cb_J0_charAt_5068e ml_X10_137 im_J0_charAt_5068e se_J0_charAt_5068e F.sw.2.2.2.2.2.2.1 rfl (rest := []) rfl (Nat.le_of_ble_eq_true rfl) ⟨Nat.le_of_ble_eq_true rfl, Nat.le_of_ble_eq_true rfl⟩ ⟨Nat.le_of_ble_eq_true rfl, Nat.le_of_ble_eq_true rfl⟩ (k' := 0) (z' := 0) (N' := N) rfl rfl rfl (fun r σ11024 hp => ?_)
          obtain ⟨rfl, rfl⟩ := hp
          refine Wm.topE (w := 101) (by decide) ?_
          refine m_bipush F (v := 32) (by decide) e_X10_wordHere_23 ?_
          refine m_icmp_eq F e_X10_wordHere_25 (fun q => absurd q (by decide)) (fun _ => ?_)
          refine m_aload_n F rfl e_X10_wordHere_28 ?_
          refine r_getC F e_X10_wordHere_29 fl_X10_107 h1 (f20) ?_
          refine m_iload_n F rfl e_X10_wordHere_32 ?_
          refine m_iadd F e_X10_wordHere_33 ?_
          refine Wm.topE (w := nI (st + 2)) (nI_add st 2) ?_
          refine m_aload_n F rfl e_X10_wordHere_34 ?_
          refine r_getC F e_X10_wordHere_35 fl_X10_97 h1 (f11007) ?_
          refine m_icmp_ge F e_X10_wordHere_38 (fun q38 => ?_) (fun q38 => ?_)
          · have c38 : (st + 2) ≥ P.a := (nI_leI (a := P.a) (b := (st + 2)) (by omega) (by omega)).mp q38
            refine m_ldcS F e_X10_wordHere_69 F.sw.1.2.2 ?_
            refine m_iload_n F rfl e_X10_wordHere_71 ?_
            refine m_iload_n F rfl e_X10_wordHere_72 ?_
            refine m_iadd F e_X10_wordHere_73 ?_
            refine Wm.topE (w := 27) (by decide) ?_
            refine m_callO F e_X10_wordHere_74 (q_charAt (x_l X) V _ _ 27 (by omega)) cb_J0_charAt_5068e ml_X10_137 im_J0_charAt_5068e se_J0_charAt_5068e F.sw.2.2.2.2.2.2.1 rfl (rest := []) rfl (Nat.le_of_ble_eq_true rfl) ⟨Nat.le_of_ble_eq_true rfl, Nat.le_of_ble_eq_true rfl⟩ ⟨Nat.le_of_ble_eq_true rfl, Nat.le_of_ble_eq_true rfl⟩ (k' := 0) (z' := 0) (N' := N) rfl rfl rfl (fun r σ11025 hp => ?_)
            obtain ⟨rfl, rfl⟩ := hp
            refine Wm.topE (w := 101) (by decide) ?_
            refine m_bipush F (v := 32) (by decide) e_X10_wordHere_77 ?_
            refine m_icmp_ne F e_X10_wordHere_79 (fun _ => ?_) (fun q => absurd q (by decide))
            refine Wm.lvsub (lv' := [(1, .int 5), (2, .int 25), (0, .ref c)]) ?_ [1, 2, 3] rfl
            exact wk_5 F hQ h1 f20 hB hn7 hsa hpn hl hm (fun hz => by have z1 : P.a = st + 4 := hz.1; have z2 : t (st + 2) = 101 := hz.2 2 (by decide); omega)
          · have c38 : (st + 2) < P.a := by have hh := mt (nI_leI (a := P.a) (b := (st + 2)) (by omega) (by omega)).mpr q38; omega
            refine m_aload_n F rfl e_X10_wordHere_41 ?_
            refine r_getC F e_X10_wordHere_42 fl_X10_7 h1 (f11009) ?_
            refine m_aload_n F rfl e_X10_wordHere_45 ?_
            refine r_getC F e_X10_wordHere_46 fl_X10_107 h1 (f20) ?_
            refine m_iload_n F rfl e_X10_wordHere_49 ?_
            refine m_iadd F e_X10_wordHere_50 ?_
            refine Wm.topE (w := nI (st + 2)) (nI_add st 2) ?_
            have hb11026 := (hB (st + 2) (by omega)).1
            refine r_iald F (len := 700) (j := st + 2) e_X10_wordHere_51 h1 (fun _ h => h) (by decide) (nI_clamp (by omega)) (vp_in_nI (by omega) (by decide)) (fun x11027 h11028 f11029 => ?_)
            obtain rfl := Option.some.inj ((f11029).symm.trans ((hB (st + 2) (by omega)).2))
            refine m_ldcS F e_X10_wordHere_52 F.sw.1.2.2 ?_
            refine m_iload_n F rfl e_X10_wordHere_54 ?_
            refine m_iload_n F rfl e_X10_wordHere_55 ?_
            refine m_iadd F e_X10_wordHere_56 ?_
            refine Wm.topE (w := 27) (by decide) ?_
            refine m_callO F e_X10_wordHere_57 (q_charAt (x_l X) V _ _ 27 (by omega)) cb_J0_charAt_5068e ml_X10_137 im_J0_charAt_5068e se_J0_charAt_5068e F.sw.2.2.2.2.2.2.1 rfl (rest := [.int (nI (t (st + 2)))]) rfl (Nat.le_of_ble_eq_true rfl) ⟨Nat.le_of_ble_eq_true rfl, Nat.le_of_ble_eq_true rfl⟩ ⟨Nat.le_of_ble_eq_true rfl, Nat.le_of_ble_eq_true rfl⟩ (k' := 0) (z' := 0) (N' := N) rfl rfl rfl (fun r σ11030 hp => ?_)
            obtain ⟨rfl, rfl⟩ := hp
            refine Wm.topE (w := 101) (by decide) ?_
            refine m_icmp_ne F e_X10_wordHere_60 (fun q60 => ?_) (fun q60 => ?_)
            · have c60 : (t (st + 2)) ≠ 101 := by have hh := mt (nI_eq (a := (t (st + 2))) (b := 101) (by omega) (by omega)).mpr q60; omega
              refine m_ldcS F e_X10_wordHere_69 F.sw.1.2.2 ?_
              refine m_iload_n F rfl e_X10_wordHere_71 ?_
              refine m_iload_n F rfl e_X10_wordHere_72 ?_
              refine m_iadd F e_X10_wordHere_73 ?_
              refine Wm.topE (w := 27) (by decide) ?_
              refine m_callO F e_X10_wordHere_74 (q_charAt (x_l X) V _ _ 27 (by omega)) cb_J0_charAt_5068e ml_X10_137 im_J0_charAt_5068e se_J0_charAt_5068e F.sw.2.2.2.2.2.2.1 rfl (rest := []) rfl (Nat.le_of_ble_eq_true rfl) ⟨Nat.le_of_ble_eq_true rfl, Nat.le_of_ble_eq_true rfl⟩ ⟨Nat.le_of_ble_eq_true rfl, Nat.le_of_ble_eq_true rfl⟩ (k' := 0) (z' := 0) (N' := N) rfl rfl rfl (fun r σ11031 hp => ?_)
              obtain ⟨rfl, rfl⟩ := hp
              refine Wm.topE (w := 101) (by decide) ?_
              refine m_bipush F (v := 32) (by decide) e_X10_wordHere_77 ?_
              refine m_icmp_ne F e_X10_wordHere_79 (fun _ => ?_) (fun q => absurd q (by decide))
              refine Wm.lvsub (lv' := [(1, .int 5), (2, .int 25), (0, .ref c)]) ?_ [1, 2, 3] rfl
              exact wk_5 F hQ h1 f20 hB hn7 hsa hpn hl hm (fun hz => by have z1 : P.a = st + 4 := hz.1; have z2 : t (st + 2) = 101 := hz.2 2 (by decide); omega)
            · have c60 : (t (st + 2)) = 101 := (nI_eq (a := (t (st + 2))) (b := 101) (by omega) (by omega)).mp q60
              refine m_iinc F (v := 3) (lv' := [(3, .int 3), (1, .int 5), (2, .int 25), (0, .ref c)]) e_X10_wordHere_63 rfl (by decide) (by decide) rfl ?_
              refine m_goto F e_X10_wordHere_66 ?_
              refine m_ldcS F e_X10_wordHere_15 F.sw.1.2.2 ?_
              refine m_iload_n F rfl e_X10_wordHere_17 ?_
              refine m_iload_n F rfl e_X10_wordHere_18 ?_
              refine m_iadd F e_X10_wordHere_19 ?_
              refine Wm.topE (w := 28) (by decide) ?_
              refine m_callO F e_X10_wordHere_20 (q_charAt (x_l X) V _ _ 28 (by omega)) cb_J0_charAt_5068e ml_X10_137 im_J0_charAt_5068e se_J0_charAt_5068e F.sw.2.2.2.2.2.2.1 rfl (rest := []) rfl (Nat.le_of_ble_eq_true rfl) ⟨Nat.le_of_ble_eq_true rfl, Nat.le_of_ble_eq_true rfl⟩ ⟨Nat.le_of_ble_eq_true rfl, Nat.le_of_ble_eq_true rfl⟩ (k' := 0) (z' := 0) (N' := N) rfl rfl rfl (fun r σ11032 hp => ?_)
              obtain ⟨rfl, rfl⟩ := hp
              refine Wm.topE (w := 100) (by decide) ?_
              refine m_bipush F (v := 32) (by decide) e_X10_wordHere_23 ?_
              refine m_icmp_eq F e_X10_wordHere_25 (fun q => absurd q (by decide)) (fun _ => ?_)
              refine m_aload_n F rfl e_X10_wordHere_28 ?_
              refine r_getC F e_X10_wordHere_29 fl_X10_107 h1 (f20) ?_
              refine m_iload_n F rfl e_X10_wordHere_32 ?_
              refine m_iadd F e_X10_wordHere_33 ?_
              refine Wm.topE (w := nI (st + 3)) (nI_add st 3) ?_
              refine m_aload_n F rfl e_X10_wordHere_34 ?_
              refine r_getC F e_X10_wordHere_35 fl_X10_97 h1 (f11007) ?_
              refine m_icmp_ge F e_X10_wordHere_38 (fun q38 => ?_) (fun q38 => ?_)
              · have c38 : (st + 3) ≥ P.a := (nI_leI (a := P.a) (b := (st + 3)) (by omega) (by omega)).mp q38
                refine m_ldcS F e_X10_wordHere_69 F.sw.1.2.2 ?_
                refine m_iload_n F rfl e_X10_wordHere_71 ?_
                refine m_iload_n F rfl e_X10_wordHere_72 ?_
                refine m_iadd F e_X10_wordHere_73 ?_
                refine Wm.topE (w := 28) (by decide) ?_
                refine m_callO F e_X10_wordHere_74 (q_charAt (x_l X) V _ _ 28 (by omega)) cb_J0_charAt_5068e ml_X10_137 im_J0_charAt_5068e se_J0_charAt_5068e F.sw.2.2.2.2.2.2.1 rfl (rest := []) rfl (Nat.le_of_ble_eq_true rfl) ⟨Nat.le_of_ble_eq_true rfl, Nat.le_of_ble_eq_true rfl⟩ ⟨Nat.le_of_ble_eq_true rfl, Nat.le_of_ble_eq_true rfl⟩ (k' := 0) (z' := 0) (N' := N) rfl rfl rfl (fun r σ11033 hp => ?_)
                obtain ⟨rfl, rfl⟩ := hp
                refine Wm.topE (w := 100) (by decide) ?_
                refine m_bipush F (v := 32) (by decide) e_X10_wordHere_77 ?_
                refine m_icmp_ne F e_X10_wordHere_79 (fun _ => ?_) (fun q => absurd q (by decide))
                refine Wm.lvsub (lv' := [(1, .int 5), (2, .int 25), (0, .ref c)]) ?_ [1, 2, 3] rfl
                exact wk_5 F hQ h1 f20 hB hn7 hsa hpn hl hm (fun hz => by have z1 : P.a = st + 4 := hz.1; have z2 : t (st + 3) = 100 := hz.2 3 (by decide); omega)
              · have c38 : (st + 3) < P.a := by have hh := mt (nI_leI (a := P.a) (b := (st + 3)) (by omega) (by omega)).mpr q38; omega
                refine m_aload_n F rfl e_X10_wordHere_41 ?_
                refine r_getC F e_X10_wordHere_42 fl_X10_7 h1 (f11009) ?_
                refine m_aload_n F rfl e_X10_wordHere_45 ?_
                refine r_getC F e_X10_wordHere_46 fl_X10_107 h1 (f20) ?_
                refine m_iload_n F rfl e_X10_wordHere_49 ?_
                refine m_iadd F e_X10_wordHere_50 ?_
                refine Wm.topE (w := nI (st + 3)) (nI_add st 3) ?_
                have hb11034 := (hB (st + 3) (by omega)).1
                refine r_iald F (len := 700) (j := st + 3) e_X10_wordHere_51 h1 (fun _ h => h) (by decide) (nI_clamp (by omega)) (vp_in_nI (by omega) (by decide)) (fun x11035 h11036 f11037 => ?_)
                obtain rfl := Option.some.inj ((f11037).symm.trans ((hB (st + 3) (by omega)).2))
                refine m_ldcS F e_X10_wordHere_52 F.sw.1.2.2 ?_
                refine m_iload_n F rfl e_X10_wordHere_54 ?_
                refine m_iload_n F rfl e_X10_wordHere_55 ?_
                refine m_iadd F e_X10_wordHere_56 ?_
                refine Wm.topE (w := 28) (by decide) ?_
                refine m_callO F e_X10_wordHere_57 (q_charAt (x_l X) V _ _ 28 (by omega)) cb_J0_charAt_5068e ml_X10_137 im_J0_charAt_5068e se_J0_charAt_5068e F.sw.2.2.2.2.2.2.1 rfl (rest := [.int (nI (t (st + 3)))]) rfl (Nat.le_of_ble_eq_true rfl) ⟨Nat.le_of_ble_eq_true rfl, Nat.le_of_ble_eq_true rfl⟩ ⟨Nat.le_of_ble_eq_true rfl, Nat.le_of_ble_eq_true rfl⟩ (k' := 0) (z' := 0) (N' := N) rfl rfl rfl (fun r σ11038 hp => ?_)
                obtain ⟨rfl, rfl⟩ := hp
                refine Wm.topE (w := 100) (by decide) ?_
                refine m_icmp_ne F e_X10_wordHere_60 (fun q60 => ?_) (fun q60 => ?_)
                · have c60 : (t (st + 3)) ≠ 100 := by have hh := mt (nI_eq (a := (t (st + 3))) (b := 100) (by omega) (by omega)).mpr q60; omega
                  refine m_ldcS F e_X10_wordHere_69 F.sw.1.2.2 ?_
                  refine m_iload_n F rfl e_X10_wordHere_71 ?_
                  refine m_iload_n F rfl e_X10_wordHere_72 ?_
                  refine m_iadd F e_X10_wordHere_73 ?_
                  refine Wm.topE (w := 28) (by decide) ?_
                  refine m_callO F e_X10_wordHere_74 (q_charAt (x_l X) V _ _ 28 (by omega)) cb_J0_charAt_5068e ml_X10_137 im_J0_charAt_5068e se_J0_charAt_5068e F.sw.2.2.2.2.2.2.1 rfl (rest := []) rfl (Nat.le_of_ble_eq_true rfl) ⟨Nat.le_of_ble_eq_true rfl, Nat.le_of_ble_eq_true rfl⟩ ⟨Nat.le_of_ble_eq_true rfl, Nat.le_of_ble_eq_true rfl⟩ (k' := 0) (z' := 0) (N' := N) rfl rfl rfl (fun r σ11039 hp => ?_)
                  obtain ⟨rfl, rfl⟩ := hp
                  refine Wm.topE (w := 100) (by decide) ?_
                  refine m_bipush F (v := 32) (by decide) e_X10_wordHere_77 ?_
                  refine m_icmp_ne F e_X10_wordHere_79 (fun _ => ?_) (fun q => absurd q (by decide))
                  refine Wm.lvsub (lv' := [(1, .int 5), (2, .int 25), (0, .ref c)]) ?_ [1, 2, 3] rfl
                  exact wk_5 F hQ h1 f20 hB hn7 hsa hpn hl hm (fun hz => by have z1 : P.a = st + 4 := hz.1; have z2 : t (st + 3) = 100 := hz.2 3 (by decide); omega)
                · have c60 : (t (st + 3)) = 100 := (nI_eq (a := (t (st + 3))) (b := 100) (by omega) (by omega)).mp q60
                  refine m_iinc F (v := 4) (lv' := [(3, .int 4), (1, .int 5), (2, .int 25), (0, .ref c)]) e_X10_wordHere_63 rfl (by decide) (by decide) rfl ?_
                  refine m_goto F e_X10_wordHere_66 ?_
                  refine m_ldcS F e_X10_wordHere_15 F.sw.1.2.2 ?_
                  refine m_iload_n F rfl e_X10_wordHere_17 ?_
                  refine m_iload_n F rfl e_X10_wordHere_18 ?_
                  refine m_iadd F e_X10_wordHere_19 ?_
                  refine Wm.topE (w := 29) (by decide) ?_
                  refine m_callO F e_X10_wordHere_20 (q_charAt (x_l X) V _ _ 29 (by omega)) cb_J0_charAt_5068e ml_X10_137 im_J0_charAt_5068e se_J0_charAt_5068e F.sw.2.2.2.2.2.2.1 rfl (rest := []) rfl (Nat.le_of_ble_eq_true rfl) ⟨Nat.le_of_ble_eq_true rfl, Nat.le_of_ble_eq_true rfl⟩ ⟨Nat.le_of_ble_eq_true rfl, Nat.le_of_ble_eq_true rfl⟩ (k' := 0) (z' := 0) (N' := N) rfl rfl rfl (fun r σ11040 hp => ?_)
                  obtain ⟨rfl, rfl⟩ := hp
                  refine Wm.topE (w := 32) (by decide) ?_
                  refine m_bipush F (v := 32) (by decide) e_X10_wordHere_23 ?_
                  refine m_icmp_eq F e_X10_wordHere_25 (fun _ => ?_) (fun q => absurd (by decide) q)
                  refine m_ldcS F e_X10_wordHere_69 F.sw.1.2.2 ?_
                  refine m_iload_n F rfl e_X10_wordHere_71 ?_
                  refine m_iload_n F rfl e_X10_wordHere_72 ?_
                  refine m_iadd F e_X10_wordHere_73 ?_
                  refine Wm.topE (w := 29) (by decide) ?_
                  refine m_callO F e_X10_wordHere_74 (q_charAt (x_l X) V _ _ 29 (by omega)) cb_J0_charAt_5068e ml_X10_137 im_J0_charAt_5068e se_J0_charAt_5068e F.sw.2.2.2.2.2.2.1 rfl (rest := []) rfl (Nat.le_of_ble_eq_true rfl) ⟨Nat.le_of_ble_eq_true rfl, Nat.le_of_ble_eq_true rfl⟩ ⟨Nat.le_of_ble_eq_true rfl, Nat.le_of_ble_eq_true rfl⟩ (k' := 0) (z' := 0) (N' := N) rfl rfl rfl (fun r σ11041 hp => ?_)
                  obtain ⟨rfl, rfl⟩ := hp
                  refine Wm.topE (w := 32) (by decide) ?_
                  refine m_bipush F (v := 32) (by decide) e_X10_wordHere_77 ?_
                  refine m_icmp_ne F e_X10_wordHere_79 (fun q => absurd (by decide) q) (fun _ => ?_)
                  refine m_aload_n F rfl e_X10_wordHere_82 ?_
                  refine r_getC F e_X10_wordHere_83 fl_X10_107 h1 (f20) ?_
                  refine m_iload_n F rfl e_X10_wordHere_86 ?_
                  refine m_iadd F e_X10_wordHere_87 ?_
                  refine Wm.topE (w := nI (st + 4)) (nI_add st 4) ?_
                  refine m_aload_n F rfl e_X10_wordHere_88 ?_
                  refine r_getC F e_X10_wordHere_89 fl_X10_97 h1 (f11007) ?_
                  refine m_icmp_ne F e_X10_wordHere_92 (fun q92 => ?_) (fun q92 => ?_)
                  · have c92 : (st + 4) ≠ P.a := by have hh := mt (nI_eq (a := (st + 4)) (b := P.a) (by omega) (by omega)).mpr q92; omega
                    refine Wm.lvsub (lv' := [(1, .int 5), (2, .int 25), (0, .ref c)]) ?_ [1, 2, 3] rfl
                    exact wk_5 F hQ h1 f20 hB hn7 hsa hpn hl hm (fun hz => by have z1 : P.a = st + 4 := hz.1; omega)
                  · have c92 : (st + 4) = P.a := (nI_eq (a := (st + 4)) (b := P.a) (by omega) (by omega)).mp q92
                    refine m_iload_n F rfl e_X10_wordHere_95 ?_
                    have hz : mw t st P.a 5 := by
                      refine ⟨(show P.a = st + 4 by omega), fun i hi => ?_⟩
                      have hi2 : i = 0 ∨ i = 1 ∨ i = 2 ∨ i = 3 := by have hi3 : i < 4 := hi; omega
                      rcases hi2 with rfl | rfl | rfl | rfl
                      · show t (st + 0) = 116; first | assumption | omega
                      · show t (st + 1) = 105; first | assumption | omega
                      · show t (st + 2) = 101; first | assumption | omega
                      · show t (st + 3) = 100; first | assumption | omega
                    have hy := kix_mw hsa hl (by decide) hz
                    exact m_iret F hQ e_X10_wordHere_96 ⟨h1, Or.inl ⟨hy.1, by rw [hy.2]; decide, by rw [hy.2]; rfl⟩⟩
set_option maxRecDepth 20000 in
theorem wk_4 {V : VX} {X : MX} {N : Nat} {σ : Mem} {c T Z u h : Nat} {P : NP} {L : Nat → LQ} {n st : Nat} {t : Nat → Nat} (F : Fx V X yX10_wordHere cX10_wordHere 4 (some .int) (rmd 4 0 0)) (hQ : Rt V X 0 0 N (fun r τ => HS V c (⟨T, Z, u, h, P, L⟩ : RG) [0, 1, 2, 3, 4, 5, 6, 7, 8, 9, 10, 11, 12, 13, 14, 15, 16, 17, 18, 19, 20, 21, 22, 23] σ τ ∧ ((P.a - st ≤ 6 ∧ kix (nmc t st P.a 6) < 9 ∧ r = some (.int (nI (kix (nmc t st P.a 6))))) ∨ (¬ (P.a - st ≤ 6 ∧ kix (nmc t st P.a 6) < 9) ∧ r = some (.int (-1)))))) (h1 : HS V c ⟨T, Z, u, h, P, L⟩ [0, 1, 2, 3, 4, 5, 6, 7, 8, 9, 10, 11, 12, 13, 14, 15, 16, 17, 18, 19, 20, 21, 22, 23] σ σ) (f20 : fld σ c 20 = some (.int (nI st))) (hB : BR σ c n t) (hn7 : n ≤ 700) (hsa : st < P.a) (hpn : P.a ≤ n) (hl : ∀ i, st ≤ i → i < P.a → isL (t i) = true) (hm : ∀ m, m < 4 → ¬ mw t st P.a m) (hz : ¬ mw t st P.a 4) : Wm V X 4 N σ 0 0 97 [(1, .int 4), (2, .int 21), (0, .ref c)] [] := by
  refine m_ldcS F e_X10_wordHere_97 F.sw.1.2.2 ?_
  refine m_iload_n F rfl e_X10_wordHere_99 ?_
  refine m_callO F e_X10_wordHere_100 (q_charAt (x_l X) V _ _ 21 (by omega)) cb_J0_charAt_5068e ml_X10_137 im_J0_charAt_5068e se_J0_charAt_5068e F.sw.2.2.2.2.2.2.1 rfl (rest := []) rfl (Nat.le_of_ble_eq_true rfl) ⟨Nat.le_of_ble_eq_true rfl, Nat.le_of_ble_eq_true rfl⟩ ⟨Nat.le_of_ble_eq_true rfl, Nat.le_of_ble_eq_true rfl⟩ (k' := 0) (z' := 0) (N' := N) rfl rfl rfl (fun r σ11042 hp => ?_)
  obtain ⟨rfl, rfl⟩ := hp
  refine Wm.topE (w := 102) (by decide) ?_
  refine m_bipush F (v := 32) (by decide) e_X10_wordHere_103 ?_
  refine m_icmp_eq F e_X10_wordHere_105 (fun q => absurd q (by decide)) (fun _ => ?_)
  refine m_iinc F (v := 22) (lv' := [(2, .int 22), (1, .int 4), (0, .ref c)]) e_X10_wordHere_108 rfl (by decide) (by decide) rfl ?_
  refine m_goto F e_X10_wordHere_111 ?_
  refine m_ldcS F e_X10_wordHere_97 F.sw.1.2.2 ?_
  refine m_iload_n F rfl e_X10_wordHere_99 ?_
  refine m_callO F e_X10_wordHere_100 (q_charAt (x_l X) V _ _ 22 (by omega)) cb_J0_charAt_5068e ml_X10_137 im_J0_charAt_5068e se_J0_charAt_5068e F.sw.2.2.2.2.2.2.1 rfl (rest := []) rfl (Nat.le_of_ble_eq_true rfl) ⟨Nat.le_of_ble_eq_true rfl, Nat.le_of_ble_eq_true rfl⟩ ⟨Nat.le_of_ble_eq_true rfl, Nat.le_of_ble_eq_true rfl⟩ (k' := 0) (z' := 0) (N' := N) rfl rfl rfl (fun r σ11043 hp => ?_)
  obtain ⟨rfl, rfl⟩ := hp
  refine Wm.topE (w := 101) (by decide) ?_
  refine m_bipush F (v := 32) (by decide) e_X10_wordHere_103 ?_
  refine m_icmp_eq F e_X10_wordHere_105 (fun q => absurd q (by decide)) (fun _ => ?_)
  refine m_iinc F (v := 23) (lv' := [(2, .int 23), (1, .int 4), (0, .ref c)]) e_X10_wordHere_108 rfl (by decide) (by decide) rfl ?_
  refine m_goto F e_X10_wordHere_111 ?_
  refine m_ldcS F e_X10_wordHere_97 F.sw.1.2.2 ?_
  refine m_iload_n F rfl e_X10_wordHere_99 ?_
  refine m_callO F e_X10_wordHere_100 (q_charAt (x_l X) V _ _ 23 (by omega)) cb_J0_charAt_5068e ml_X10_137 im_J0_charAt_5068e se_J0_charAt_5068e F.sw.2.2.2.2.2.2.1 rfl (rest := []) rfl (Nat.le_of_ble_eq_true rfl) ⟨Nat.le_of_ble_eq_true rfl, Nat.le_of_ble_eq_true rfl⟩ ⟨Nat.le_of_ble_eq_true rfl, Nat.le_of_ble_eq_true rfl⟩ (k' := 0) (z' := 0) (N' := N) rfl rfl rfl (fun r σ11044 hp => ?_)
  obtain ⟨rfl, rfl⟩ := hp
  refine Wm.topE (w := 101) (by decide) ?_
  refine m_bipush F (v := 32) (by decide) e_X10_wordHere_103 ?_
  refine m_icmp_eq F e_X10_wordHere_105 (fun q => absurd q (by decide)) (fun _ => ?_)
  refine m_iinc F (v := 24) (lv' := [(2, .int 24), (1, .int 4), (0, .ref c)]) e_X10_wordHere_108 rfl (by decide) (by decide) rfl ?_
  refine m_goto F e_X10_wordHere_111 ?_
  refine m_ldcS F e_X10_wordHere_97 F.sw.1.2.2 ?_
  refine m_iload_n F rfl e_X10_wordHere_99 ?_
  refine m_callO F e_X10_wordHere_100 (q_charAt (x_l X) V _ _ 24 (by omega)) cb_J0_charAt_5068e ml_X10_137 im_J0_charAt_5068e se_J0_charAt_5068e F.sw.2.2.2.2.2.2.1 rfl (rest := []) rfl (Nat.le_of_ble_eq_true rfl) ⟨Nat.le_of_ble_eq_true rfl, Nat.le_of_ble_eq_true rfl⟩ ⟨Nat.le_of_ble_eq_true rfl, Nat.le_of_ble_eq_true rfl⟩ (k' := 0) (z' := 0) (N' := N) rfl rfl rfl (fun r σ11045 hp => ?_)
  obtain ⟨rfl, rfl⟩ := hp
  refine Wm.topE (w := 32) (by decide) ?_
  refine m_bipush F (v := 32) (by decide) e_X10_wordHere_103 ?_
  refine m_icmp_eq F e_X10_wordHere_105 (fun _ => ?_) (fun q => absurd (by decide) q)
  refine m_iinc F (v := 25) (lv' := [(2, .int 25), (1, .int 4), (0, .ref c)]) e_X10_wordHere_114 rfl (by decide) (by decide) rfl ?_
  refine m_iinc F (v := 5) (lv' := [(1, .int 5), (2, .int 25), (0, .ref c)]) e_X10_wordHere_117 rfl (by decide) (by decide) rfl ?_
  refine m_goto F e_X10_wordHere_120 ?_
  exact wh_5 F hQ h1 f20 hB hn7 hsa hpn hl (fun m9 h9 => if e9 : m9 = 4 then e9 ▸ hz else hm m9 (by omega))
set_option maxRecDepth 20000 in
theorem wh_4 {V : VX} {X : MX} {N : Nat} {σ : Mem} {c T Z u h : Nat} {P : NP} {L : Nat → LQ} {n st : Nat} {t : Nat → Nat} (F : Fx V X yX10_wordHere cX10_wordHere 4 (some .int) (rmd 4 0 0)) (hQ : Rt V X 0 0 N (fun r τ => HS V c (⟨T, Z, u, h, P, L⟩ : RG) [0, 1, 2, 3, 4, 5, 6, 7, 8, 9, 10, 11, 12, 13, 14, 15, 16, 17, 18, 19, 20, 21, 22, 23] σ τ ∧ ((P.a - st ≤ 6 ∧ kix (nmc t st P.a 6) < 9 ∧ r = some (.int (nI (kix (nmc t st P.a 6))))) ∨ (¬ (P.a - st ≤ 6 ∧ kix (nmc t st P.a 6) < 9) ∧ r = some (.int (-1)))))) (h1 : HS V c ⟨T, Z, u, h, P, L⟩ [0, 1, 2, 3, 4, 5, 6, 7, 8, 9, 10, 11, 12, 13, 14, 15, 16, 17, 18, 19, 20, 21, 22, 23] σ σ) (f20 : fld σ c 20 = some (.int (nI st))) (hB : BR σ c n t) (hn7 : n ≤ 700) (hsa : st < P.a) (hpn : P.a ≤ n) (hl : ∀ i, st ≤ i → i < P.a → isL (t i) = true) (hm : ∀ m, m < 4 → ¬ mw t st P.a m) : Wm V X 4 N σ 0 0 4 [(1, .int 4), (2, .int 21), (0, .ref c)] [] := by
  refine m_iload_n F rfl e_X10_wordHere_4 ?_
  refine m_ldcS F e_X10_wordHere_5 F.sw.1.2.2 ?_
  refine m_callO F e_X10_wordHere_7 (q_length (x_l X) V _ _) cb_J0_length_8abf5 ml_X10_132 im_J0_length_8abf5 se_J0_length_8abf5 F.sw.2.2.2.2.2.2.1 rfl (rest := [.int 21]) rfl (Nat.le_of_ble_eq_true rfl) ⟨Nat.le_of_ble_eq_true rfl, Nat.le_of_ble_eq_true rfl⟩ ⟨Nat.le_of_ble_eq_true rfl, Nat.le_of_ble_eq_true rfl⟩ (k' := 0) (z' := 0) (N' := N) rfl rfl rfl (fun r σ11046 hp => ?_)
  obtain ⟨rfl, rfl⟩ := hp
  refine m_icmp_ge F e_X10_wordHere_10 (fun q => absurd q (by decide)) (fun _ => ?_)
  refine m_iconst F (v := 0) (by decide) e_X10_wordHere_13 ?_
  refine m_istore_n F (lv' := [(3, .int 0), (1, .int 4), (2, .int 21), (0, .ref c)]) e_X10_wordHere_14 (by decide) rfl ?_
  refine m_ldcS F e_X10_wordHere_15 F.sw.1.2.2 ?_
  refine m_iload_n F rfl e_X10_wordHere_17 ?_
  refine m_iload_n F rfl e_X10_wordHere_18 ?_
  refine m_iadd F e_X10_wordHere_19 ?_
  refine Wm.topE (w := 21) (by decide) ?_
  refine m_callO F e_X10_wordHere_20 (q_charAt (x_l X) V _ _ 21 (by omega)) cb_J0_charAt_5068e ml_X10_137 im_J0_charAt_5068e se_J0_charAt_5068e F.sw.2.2.2.2.2.2.1 rfl (rest := []) rfl (Nat.le_of_ble_eq_true rfl) ⟨Nat.le_of_ble_eq_true rfl, Nat.le_of_ble_eq_true rfl⟩ ⟨Nat.le_of_ble_eq_true rfl, Nat.le_of_ble_eq_true rfl⟩ (k' := 0) (z' := 0) (N' := N) rfl rfl rfl (fun r σ11047 hp => ?_)
  obtain ⟨rfl, rfl⟩ := hp
  refine Wm.topE (w := 102) (by decide) ?_
  refine m_bipush F (v := 32) (by decide) e_X10_wordHere_23 ?_
  refine m_icmp_eq F e_X10_wordHere_25 (fun q => absurd q (by decide)) (fun _ => ?_)
  refine m_aload_n F rfl e_X10_wordHere_28 ?_
  refine r_getC F e_X10_wordHere_29 fl_X10_107 h1 (f20) ?_
  refine m_iload_n F rfl e_X10_wordHere_32 ?_
  refine m_iadd F e_X10_wordHere_33 ?_
  refine Wm.topE (w := nI st) (nI_add st 0) ?_
  refine m_aload_n F rfl e_X10_wordHere_34 ?_
  refine r_get F e_X10_wordHere_35 fl_X10_97 h1 rfl (fun v hv f11048 => ?_)
  obtain rfl : v = .int (nI (P.a)) := hv
  refine m_icmp_ge F e_X10_wordHere_38 (fun q38 => ?_) (fun q38 => ?_)
  · have c38 : st ≥ P.a := (nI_leI (a := P.a) (b := st) (by omega) (by omega)).mp q38
    refine m_ldcS F e_X10_wordHere_69 F.sw.1.2.2 ?_
    refine m_iload_n F rfl e_X10_wordHere_71 ?_
    refine m_iload_n F rfl e_X10_wordHere_72 ?_
    refine m_iadd F e_X10_wordHere_73 ?_
    refine Wm.topE (w := 21) (by decide) ?_
    refine m_callO F e_X10_wordHere_74 (q_charAt (x_l X) V _ _ 21 (by omega)) cb_J0_charAt_5068e ml_X10_137 im_J0_charAt_5068e se_J0_charAt_5068e F.sw.2.2.2.2.2.2.1 rfl (rest := []) rfl (Nat.le_of_ble_eq_true rfl) ⟨Nat.le_of_ble_eq_true rfl, Nat.le_of_ble_eq_true rfl⟩ ⟨Nat.le_of_ble_eq_true rfl, Nat.le_of_ble_eq_true rfl⟩ (k' := 0) (z' := 0) (N' := N) rfl rfl rfl (fun r σ11049 hp => ?_)
    obtain ⟨rfl, rfl⟩ := hp
    refine Wm.topE (w := 102) (by decide) ?_
    refine m_bipush F (v := 32) (by decide) e_X10_wordHere_77 ?_
    refine m_icmp_ne F e_X10_wordHere_79 (fun _ => ?_) (fun q => absurd q (by decide))
    refine Wm.lvsub (lv' := [(1, .int 4), (2, .int 21), (0, .ref c)]) ?_ [1, 2, 3] rfl
    exact wk_4 F hQ h1 f20 hB hn7 hsa hpn hl hm (fun hz => by have z1 : P.a = st + 3 := hz.1; have z2 : t (st) = 102 := hz.2 0 (by decide); omega)
  · have c38 : st < P.a := by have hh := mt (nI_leI (a := P.a) (b := st) (by omega) (by omega)).mpr q38; omega
    refine m_aload_n F rfl e_X10_wordHere_41 ?_
    refine r_get F e_X10_wordHere_42 fl_X10_7 h1 rfl (fun v hv f11050 => ?_)
    obtain rfl : v = .ref (c + 1) := hv
    refine m_aload_n F rfl e_X10_wordHere_45 ?_
    refine r_getC F e_X10_wordHere_46 fl_X10_107 h1 (f20) ?_
    refine m_iload_n F rfl e_X10_wordHere_49 ?_
    refine m_iadd F e_X10_wordHere_50 ?_
    refine Wm.topE (w := nI st) (nI_add st 0) ?_
    have hb11051 := (hB st (by omega)).1
    refine r_iald F (len := 700) (j := st) e_X10_wordHere_51 h1 (fun _ h => h) (by decide) (nI_clamp (by omega)) (vp_in_nI (by omega) (by decide)) (fun x11052 h11053 f11054 => ?_)
    obtain rfl := Option.some.inj ((f11054).symm.trans ((hB st (by omega)).2))
    refine m_ldcS F e_X10_wordHere_52 F.sw.1.2.2 ?_
    refine m_iload_n F rfl e_X10_wordHere_54 ?_
    refine m_iload_n F rfl e_X10_wordHere_55 ?_
    refine m_iadd F e_X10_wordHere_56 ?_
    refine Wm.topE (w := 21) (by decide) ?_
    refine m_callO F e_X10_wordHere_57 (q_charAt (x_l X) V _ _ 21 (by omega)) cb_J0_charAt_5068e ml_X10_137 im_J0_charAt_5068e se_J0_charAt_5068e F.sw.2.2.2.2.2.2.1 rfl (rest := [.int (nI (t st))]) rfl (Nat.le_of_ble_eq_true rfl) ⟨Nat.le_of_ble_eq_true rfl, Nat.le_of_ble_eq_true rfl⟩ ⟨Nat.le_of_ble_eq_true rfl, Nat.le_of_ble_eq_true rfl⟩ (k' := 0) (z' := 0) (N' := N) rfl rfl rfl (fun r σ11055 hp => ?_)
    obtain ⟨rfl, rfl⟩ := hp
    refine Wm.topE (w := 102) (by decide) ?_
    refine m_icmp_ne F e_X10_wordHere_60 (fun q60 => ?_) (fun q60 => ?_)
    · have c60 : (t st) ≠ 102 := by have hh := mt (nI_eq (a := (t st)) (b := 102) (by omega) (by omega)).mpr q60; omega
      refine m_ldcS F e_X10_wordHere_69 F.sw.1.2.2 ?_
      refine m_iload_n F rfl e_X10_wordHere_71 ?_
      refine m_iload_n F rfl e_X10_wordHere_72 ?_
      refine m_iadd F e_X10_wordHere_73 ?_
      refine Wm.topE (w := 21) (by decide) ?_
      refine m_callO F e_X10_wordHere_74 (q_charAt (x_l X) V _ _ 21 (by omega)) cb_J0_charAt_5068e ml_X10_137 im_J0_charAt_5068e se_J0_charAt_5068e F.sw.2.2.2.2.2.2.1 rfl (rest := []) rfl (Nat.le_of_ble_eq_true rfl) ⟨Nat.le_of_ble_eq_true rfl, Nat.le_of_ble_eq_true rfl⟩ ⟨Nat.le_of_ble_eq_true rfl, Nat.le_of_ble_eq_true rfl⟩ (k' := 0) (z' := 0) (N' := N) rfl rfl rfl (fun r σ11056 hp => ?_)
      obtain ⟨rfl, rfl⟩ := hp
      refine Wm.topE (w := 102) (by decide) ?_
      refine m_bipush F (v := 32) (by decide) e_X10_wordHere_77 ?_
      refine m_icmp_ne F e_X10_wordHere_79 (fun _ => ?_) (fun q => absurd q (by decide))
      refine Wm.lvsub (lv' := [(1, .int 4), (2, .int 21), (0, .ref c)]) ?_ [1, 2, 3] rfl
      exact wk_4 F hQ h1 f20 hB hn7 hsa hpn hl hm (fun hz => by have z1 : P.a = st + 3 := hz.1; have z2 : t (st) = 102 := hz.2 0 (by decide); omega)
    · have c60 : (t st) = 102 := (nI_eq (a := (t st)) (b := 102) (by omega) (by omega)).mp q60
      refine m_iinc F (v := 1) (lv' := [(3, .int 1), (1, .int 4), (2, .int 21), (0, .ref c)]) e_X10_wordHere_63 rfl (by decide) (by decide) rfl ?_
      refine m_goto F e_X10_wordHere_66 ?_
      refine m_ldcS F e_X10_wordHere_15 F.sw.1.2.2 ?_
      refine m_iload_n F rfl e_X10_wordHere_17 ?_
      refine m_iload_n F rfl e_X10_wordHere_18 ?_
      refine m_iadd F e_X10_wordHere_19 ?_
      refine Wm.topE (w := 22) (by decide) ?_
      refine m_callO F e_X10_wordHere_20 (q_charAt (x_l X) V _ _ 22 (by omega)) cb_J0_charAt_5068e ml_X10_137 im_J0_charAt_5068e se_J0_charAt_5068e F.sw.2.2.2.2.2.2.1 rfl (rest := []) rfl (Nat.le_of_ble_eq_true rfl) ⟨Nat.le_of_ble_eq_true rfl, Nat.le_of_ble_eq_true rfl⟩ ⟨Nat.le_of_ble_eq_true rfl, Nat.le_of_ble_eq_true rfl⟩ (k' := 0) (z' := 0) (N' := N) rfl rfl rfl (fun r σ11057 hp => ?_)
      obtain ⟨rfl, rfl⟩ := hp
      refine Wm.topE (w := 101) (by decide) ?_
      refine m_bipush F (v := 32) (by decide) e_X10_wordHere_23 ?_
      refine m_icmp_eq F e_X10_wordHere_25 (fun q => absurd q (by decide)) (fun _ => ?_)
      refine m_aload_n F rfl e_X10_wordHere_28 ?_
      refine r_getC F e_X10_wordHere_29 fl_X10_107 h1 (f20) ?_
      refine m_iload_n F rfl e_X10_wordHere_32 ?_
      refine m_iadd F e_X10_wordHere_33 ?_
      refine Wm.topE (w := nI (st + 1)) (nI_add st 1) ?_
      refine m_aload_n F rfl e_X10_wordHere_34 ?_
      refine r_getC F e_X10_wordHere_35 fl_X10_97 h1 (f11048) ?_
      refine m_icmp_ge F e_X10_wordHere_38 (fun q38 => ?_) (fun q38 => ?_)
      · have c38 : (st + 1) ≥ P.a := (nI_leI (a := P.a) (b := (st + 1)) (by omega) (by omega)).mp q38
        refine m_ldcS F e_X10_wordHere_69 F.sw.1.2.2 ?_
        refine m_iload_n F rfl e_X10_wordHere_71 ?_
        refine m_iload_n F rfl e_X10_wordHere_72 ?_
        refine m_iadd F e_X10_wordHere_73 ?_
        refine Wm.topE (w := 22) (by decide) ?_
        refine m_callO F e_X10_wordHere_74 (q_charAt (x_l X) V _ _ 22 (by omega)) cb_J0_charAt_5068e ml_X10_137 im_J0_charAt_5068e se_J0_charAt_5068e F.sw.2.2.2.2.2.2.1 rfl (rest := []) rfl (Nat.le_of_ble_eq_true rfl) ⟨Nat.le_of_ble_eq_true rfl, Nat.le_of_ble_eq_true rfl⟩ ⟨Nat.le_of_ble_eq_true rfl, Nat.le_of_ble_eq_true rfl⟩ (k' := 0) (z' := 0) (N' := N) rfl rfl rfl (fun r σ11058 hp => ?_)
        obtain ⟨rfl, rfl⟩ := hp
        refine Wm.topE (w := 101) (by decide) ?_
        refine m_bipush F (v := 32) (by decide) e_X10_wordHere_77 ?_
        refine m_icmp_ne F e_X10_wordHere_79 (fun _ => ?_) (fun q => absurd q (by decide))
        refine Wm.lvsub (lv' := [(1, .int 4), (2, .int 21), (0, .ref c)]) ?_ [1, 2, 3] rfl
        exact wk_4 F hQ h1 f20 hB hn7 hsa hpn hl hm (fun hz => by have z1 : P.a = st + 3 := hz.1; have z2 : t (st + 1) = 101 := hz.2 1 (by decide); omega)
      · have c38 : (st + 1) < P.a := by have hh := mt (nI_leI (a := P.a) (b := (st + 1)) (by omega) (by omega)).mpr q38; omega
        refine m_aload_n F rfl e_X10_wordHere_41 ?_
        refine r_getC F e_X10_wordHere_42 fl_X10_7 h1 (f11050) ?_
        refine m_aload_n F rfl e_X10_wordHere_45 ?_
        refine r_getC F e_X10_wordHere_46 fl_X10_107 h1 (f20) ?_
        refine m_iload_n F rfl e_X10_wordHere_49 ?_
        refine m_iadd F e_X10_wordHere_50 ?_
        refine Wm.topE (w := nI (st + 1)) (nI_add st 1) ?_
        have hb11059 := (hB (st + 1) (by omega)).1
        refine r_iald F (len := 700) (j := st + 1) e_X10_wordHere_51 h1 (fun _ h => h) (by decide) (nI_clamp (by omega)) (vp_in_nI (by omega) (by decide)) (fun x11060 h11061 f11062 => ?_)
        obtain rfl := Option.some.inj ((f11062).symm.trans ((hB (st + 1) (by omega)).2))
        refine m_ldcS F e_X10_wordHere_52 F.sw.1.2.2 ?_
        refine m_iload_n F rfl e_X10_wordHere_54 ?_
        refine m_iload_n F rfl e_X10_wordHere_55 ?_
        refine m_iadd F e_X10_wordHere_56 ?_
        refine Wm.topE (w := 22) (by decide) ?_
        refine m_callO F e_X10_wordHere_57 (q_charAt (x_l X) V _ _ 22 (by omega)) cb_J0_charAt_5068e ml_X10_137 im_J0_charAt_5068e se_J0_charAt_5068e F.sw.2.2.2.2.2.2.1 rfl (rest := [.int (nI (t (st + 1)))]) rfl (Nat.le_of_ble_eq_true rfl) ⟨Nat.le_of_ble_eq_true rfl, Nat.le_of_ble_eq_true rfl⟩ ⟨Nat.le_of_ble_eq_true rfl, Nat.le_of_ble_eq_true rfl⟩ (k' := 0) (z' := 0) (N' := N) rfl rfl rfl (fun r σ11063 hp => ?_)
        obtain ⟨rfl, rfl⟩ := hp
        refine Wm.topE (w := 101) (by decide) ?_
        refine m_icmp_ne F e_X10_wordHere_60 (fun q60 => ?_) (fun q60 => ?_)
        · have c60 : (t (st + 1)) ≠ 101 := by have hh := mt (nI_eq (a := (t (st + 1))) (b := 101) (by omega) (by omega)).mpr q60; omega
          refine m_ldcS F e_X10_wordHere_69 F.sw.1.2.2 ?_
          refine m_iload_n F rfl e_X10_wordHere_71 ?_
          refine m_iload_n F rfl e_X10_wordHere_72 ?_
          refine m_iadd F e_X10_wordHere_73 ?_
          refine Wm.topE (w := 22) (by decide) ?_
          refine m_callO F e_X10_wordHere_74 (q_charAt (x_l X) V _ _ 22 (by omega)) cb_J0_charAt_5068e ml_X10_137 im_J0_charAt_5068e se_J0_charAt_5068e F.sw.2.2.2.2.2.2.1 rfl (rest := []) rfl (Nat.le_of_ble_eq_true rfl) ⟨Nat.le_of_ble_eq_true rfl, Nat.le_of_ble_eq_true rfl⟩ ⟨Nat.le_of_ble_eq_true rfl, Nat.le_of_ble_eq_true rfl⟩ (k' := 0) (z' := 0) (N' := N) rfl rfl rfl (fun r σ11064 hp => ?_)
          obtain ⟨rfl, rfl⟩ := hp
          refine Wm.topE (w := 101) (by decide) ?_
          refine m_bipush F (v := 32) (by decide) e_X10_wordHere_77 ?_
          refine m_icmp_ne F e_X10_wordHere_79 (fun _ => ?_) (fun q => absurd q (by decide))
          refine Wm.lvsub (lv' := [(1, .int 4), (2, .int 21), (0, .ref c)]) ?_ [1, 2, 3] rfl
          exact wk_4 F hQ h1 f20 hB hn7 hsa hpn hl hm (fun hz => by have z1 : P.a = st + 3 := hz.1; have z2 : t (st + 1) = 101 := hz.2 1 (by decide); omega)
        · have c60 : (t (st + 1)) = 101 := (nI_eq (a := (t (st + 1))) (b := 101) (by omega) (by omega)).mp q60
          refine m_iinc F (v := 2) (lv' := [(3, .int 2), (1, .int 4), (2, .int 21), (0, .ref c)]) e_X10_wordHere_63 rfl (by decide) (by decide) rfl ?_
          refine m_goto F e_X10_wordHere_66 ?_
          refine m_ldcS F e_X10_wordHere_15 F.sw.1.2.2 ?_
          refine m_iload_n F rfl e_X10_wordHere_17 ?_
          refine m_iload_n F rfl e_X10_wordHere_18 ?_
          refine m_iadd F e_X10_wordHere_19 ?_
          refine Wm.topE (w := 23) (by decide) ?_
          refine m_callO F e_X10_wordHere_20 (q_charAt (x_l X) V _ _ 23 (by omega)) cb_J0_charAt_5068e ml_X10_137 im_J0_charAt_5068e se_J0_charAt_5068e F.sw.2.2.2.2.2.2.1 rfl (rest := []) rfl (Nat.le_of_ble_eq_true rfl) ⟨Nat.le_of_ble_eq_true rfl, Nat.le_of_ble_eq_true rfl⟩ ⟨Nat.le_of_ble_eq_true rfl, Nat.le_of_ble_eq_true rfl⟩ (k' := 0) (z' := 0) (N' := N) rfl rfl rfl (fun r σ11065 hp => ?_)
          obtain ⟨rfl, rfl⟩ := hp
          refine Wm.topE (w := 101) (by decide) ?_
          refine m_bipush F (v := 32) (by decide) e_X10_wordHere_23 ?_
          refine m_icmp_eq F e_X10_wordHere_25 (fun q => absurd q (by decide)) (fun _ => ?_)
          refine m_aload_n F rfl e_X10_wordHere_28 ?_
          refine r_getC F e_X10_wordHere_29 fl_X10_107 h1 (f20) ?_
          refine m_iload_n F rfl e_X10_wordHere_32 ?_
          refine m_iadd F e_X10_wordHere_33 ?_
          refine Wm.topE (w := nI (st + 2)) (nI_add st 2) ?_
          refine m_aload_n F rfl e_X10_wordHere_34 ?_
          refine r_getC F e_X10_wordHere_35 fl_X10_97 h1 (f11048) ?_
          refine m_icmp_ge F e_X10_wordHere_38 (fun q38 => ?_) (fun q38 => ?_)
          · have c38 : (st + 2) ≥ P.a := (nI_leI (a := P.a) (b := (st + 2)) (by omega) (by omega)).mp q38
            refine m_ldcS F e_X10_wordHere_69 F.sw.1.2.2 ?_
            refine m_iload_n F rfl e_X10_wordHere_71 ?_
            refine m_iload_n F rfl e_X10_wordHere_72 ?_
            refine m_iadd F e_X10_wordHere_73 ?_
            refine Wm.topE (w := 23) (by decide) ?_
            refine m_callO F e_X10_wordHere_74 (q_charAt (x_l X) V _ _ 23 (by omega)) cb_J0_charAt_5068e ml_X10_137 im_J0_charAt_5068e se_J0_charAt_5068e F.sw.2.2.2.2.2.2.1 rfl (rest := []) rfl (Nat.le_of_ble_eq_true rfl) ⟨Nat.le_of_ble_eq_true rfl, Nat.le_of_ble_eq_true rfl⟩ ⟨Nat.le_of_ble_eq_true rfl, Nat.le_of_ble_eq_true rfl⟩ (k' := 0) (z' := 0) (N' := N) rfl rfl rfl (fun r σ11066 hp => ?_)
            obtain ⟨rfl, rfl⟩ := hp
            refine Wm.topE (w := 101) (by decide) ?_
            refine m_bipush F (v := 32) (by decide) e_X10_wordHere_77 ?_
            refine m_icmp_ne F e_X10_wordHere_79 (fun _ => ?_) (fun q => absurd q (by decide))
            refine Wm.lvsub (lv' := [(1, .int 4), (2, .int 21), (0, .ref c)]) ?_ [1, 2, 3] rfl
            exact wk_4 F hQ h1 f20 hB hn7 hsa hpn hl hm (fun hz => by have z1 : P.a = st + 3 := hz.1; have z2 : t (st + 2) = 101 := hz.2 2 (by decide); omega)
          · have c38 : (st + 2) < P.a := by have hh := mt (nI_leI (a := P.a) (b := (st + 2)) (by omega) (by omega)).mpr q38; omega
            refine m_aload_n F rfl e_X10_wordHere_41 ?_
            refine r_getC F e_X10_wordHere_42 fl_X10_7 h1 (f11050) ?_
            refine m_aload_n F rfl e_X10_wordHere_45 ?_
            refine r_getC F e_X10_wordHere_46 fl_X10_107 h1 (f20) ?_
            refine m_iload_n F rfl e_X10_wordHere_49 ?_
            refine m_iadd F e_X10_wordHere_50 ?_
            refine Wm.topE (w := nI (st + 2)) (nI_add st 2) ?_
            have hb11067 := (hB (st + 2) (by omega)).1
            refine r_iald F (len := 700) (j := st + 2) e_X10_wordHere_51 h1 (fun _ h => h) (by decide) (nI_clamp (by omega)) (vp_in_nI (by omega) (by decide)) (fun x11068 h11069 f11070 => ?_)
            obtain rfl := Option.some.inj ((f11070).symm.trans ((hB (st + 2) (by omega)).2))
            refine m_ldcS F e_X10_wordHere_52 F.sw.1.2.2 ?_
            refine m_iload_n F rfl e_X10_wordHere_54 ?_
            refine m_iload_n F rfl e_X10_wordHere_55 ?_
            refine m_iadd F e_X10_wordHere_56 ?_
            refine Wm.topE (w := 23) (by decide) ?_
            refine m_callO F e_X10_wordHere_57 (q_charAt (x_l X) V _ _ 23 (by omega)) cb_J0_charAt_5068e ml_X10_137 im_J0_charAt_5068e se_J0_charAt_5068e F.sw.2.2.2.2.2.2.1 rfl (rest := [.int (nI (t (st + 2)))]) rfl (Nat.le_of_ble_eq_true rfl) ⟨Nat.le_of_ble_eq_true rfl, Nat.le_of_ble_eq_true rfl⟩ ⟨Nat.le_of_ble_eq_true rfl, Nat.le_of_ble_eq_true rfl⟩ (k' := 0) (z' := 0) (N' := N) rfl rfl rfl (fun r σ11071 hp => ?_)
            obtain ⟨rfl, rfl⟩ := hp
            refine Wm.topE (w := 101) (by decide) ?_
            refine m_icmp_ne F e_X10_wordHere_60 (fun q60 => ?_) (fun q60 => ?_)
            · have c60 : (t (st + 2)) ≠ 101 := by have hh := mt (nI_eq (a := (t (st + 2))) (b := 101) (by omega) (by omega)).mpr q60; omega
              refine m_ldcS F e_X10_wordHere_69 F.sw.1.2.2 ?_
              refine m_iload_n F rfl e_X10_wordHere_71 ?_
              refine m_iload_n F rfl e_X10_wordHere_72 ?_
              refine m_iadd F e_X10_wordHere_73 ?_
              refine Wm.topE (w := 23) (by decide) ?_
              refine m_callO F e_X10_wordHere_74 (q_charAt (x_l X) V _ _ 23 (by omega)) cb_J0_charAt_5068e ml_X10_137 im_J0_charAt_5068e se_J0_charAt_5068e F.sw.2.2.2.2.2.2.1 rfl (rest := []) rfl (Nat.le_of_ble_eq_true rfl) ⟨Nat.le_of_ble_eq_true rfl, Nat.le_of_ble_eq_true rfl⟩ ⟨Nat.le_of_ble_eq_true rfl, Nat.le_of_ble_eq_true rfl⟩ (k' := 0) (z' := 0) (N' := N) rfl rfl rfl (fun r σ11072 hp => ?_)
              obtain ⟨rfl, rfl⟩ := hp
              refine Wm.topE (w := 101) (by decide) ?_
              refine m_bipush F (v := 32) (by decide) e_X10_wordHere_77 ?_
              refine m_icmp_ne F e_X10_wordHere_79 (fun _ => ?_) (fun q => absurd q (by decide))
              refine Wm.lvsub (lv' := [(1, .int 4), (2, .int 21), (0, .ref c)]) ?_ [1, 2, 3] rfl
              exact wk_4 F hQ h1 f20 hB hn7 hsa hpn hl hm (fun hz => by have z1 : P.a = st + 3 := hz.1; have z2 : t (st + 2) = 101 := hz.2 2 (by decide); omega)
            · have c60 : (t (st + 2)) = 101 := (nI_eq (a := (t (st + 2))) (b := 101) (by omega) (by omega)).mp q60
              refine m_iinc F (v := 3) (lv' := [(3, .int 3), (1, .int 4), (2, .int 21), (0, .ref c)]) e_X10_wordHere_63 rfl (by decide) (by decide) rfl ?_
              refine m_goto F e_X10_wordHere_66 ?_
              refine m_ldcS F e_X10_wordHere_15 F.sw.1.2.2 ?_
              refine m_iload_n F rfl e_X10_wordHere_17 ?_
              refine m_iload_n F rfl e_X10_wordHere_18 ?_
              refine m_iadd F e_X10_wordHere_19 ?_
              refine Wm.topE (w := 24) (by decide) ?_
              refine m_callO F e_X10_wordHere_20 (q_charAt (x_l X) V _ _ 24 (by omega)) cb_J0_charAt_5068e ml_X10_137 im_J0_charAt_5068e se_J0_charAt_5068e F.sw.2.2.2.2.2.2.1 rfl (rest := []) rfl (Nat.le_of_ble_eq_true rfl) ⟨Nat.le_of_ble_eq_true rfl, Nat.le_of_ble_eq_true rfl⟩ ⟨Nat.le_of_ble_eq_true rfl, Nat.le_of_ble_eq_true rfl⟩ (k' := 0) (z' := 0) (N' := N) rfl rfl rfl (fun r σ11073 hp => ?_)
              obtain ⟨rfl, rfl⟩ := hp
              refine Wm.topE (w := 32) (by decide) ?_
              refine m_bipush F (v := 32) (by decide) e_X10_wordHere_23 ?_
              refine m_icmp_eq F e_X10_wordHere_25 (fun _ => ?_) (fun q => absurd (by decide) q)
              refine m_ldcS F e_X10_wordHere_69 F.sw.1.2.2 ?_
              refine m_iload_n F rfl e_X10_wordHere_71 ?_
              refine m_iload_n F rfl e_X10_wordHere_72 ?_
              refine m_iadd F e_X10_wordHere_73 ?_
              refine Wm.topE (w := 24) (by decide) ?_
              refine m_callO F e_X10_wordHere_74 (q_charAt (x_l X) V _ _ 24 (by omega)) cb_J0_charAt_5068e ml_X10_137 im_J0_charAt_5068e se_J0_charAt_5068e F.sw.2.2.2.2.2.2.1 rfl (rest := []) rfl (Nat.le_of_ble_eq_true rfl) ⟨Nat.le_of_ble_eq_true rfl, Nat.le_of_ble_eq_true rfl⟩ ⟨Nat.le_of_ble_eq_true rfl, Nat.le_of_ble_eq_true rfl⟩ (k' := 0) (z' := 0) (N' := N) rfl rfl rfl (fun r σ11074 hp => ?_)
              obtain ⟨rfl, rfl⟩ := hp
              refine Wm.topE (w := 32) (by decide) ?_
              refine m_bipush F (v := 32) (by decide) e_X10_wordHere_77 ?_
              refine m_icmp_ne F e_X10_wordHere_79 (fun q => absurd (by decide) q) (fun _ => ?_)
              refine m_aload_n F rfl e_X10_wordHere_82 ?_
              refine r_getC F e_X10_wordHere_83 fl_X10_107 h1 (f20) ?_
              refine m_iload_n F rfl e_X10_wordHere_86 ?_
              refine m_iadd F e_X10_wordHere_87 ?_
              refine Wm.topE (w := nI (st + 3)) (nI_add st 3) ?_
              refine m_aload_n F rfl e_X10_wordHere_88 ?_
              refine r_getC F e_X10_wordHere_89 fl_X10_97 h1 (f11048) ?_
              refine m_icmp_ne F e_X10_wordHere_92 (fun q92 => ?_) (fun q92 => ?_)
              · have c92 : (st + 3) ≠ P.a := by have hh := mt (nI_eq (a := (st + 3)) (b := P.a) (by omega) (by omega)).mpr q92; omega
                refine Wm.lvsub (lv' := [(1, .int 4), (2, .int 21), (0, .ref c)]) ?_ [1, 2, 3] rfl
                exact wk_4 F hQ h1 f20 hB hn7 hsa hpn hl hm (fun hz => by have z1 : P.a = st + 3 := hz.1; omega)
              · have c92 : (st + 3) = P.a := (nI_eq (a := (st + 3)) (b := P.a) (by omega) (by omega)).mp q92
                refine m_iload_n F rfl e_X10_wordHere_95 ?_
                have hz : mw t st P.a 4 := by
                  refine ⟨(show P.a = st + 3 by omega), fun i hi => ?_⟩
                  have hi2 : i = 0 ∨ i = 1 ∨ i = 2 := by have hi3 : i < 3 := hi; omega
                  rcases hi2 with rfl | rfl | rfl
                  · show t (st + 0) = 102; first | assumption | omega
                  · show t (st + 1) = 101; first | assumption | omega
                  · show t (st + 2) = 101; first | assumption | omega
                have hy := kix_mw hsa hl (by decide) hz
                exact m_iret F hQ e_X10_wordHere_96 ⟨h1, Or.inl ⟨hy.1, by rw [hy.2]; decide, by rw [hy.2]; rfl⟩⟩
set_option maxRecDepth 20000 in
theorem wk_3 {V : VX} {X : MX} {N : Nat} {σ : Mem} {c T Z u h : Nat} {P : NP} {L : Nat → LQ} {n st : Nat} {t : Nat → Nat} (F : Fx V X yX10_wordHere cX10_wordHere 4 (some .int) (rmd 4 0 0)) (hQ : Rt V X 0 0 N (fun r τ => HS V c (⟨T, Z, u, h, P, L⟩ : RG) [0, 1, 2, 3, 4, 5, 6, 7, 8, 9, 10, 11, 12, 13, 14, 15, 16, 17, 18, 19, 20, 21, 22, 23] σ τ ∧ ((P.a - st ≤ 6 ∧ kix (nmc t st P.a 6) < 9 ∧ r = some (.int (nI (kix (nmc t st P.a 6))))) ∨ (¬ (P.a - st ≤ 6 ∧ kix (nmc t st P.a 6) < 9) ∧ r = some (.int (-1)))))) (h1 : HS V c ⟨T, Z, u, h, P, L⟩ [0, 1, 2, 3, 4, 5, 6, 7, 8, 9, 10, 11, 12, 13, 14, 15, 16, 17, 18, 19, 20, 21, 22, 23] σ σ) (f20 : fld σ c 20 = some (.int (nI st))) (hB : BR σ c n t) (hn7 : n ≤ 700) (hsa : st < P.a) (hpn : P.a ≤ n) (hl : ∀ i, st ≤ i → i < P.a → isL (t i) = true) (hm : ∀ m, m < 3 → ¬ mw t st P.a m) (hz : ¬ mw t st P.a 3) : Wm V X 4 N σ 0 0 97 [(1, .int 3), (2, .int 16), (0, .ref c)] [] := by
  refine m_ldcS F e_X10_wordHere_97 F.sw.1.2.2 ?_
  refine m_iload_n F rfl e_X10_wordHere_99 ?_
  refine m_callO F e_X10_wordHere_100 (q_charAt (x_l X) V _ _ 16 (by omega)) cb_J0_charAt_5068e ml_X10_137 im_J0_charAt_5068e se_J0_charAt_5068e F.sw.2.2.2.2.2.2.1 rfl (rest := []) rfl (Nat.le_of_ble_eq_true rfl) ⟨Nat.le_of_ble_eq_true rfl, Nat.le_of_ble_eq_true rfl⟩ ⟨Nat.le_of_ble_eq_true rfl, Nat.le_of_ble_eq_true rfl⟩ (k' := 0) (z' := 0) (N' := N) rfl rfl rfl (fun r σ11075 hp => ?_)
  obtain ⟨rfl, rfl⟩ := hp
  refine Wm.topE (w := 102) (by decide) ?_
  refine m_bipush F (v := 32) (by decide) e_X10_wordHere_103 ?_
  refine m_icmp_eq F e_X10_wordHere_105 (fun q => absurd q (by decide)) (fun _ => ?_)
  refine m_iinc F (v := 17) (lv' := [(2, .int 17), (1, .int 3), (0, .ref c)]) e_X10_wordHere_108 rfl (by decide) (by decide) rfl ?_
  refine m_goto F e_X10_wordHere_111 ?_
  refine m_ldcS F e_X10_wordHere_97 F.sw.1.2.2 ?_
  refine m_iload_n F rfl e_X10_wordHere_99 ?_
  refine m_callO F e_X10_wordHere_100 (q_charAt (x_l X) V _ _ 17 (by omega)) cb_J0_charAt_5068e ml_X10_137 im_J0_charAt_5068e se_J0_charAt_5068e F.sw.2.2.2.2.2.2.1 rfl (rest := []) rfl (Nat.le_of_ble_eq_true rfl) ⟨Nat.le_of_ble_eq_true rfl, Nat.le_of_ble_eq_true rfl⟩ ⟨Nat.le_of_ble_eq_true rfl, Nat.le_of_ble_eq_true rfl⟩ (k' := 0) (z' := 0) (N' := N) rfl rfl rfl (fun r σ11076 hp => ?_)
  obtain ⟨rfl, rfl⟩ := hp
  refine Wm.topE (w := 97) (by decide) ?_
  refine m_bipush F (v := 32) (by decide) e_X10_wordHere_103 ?_
  refine m_icmp_eq F e_X10_wordHere_105 (fun q => absurd q (by decide)) (fun _ => ?_)
  refine m_iinc F (v := 18) (lv' := [(2, .int 18), (1, .int 3), (0, .ref c)]) e_X10_wordHere_108 rfl (by decide) (by decide) rfl ?_
  refine m_goto F e_X10_wordHere_111 ?_
  refine m_ldcS F e_X10_wordHere_97 F.sw.1.2.2 ?_
  refine m_iload_n F rfl e_X10_wordHere_99 ?_
  refine m_callO F e_X10_wordHere_100 (q_charAt (x_l X) V _ _ 18 (by omega)) cb_J0_charAt_5068e ml_X10_137 im_J0_charAt_5068e se_J0_charAt_5068e F.sw.2.2.2.2.2.2.1 rfl (rest := []) rfl (Nat.le_of_ble_eq_true rfl) ⟨Nat.le_of_ble_eq_true rfl, Nat.le_of_ble_eq_true rfl⟩ ⟨Nat.le_of_ble_eq_true rfl, Nat.le_of_ble_eq_true rfl⟩ (k' := 0) (z' := 0) (N' := N) rfl rfl rfl (fun r σ11077 hp => ?_)
  obtain ⟨rfl, rfl⟩ := hp
  refine Wm.topE (w := 105) (by decide) ?_
  refine m_bipush F (v := 32) (by decide) e_X10_wordHere_103 ?_
  refine m_icmp_eq F e_X10_wordHere_105 (fun q => absurd q (by decide)) (fun _ => ?_)
  refine m_iinc F (v := 19) (lv' := [(2, .int 19), (1, .int 3), (0, .ref c)]) e_X10_wordHere_108 rfl (by decide) (by decide) rfl ?_
  refine m_goto F e_X10_wordHere_111 ?_
  refine m_ldcS F e_X10_wordHere_97 F.sw.1.2.2 ?_
  refine m_iload_n F rfl e_X10_wordHere_99 ?_
  refine m_callO F e_X10_wordHere_100 (q_charAt (x_l X) V _ _ 19 (by omega)) cb_J0_charAt_5068e ml_X10_137 im_J0_charAt_5068e se_J0_charAt_5068e F.sw.2.2.2.2.2.2.1 rfl (rest := []) rfl (Nat.le_of_ble_eq_true rfl) ⟨Nat.le_of_ble_eq_true rfl, Nat.le_of_ble_eq_true rfl⟩ ⟨Nat.le_of_ble_eq_true rfl, Nat.le_of_ble_eq_true rfl⟩ (k' := 0) (z' := 0) (N' := N) rfl rfl rfl (fun r σ11078 hp => ?_)
  obtain ⟨rfl, rfl⟩ := hp
  refine Wm.topE (w := 114) (by decide) ?_
  refine m_bipush F (v := 32) (by decide) e_X10_wordHere_103 ?_
  refine m_icmp_eq F e_X10_wordHere_105 (fun q => absurd q (by decide)) (fun _ => ?_)
  refine m_iinc F (v := 20) (lv' := [(2, .int 20), (1, .int 3), (0, .ref c)]) e_X10_wordHere_108 rfl (by decide) (by decide) rfl ?_
  refine m_goto F e_X10_wordHere_111 ?_
  refine m_ldcS F e_X10_wordHere_97 F.sw.1.2.2 ?_
  refine m_iload_n F rfl e_X10_wordHere_99 ?_
  refine m_callO F e_X10_wordHere_100 (q_charAt (x_l X) V _ _ 20 (by omega)) cb_J0_charAt_5068e ml_X10_137 im_J0_charAt_5068e se_J0_charAt_5068e F.sw.2.2.2.2.2.2.1 rfl (rest := []) rfl (Nat.le_of_ble_eq_true rfl) ⟨Nat.le_of_ble_eq_true rfl, Nat.le_of_ble_eq_true rfl⟩ ⟨Nat.le_of_ble_eq_true rfl, Nat.le_of_ble_eq_true rfl⟩ (k' := 0) (z' := 0) (N' := N) rfl rfl rfl (fun r σ11079 hp => ?_)
  obtain ⟨rfl, rfl⟩ := hp
  refine Wm.topE (w := 32) (by decide) ?_
  refine m_bipush F (v := 32) (by decide) e_X10_wordHere_103 ?_
  refine m_icmp_eq F e_X10_wordHere_105 (fun _ => ?_) (fun q => absurd (by decide) q)
  refine m_iinc F (v := 21) (lv' := [(2, .int 21), (1, .int 3), (0, .ref c)]) e_X10_wordHere_114 rfl (by decide) (by decide) rfl ?_
  refine m_iinc F (v := 4) (lv' := [(1, .int 4), (2, .int 21), (0, .ref c)]) e_X10_wordHere_117 rfl (by decide) (by decide) rfl ?_
  refine m_goto F e_X10_wordHere_120 ?_
  exact wh_4 F hQ h1 f20 hB hn7 hsa hpn hl (fun m9 h9 => if e9 : m9 = 3 then e9 ▸ hz else hm m9 (by omega))
set_option maxRecDepth 20000 in
theorem wh_3 {V : VX} {X : MX} {N : Nat} {σ : Mem} {c T Z u h : Nat} {P : NP} {L : Nat → LQ} {n st : Nat} {t : Nat → Nat} (F : Fx V X yX10_wordHere cX10_wordHere 4 (some .int) (rmd 4 0 0)) (hQ : Rt V X 0 0 N (fun r τ => HS V c (⟨T, Z, u, h, P, L⟩ : RG) [0, 1, 2, 3, 4, 5, 6, 7, 8, 9, 10, 11, 12, 13, 14, 15, 16, 17, 18, 19, 20, 21, 22, 23] σ τ ∧ ((P.a - st ≤ 6 ∧ kix (nmc t st P.a 6) < 9 ∧ r = some (.int (nI (kix (nmc t st P.a 6))))) ∨ (¬ (P.a - st ≤ 6 ∧ kix (nmc t st P.a 6) < 9) ∧ r = some (.int (-1)))))) (h1 : HS V c ⟨T, Z, u, h, P, L⟩ [0, 1, 2, 3, 4, 5, 6, 7, 8, 9, 10, 11, 12, 13, 14, 15, 16, 17, 18, 19, 20, 21, 22, 23] σ σ) (f20 : fld σ c 20 = some (.int (nI st))) (hB : BR σ c n t) (hn7 : n ≤ 700) (hsa : st < P.a) (hpn : P.a ≤ n) (hl : ∀ i, st ≤ i → i < P.a → isL (t i) = true) (hm : ∀ m, m < 3 → ¬ mw t st P.a m) : Wm V X 4 N σ 0 0 4 [(1, .int 3), (2, .int 16), (0, .ref c)] [] := by
  refine m_iload_n F rfl e_X10_wordHere_4 ?_
  refine m_ldcS F e_X10_wordHere_5 F.sw.1.2.2 ?_
  refine m_callO F e_X10_wordHere_7 (q_length (x_l X) V _ _) cb_J0_length_8abf5 ml_X10_132 im_J0_length_8abf5 se_J0_length_8abf5 F.sw.2.2.2.2.2.2.1 rfl (rest := [.int 16]) rfl (Nat.le_of_ble_eq_true rfl) ⟨Nat.le_of_ble_eq_true rfl, Nat.le_of_ble_eq_true rfl⟩ ⟨Nat.le_of_ble_eq_true rfl, Nat.le_of_ble_eq_true rfl⟩ (k' := 0) (z' := 0) (N' := N) rfl rfl rfl (fun r σ11080 hp => ?_)
  obtain ⟨rfl, rfl⟩ := hp
  refine m_icmp_ge F e_X10_wordHere_10 (fun q => absurd q (by decide)) (fun _ => ?_)
  refine m_iconst F (v := 0) (by decide) e_X10_wordHere_13 ?_
  refine m_istore_n F (lv' := [(3, .int 0), (1, .int 3), (2, .int 16), (0, .ref c)]) e_X10_wordHere_14 (by decide) rfl ?_
  refine m_ldcS F e_X10_wordHere_15 F.sw.1.2.2 ?_
  refine m_iload_n F rfl e_X10_wordHere_17 ?_
  refine m_iload_n F rfl e_X10_wordHere_18 ?_
  refine m_iadd F e_X10_wordHere_19 ?_
  refine Wm.topE (w := 16) (by decide) ?_
  refine m_callO F e_X10_wordHere_20 (q_charAt (x_l X) V _ _ 16 (by omega)) cb_J0_charAt_5068e ml_X10_137 im_J0_charAt_5068e se_J0_charAt_5068e F.sw.2.2.2.2.2.2.1 rfl (rest := []) rfl (Nat.le_of_ble_eq_true rfl) ⟨Nat.le_of_ble_eq_true rfl, Nat.le_of_ble_eq_true rfl⟩ ⟨Nat.le_of_ble_eq_true rfl, Nat.le_of_ble_eq_true rfl⟩ (k' := 0) (z' := 0) (N' := N) rfl rfl rfl (fun r σ11081 hp => ?_)
  obtain ⟨rfl, rfl⟩ := hp
  refine Wm.topE (w := 102) (by decide) ?_
  refine m_bipush F (v := 32) (by decide) e_X10_wordHere_23 ?_
  refine m_icmp_eq F e_X10_wordHere_25 (fun q => absurd q (by decide)) (fun _ => ?_)
  refine m_aload_n F rfl e_X10_wordHere_28 ?_
  refine r_getC F e_X10_wordHere_29 fl_X10_107 h1 (f20) ?_
  refine m_iload_n F rfl e_X10_wordHere_32 ?_
  refine m_iadd F e_X10_wordHere_33 ?_
  refine Wm.topE (w := nI st) (nI_add st 0) ?_
  refine m_aload_n F rfl e_X10_wordHere_34 ?_
  refine r_get F e_X10_wordHere_35 fl_X10_97 h1 rfl (fun v hv f11082 => ?_)
  obtain rfl : v = .int (nI (P.a)) := hv
  refine m_icmp_ge F e_X10_wordHere_38 (fun q38 => ?_) (fun q38 => ?_)
  · have c38 : st ≥ P.a := (nI_leI (a := P.a) (b := st) (by omega) (by omega)).mp q38
    refine m_ldcS F e_X10_wordHere_69 F.sw.1.2.2 ?_
    refine m_iload_n F rfl e_X10_wordHere_71 ?_
    refine m_iload_n F rfl e_X10_wordHere_72 ?_
    refine m_iadd F e_X10_wordHere_73 ?_
    refine Wm.topE (w := 16) (by decide) ?_
    refine m_callO F e_X10_wordHere_74 (q_charAt (x_l X) V _ _ 16 (by omega)) cb_J0_charAt_5068e ml_X10_137 im_J0_charAt_5068e se_J0_charAt_5068e F.sw.2.2.2.2.2.2.1 rfl (rest := []) rfl (Nat.le_of_ble_eq_true rfl) ⟨Nat.le_of_ble_eq_true rfl, Nat.le_of_ble_eq_true rfl⟩ ⟨Nat.le_of_ble_eq_true rfl, Nat.le_of_ble_eq_true rfl⟩ (k' := 0) (z' := 0) (N' := N) rfl rfl rfl (fun r σ11083 hp => ?_)
    obtain ⟨rfl, rfl⟩ := hp
    refine Wm.topE (w := 102) (by decide) ?_
    refine m_bipush F (v := 32) (by decide) e_X10_wordHere_77 ?_
    refine m_icmp_ne F e_X10_wordHere_79 (fun _ => ?_) (fun q => absurd q (by decide))
    refine Wm.lvsub (lv' := [(1, .int 3), (2, .int 16), (0, .ref c)]) ?_ [1, 2, 3] rfl
    exact wk_3 F hQ h1 f20 hB hn7 hsa hpn hl hm (fun hz => by have z1 : P.a = st + 4 := hz.1; have z2 : t (st) = 102 := hz.2 0 (by decide); omega)
  · have c38 : st < P.a := by have hh := mt (nI_leI (a := P.a) (b := st) (by omega) (by omega)).mpr q38; omega
    refine m_aload_n F rfl e_X10_wordHere_41 ?_
    refine r_get F e_X10_wordHere_42 fl_X10_7 h1 rfl (fun v hv f11084 => ?_)
    obtain rfl : v = .ref (c + 1) := hv
    refine m_aload_n F rfl e_X10_wordHere_45 ?_
    refine r_getC F e_X10_wordHere_46 fl_X10_107 h1 (f20) ?_
    refine m_iload_n F rfl e_X10_wordHere_49 ?_
    refine m_iadd F e_X10_wordHere_50 ?_
    refine Wm.topE (w := nI st) (nI_add st 0) ?_
    have hb11085 := (hB st (by omega)).1
    refine r_iald F (len := 700) (j := st) e_X10_wordHere_51 h1 (fun _ h => h) (by decide) (nI_clamp (by omega)) (vp_in_nI (by omega) (by decide)) (fun x11086 h11087 f11088 => ?_)
    obtain rfl := Option.some.inj ((f11088).symm.trans ((hB st (by omega)).2))
    refine m_ldcS F e_X10_wordHere_52 F.sw.1.2.2 ?_
    refine m_iload_n F rfl e_X10_wordHere_54 ?_
    refine m_iload_n F rfl e_X10_wordHere_55 ?_
    refine m_iadd F e_X10_wordHere_56 ?_
    refine Wm.topE (w := 16) (by decide) ?_
    refine m_callO F e_X10_wordHere_57 (q_charAt (x_l X) V _ _ 16 (by omega)) cb_J0_charAt_5068e ml_X10_137 im_J0_charAt_5068e se_J0_charAt_5068e F.sw.2.2.2.2.2.2.1 rfl (rest := [.int (nI (t st))]) rfl (Nat.le_of_ble_eq_true rfl) ⟨Nat.le_of_ble_eq_true rfl, Nat.le_of_ble_eq_true rfl⟩ ⟨Nat.le_of_ble_eq_true rfl, Nat.le_of_ble_eq_true rfl⟩ (k' := 0) (z' := 0) (N' := N) rfl rfl rfl (fun r σ11089 hp => ?_)
    obtain ⟨rfl, rfl⟩ := hp
    refine Wm.topE (w := 102) (by decide) ?_
    refine m_icmp_ne F e_X10_wordHere_60 (fun q60 => ?_) (fun q60 => ?_)
    · have c60 : (t st) ≠ 102 := by have hh := mt (nI_eq (a := (t st)) (b := 102) (by omega) (by omega)).mpr q60; omega
      refine m_ldcS F e_X10_wordHere_69 F.sw.1.2.2 ?_
      refine m_iload_n F rfl e_X10_wordHere_71 ?_
      refine m_iload_n F rfl e_X10_wordHere_72 ?_
      refine m_iadd F e_X10_wordHere_73 ?_
      refine Wm.topE (w := 16) (by decide) ?_
      refine m_callO F e_X10_wordHere_74 (q_charAt (x_l X) V _ _ 16 (by omega)) cb_J0_charAt_5068e ml_X10_137 im_J0_charAt_5068e se_J0_charAt_5068e F.sw.2.2.2.2.2.2.1 rfl (rest := []) rfl (Nat.le_of_ble_eq_true rfl) ⟨Nat.le_of_ble_eq_true rfl, Nat.le_of_ble_eq_true rfl⟩ ⟨Nat.le_of_ble_eq_true rfl, Nat.le_of_ble_eq_true rfl⟩ (k' := 0) (z' := 0) (N' := N) rfl rfl rfl (fun r σ11090 hp => ?_)
      obtain ⟨rfl, rfl⟩ := hp
      refine Wm.topE (w := 102) (by decide) ?_
      refine m_bipush F (v := 32) (by decide) e_X10_wordHere_77 ?_
      refine m_icmp_ne F e_X10_wordHere_79 (fun _ => ?_) (fun q => absurd q (by decide))
      refine Wm.lvsub (lv' := [(1, .int 3), (2, .int 16), (0, .ref c)]) ?_ [1, 2, 3] rfl
      exact wk_3 F hQ h1 f20 hB hn7 hsa hpn hl hm (fun hz => by have z1 : P.a = st + 4 := hz.1; have z2 : t (st) = 102 := hz.2 0 (by decide); omega)
    · have c60 : (t st) = 102 := (nI_eq (a := (t st)) (b := 102) (by omega) (by omega)).mp q60
      refine m_iinc F (v := 1) (lv' := [(3, .int 1), (1, .int 3), (2, .int 16), (0, .ref c)]) e_X10_wordHere_63 rfl (by decide) (by decide) rfl ?_
      refine m_goto F e_X10_wordHere_66 ?_
      refine m_ldcS F e_X10_wordHere_15 F.sw.1.2.2 ?_
      refine m_iload_n F rfl e_X10_wordHere_17 ?_
      refine m_iload_n F rfl e_X10_wordHere_18 ?_
      refine m_iadd F e_X10_wordHere_19 ?_
      refine Wm.topE (w := 17) (by decide) ?_
      refine m_callO F e_X10_wordHere_20 (q_charAt (x_l X) V _ _ 17 (by omega)) cb_J0_charAt_5068e ml_X10_137 im_J0_charAt_5068e se_J0_charAt_5068e F.sw.2.2.2.2.2.2.1 rfl (rest := []) rfl (Nat.le_of_ble_eq_true rfl) ⟨Nat.le_of_ble_eq_true rfl, Nat.le_of_ble_eq_true rfl⟩ ⟨Nat.le_of_ble_eq_true rfl, Nat.le_of_ble_eq_true rfl⟩ (k' := 0) (z' := 0) (N' := N) rfl rfl rfl (fun r σ11091 hp => ?_)
      obtain ⟨rfl, rfl⟩ := hp
      refine Wm.topE (w := 97) (by decide) ?_
      refine m_bipush F (v := 32) (by decide) e_X10_wordHere_23 ?_
      refine m_icmp_eq F e_X10_wordHere_25 (fun q => absurd q (by decide)) (fun _ => ?_)
      refine m_aload_n F rfl e_X10_wordHere_28 ?_
      refine r_getC F e_X10_wordHere_29 fl_X10_107 h1 (f20) ?_
      refine m_iload_n F rfl e_X10_wordHere_32 ?_
      refine m_iadd F e_X10_wordHere_33 ?_
      refine Wm.topE (w := nI (st + 1)) (nI_add st 1) ?_
      refine m_aload_n F rfl e_X10_wordHere_34 ?_
      refine r_getC F e_X10_wordHere_35 fl_X10_97 h1 (f11082) ?_
      refine m_icmp_ge F e_X10_wordHere_38 (fun q38 => ?_) (fun q38 => ?_)
      · have c38 : (st + 1) ≥ P.a := (nI_leI (a := P.a) (b := (st + 1)) (by omega) (by omega)).mp q38
        refine m_ldcS F e_X10_wordHere_69 F.sw.1.2.2 ?_
        refine m_iload_n F rfl e_X10_wordHere_71 ?_
        refine m_iload_n F rfl e_X10_wordHere_72 ?_
        refine m_iadd F e_X10_wordHere_73 ?_
        refine Wm.topE (w := 17) (by decide) ?_
        refine m_callO F e_X10_wordHere_74 (q_charAt (x_l X) V _ _ 17 (by omega)) cb_J0_charAt_5068e ml_X10_137 im_J0_charAt_5068e se_J0_charAt_5068e F.sw.2.2.2.2.2.2.1 rfl (rest := []) rfl (Nat.le_of_ble_eq_true rfl) ⟨Nat.le_of_ble_eq_true rfl, Nat.le_of_ble_eq_true rfl⟩ ⟨Nat.le_of_ble_eq_true rfl, Nat.le_of_ble_eq_true rfl⟩ (k' := 0) (z' := 0) (N' := N) rfl rfl rfl (fun r σ11092 hp => ?_)
        obtain ⟨rfl, rfl⟩ := hp
        refine Wm.topE (w := 97) (by decide) ?_
        refine m_bipush F (v := 32) (by decide) e_X10_wordHere_77 ?_
        refine m_icmp_ne F e_X10_wordHere_79 (fun _ => ?_) (fun q => absurd q (by decide))
        refine Wm.lvsub (lv' := [(1, .int 3), (2, .int 16), (0, .ref c)]) ?_ [1, 2, 3] rfl
        exact wk_3 F hQ h1 f20 hB hn7 hsa hpn hl hm (fun hz => by have z1 : P.a = st + 4 := hz.1; have z2 : t (st + 1) = 97 := hz.2 1 (by decide); omega)
      · have c38 : (st + 1) < P.a := by have hh := mt (nI_leI (a := P.a) (b := (st + 1)) (by omega) (by omega)).mpr q38; omega
        refine m_aload_n F rfl e_X10_wordHere_41 ?_
        refine r_getC F e_X10_wordHere_42 fl_X10_7 h1 (f11084) ?_
        refine m_aload_n F rfl e_X10_wordHere_45 ?_
        refine r_getC F e_X10_wordHere_46 fl_X10_107 h1 (f20) ?_
        refine m_iload_n F rfl e_X10_wordHere_49 ?_
        refine m_iadd F e_X10_wordHere_50 ?_
        refine Wm.topE (w := nI (st + 1)) (nI_add st 1) ?_
        have hb11093 := (hB (st + 1) (by omega)).1
        refine r_iald F (len := 700) (j := st + 1) e_X10_wordHere_51 h1 (fun _ h => h) (by decide) (nI_clamp (by omega)) (vp_in_nI (by omega) (by decide)) (fun x11094 h11095 f11096 => ?_)
        obtain rfl := Option.some.inj ((f11096).symm.trans ((hB (st + 1) (by omega)).2))
        refine m_ldcS F e_X10_wordHere_52 F.sw.1.2.2 ?_
        refine m_iload_n F rfl e_X10_wordHere_54 ?_
        refine m_iload_n F rfl e_X10_wordHere_55 ?_
        refine m_iadd F e_X10_wordHere_56 ?_
        refine Wm.topE (w := 17) (by decide) ?_
        refine m_callO F e_X10_wordHere_57 (q_charAt (x_l X) V _ _ 17 (by omega)) cb_J0_charAt_5068e ml_X10_137 im_J0_charAt_5068e se_J0_charAt_5068e F.sw.2.2.2.2.2.2.1 rfl (rest := [.int (nI (t (st + 1)))]) rfl (Nat.le_of_ble_eq_true rfl) ⟨Nat.le_of_ble_eq_true rfl, Nat.le_of_ble_eq_true rfl⟩ ⟨Nat.le_of_ble_eq_true rfl, Nat.le_of_ble_eq_true rfl⟩ (k' := 0) (z' := 0) (N' := N) rfl rfl rfl (fun r σ11097 hp => ?_)
        obtain ⟨rfl, rfl⟩ := hp
        refine Wm.topE (w := 97) (by decide) ?_
        refine m_icmp_ne F e_X10_wordHere_60 (fun q60 => ?_) (fun q60 => ?_)
        · have c60 : (t (st + 1)) ≠ 97 := by have hh := mt (nI_eq (a := (t (st + 1))) (b := 97) (by omega) (by omega)).mpr q60; omega
          refine m_ldcS F e_X10_wordHere_69 F.sw.1.2.2 ?_
          refine m_iload_n F rfl e_X10_wordHere_71 ?_
          refine m_iload_n F rfl e_X10_wordHere_72 ?_
          refine m_iadd F e_X10_wordHere_73 ?_
          refine Wm.topE (w := 17) (by decide) ?_
          refine m_callO F e_X10_wordHere_74 (q_charAt (x_l X) V _ _ 17 (by omega)) cb_J0_charAt_5068e ml_X10_137 im_J0_charAt_5068e se_J0_charAt_5068e F.sw.2.2.2.2.2.2.1 rfl (rest := []) rfl (Nat.le_of_ble_eq_true rfl) ⟨Nat.le_of_ble_eq_true rfl, Nat.le_of_ble_eq_true rfl⟩ ⟨Nat.le_of_ble_eq_true rfl, Nat.le_of_ble_eq_true rfl⟩ (k' := 0) (z' := 0) (N' := N) rfl rfl rfl (fun r σ11098 hp => ?_)
          obtain ⟨rfl, rfl⟩ := hp
          refine Wm.topE (w := 97) (by decide) ?_
          refine m_bipush F (v := 32) (by decide) e_X10_wordHere_77 ?_
          refine m_icmp_ne F e_X10_wordHere_79 (fun _ => ?_) (fun q => absurd q (by decide))
          refine Wm.lvsub (lv' := [(1, .int 3), (2, .int 16), (0, .ref c)]) ?_ [1, 2, 3] rfl
          exact wk_3 F hQ h1 f20 hB hn7 hsa hpn hl hm (fun hz => by have z1 : P.a = st + 4 := hz.1; have z2 : t (st + 1) = 97 := hz.2 1 (by decide); omega)
        · have c60 : (t (st + 1)) = 97 := (nI_eq (a := (t (st + 1))) (b := 97) (by omega) (by omega)).mp q60
          refine m_iinc F (v := 2) (lv' := [(3, .int 2), (1, .int 3), (2, .int 16), (0, .ref c)]) e_X10_wordHere_63 rfl (by decide) (by decide) rfl ?_
          refine m_goto F e_X10_wordHere_66 ?_
          refine m_ldcS F e_X10_wordHere_15 F.sw.1.2.2 ?_
          refine m_iload_n F rfl e_X10_wordHere_17 ?_
          refine m_iload_n F rfl e_X10_wordHere_18 ?_
          refine m_iadd F e_X10_wordHere_19 ?_
          refine Wm.topE (w := 18) (by decide) ?_
          refine m_callO F e_X10_wordHere_20 (q_charAt (x_l X) V _ _ 18 (by omega)) cb_J0_charAt_5068e ml_X10_137 im_J0_charAt_5068e se_J0_charAt_5068e F.sw.2.2.2.2.2.2.1 rfl (rest := []) rfl (Nat.le_of_ble_eq_true rfl) ⟨Nat.le_of_ble_eq_true rfl, Nat.le_of_ble_eq_true rfl⟩ ⟨Nat.le_of_ble_eq_true rfl, Nat.le_of_ble_eq_true rfl⟩ (k' := 0) (z' := 0) (N' := N) rfl rfl rfl (fun r σ11099 hp => ?_)
          obtain ⟨rfl, rfl⟩ := hp
          refine Wm.topE (w := 105) (by decide) ?_
          refine m_bipush F (v := 32) (by decide) e_X10_wordHere_23 ?_
          refine m_icmp_eq F e_X10_wordHere_25 (fun q => absurd q (by decide)) (fun _ => ?_)
          refine m_aload_n F rfl e_X10_wordHere_28 ?_
          refine r_getC F e_X10_wordHere_29 fl_X10_107 h1 (f20) ?_
          refine m_iload_n F rfl e_X10_wordHere_32 ?_
          refine m_iadd F e_X10_wordHere_33 ?_
          refine Wm.topE (w := nI (st + 2)) (nI_add st 2) ?_
          refine m_aload_n F rfl e_X10_wordHere_34 ?_
          refine r_getC F e_X10_wordHere_35 fl_X10_97 h1 (f11082) ?_
          refine m_icmp_ge F e_X10_wordHere_38 (fun q38 => ?_) (fun q38 => ?_)
          · have c38 : (st + 2) ≥ P.a := (nI_leI (a := P.a) (b := (st + 2)) (by omega) (by omega)).mp q38
            refine m_ldcS F e_X10_wordHere_69 F.sw.1.2.2 ?_
            refine m_iload_n F rfl e_X10_wordHere_71 ?_
            refine m_iload_n F rfl e_X10_wordHere_72 ?_
            refine m_iadd F e_X10_wordHere_73 ?_
            refine Wm.topE (w := 18) (by decide) ?_
            refine m_callO F e_X10_wordHere_74 (q_charAt (x_l X) V _ _ 18 (by omega)) cb_J0_charAt_5068e ml_X10_137 im_J0_charAt_5068e se_J0_charAt_5068e F.sw.2.2.2.2.2.2.1 rfl (rest := []) rfl (Nat.le_of_ble_eq_true rfl) ⟨Nat.le_of_ble_eq_true rfl, Nat.le_of_ble_eq_true rfl⟩ ⟨Nat.le_of_ble_eq_true rfl, Nat.le_of_ble_eq_true rfl⟩ (k' := 0) (z' := 0) (N' := N) rfl rfl rfl (fun r σ11100 hp => ?_)
            obtain ⟨rfl, rfl⟩ := hp
            refine Wm.topE (w := 105) (by decide) ?_
            refine m_bipush F (v := 32) (by decide) e_X10_wordHere_77 ?_
            refine m_icmp_ne F e_X10_wordHere_79 (fun _ => ?_) (fun q => absurd q (by decide))
            refine Wm.lvsub (lv' := [(1, .int 3), (2, .int 16), (0, .ref c)]) ?_ [1, 2, 3] rfl
            exact wk_3 F hQ h1 f20 hB hn7 hsa hpn hl hm (fun hz => by have z1 : P.a = st + 4 := hz.1; have z2 : t (st + 2) = 105 := hz.2 2 (by decide); omega)
          · have c38 : (st + 2) < P.a := by have hh := mt (nI_leI (a := P.a) (b := (st + 2)) (by omega) (by omega)).mpr q38; omega
            refine m_aload_n F rfl e_X10_wordHere_41 ?_
            refine r_getC F e_X10_wordHere_42 fl_X10_7 h1 (f11084) ?_
            refine m_aload_n F rfl e_X10_wordHere_45 ?_
            refine r_getC F e_X10_wordHere_46 fl_X10_107 h1 (f20) ?_
            refine m_iload_n F rfl e_X10_wordHere_49 ?_
            refine m_iadd F e_X10_wordHere_50 ?_
            refine Wm.topE (w := nI (st + 2)) (nI_add st 2) ?_
            have hb11101 := (hB (st + 2) (by omega)).1
            refine r_iald F (len := 700) (j := st + 2) e_X10_wordHere_51 h1 (fun _ h => h) (by decide) (nI_clamp (by omega)) (vp_in_nI (by omega) (by decide)) (fun x11102 h11103 f11104 => ?_)
            obtain rfl := Option.some.inj ((f11104).symm.trans ((hB (st + 2) (by omega)).2))
            refine m_ldcS F e_X10_wordHere_52 F.sw.1.2.2 ?_
            refine m_iload_n F rfl e_X10_wordHere_54 ?_
            refine m_iload_n F rfl e_X10_wordHere_55 ?_
            refine m_iadd F e_X10_wordHere_56 ?_
            refine Wm.topE (w := 18) (by decide) ?_
            refine m_callO F e_X10_wordHere_57 (q_charAt (x_l X) V _ _ 18 (by omega)) cb_J0_charAt_5068e ml_X10_137 im_J0_charAt_5068e se_J0_charAt_5068e F.sw.2.2.2.2.2.2.1 rfl (rest := [.int (nI (t (st + 2)))]) rfl (Nat.le_of_ble_eq_true rfl) ⟨Nat.le_of_ble_eq_true rfl, Nat.le_of_ble_eq_true rfl⟩ ⟨Nat.le_of_ble_eq_true rfl, Nat.le_of_ble_eq_true rfl⟩ (k' := 0) (z' := 0) (N' := N) rfl rfl rfl (fun r σ11105 hp => ?_)
            obtain ⟨rfl, rfl⟩ := hp
            refine Wm.topE (w := 105) (by decide) ?_
            refine m_icmp_ne F e_X10_wordHere_60 (fun q60 => ?_) (fun q60 => ?_)
            · have c60 : (t (st + 2)) ≠ 105 := by have hh := mt (nI_eq (a := (t (st + 2))) (b := 105) (by omega) (by omega)).mpr q60; omega
              refine m_ldcS F e_X10_wordHere_69 F.sw.1.2.2 ?_
              refine m_iload_n F rfl e_X10_wordHere_71 ?_
              refine m_iload_n F rfl e_X10_wordHere_72 ?_
              refine m_iadd F e_X10_wordHere_73 ?_
              refine Wm.topE (w := 18) (by decide) ?_
              refine m_callO F e_X10_wordHere_74 (q_charAt (x_l X) V _ _ 18 (by omega)) cb_J0_charAt_5068e ml_X10_137 im_J0_charAt_5068e se_J0_charAt_5068e F.sw.2.2.2.2.2.2.1 rfl (rest := []) rfl (Nat.le_of_ble_eq_true rfl) ⟨Nat.le_of_ble_eq_true rfl, Nat.le_of_ble_eq_true rfl⟩ ⟨Nat.le_of_ble_eq_true rfl, Nat.le_of_ble_eq_true rfl⟩ (k' := 0) (z' := 0) (N' := N) rfl rfl rfl (fun r σ11106 hp => ?_)
              obtain ⟨rfl, rfl⟩ := hp
              refine Wm.topE (w := 105) (by decide) ?_
              refine m_bipush F (v := 32) (by decide) e_X10_wordHere_77 ?_
              refine m_icmp_ne F e_X10_wordHere_79 (fun _ => ?_) (fun q => absurd q (by decide))
              refine Wm.lvsub (lv' := [(1, .int 3), (2, .int 16), (0, .ref c)]) ?_ [1, 2, 3] rfl
              exact wk_3 F hQ h1 f20 hB hn7 hsa hpn hl hm (fun hz => by have z1 : P.a = st + 4 := hz.1; have z2 : t (st + 2) = 105 := hz.2 2 (by decide); omega)
            · have c60 : (t (st + 2)) = 105 := (nI_eq (a := (t (st + 2))) (b := 105) (by omega) (by omega)).mp q60
              refine m_iinc F (v := 3) (lv' := [(3, .int 3), (1, .int 3), (2, .int 16), (0, .ref c)]) e_X10_wordHere_63 rfl (by decide) (by decide) rfl ?_
              refine m_goto F e_X10_wordHere_66 ?_
              refine m_ldcS F e_X10_wordHere_15 F.sw.1.2.2 ?_
              refine m_iload_n F rfl e_X10_wordHere_17 ?_
              refine m_iload_n F rfl e_X10_wordHere_18 ?_
              refine m_iadd F e_X10_wordHere_19 ?_
              refine Wm.topE (w := 19) (by decide) ?_
              refine m_callO F e_X10_wordHere_20 (q_charAt (x_l X) V _ _ 19 (by omega)) cb_J0_charAt_5068e ml_X10_137 im_J0_charAt_5068e se_J0_charAt_5068e F.sw.2.2.2.2.2.2.1 rfl (rest := []) rfl (Nat.le_of_ble_eq_true rfl) ⟨Nat.le_of_ble_eq_true rfl, Nat.le_of_ble_eq_true rfl⟩ ⟨Nat.le_of_ble_eq_true rfl, Nat.le_of_ble_eq_true rfl⟩ (k' := 0) (z' := 0) (N' := N) rfl rfl rfl (fun r σ11107 hp => ?_)
              obtain ⟨rfl, rfl⟩ := hp
              refine Wm.topE (w := 114) (by decide) ?_
              refine m_bipush F (v := 32) (by decide) e_X10_wordHere_23 ?_
              refine m_icmp_eq F e_X10_wordHere_25 (fun q => absurd q (by decide)) (fun _ => ?_)
              refine m_aload_n F rfl e_X10_wordHere_28 ?_
              refine r_getC F e_X10_wordHere_29 fl_X10_107 h1 (f20) ?_
              refine m_iload_n F rfl e_X10_wordHere_32 ?_
              refine m_iadd F e_X10_wordHere_33 ?_
              refine Wm.topE (w := nI (st + 3)) (nI_add st 3) ?_
              refine m_aload_n F rfl e_X10_wordHere_34 ?_
              refine r_getC F e_X10_wordHere_35 fl_X10_97 h1 (f11082) ?_
              refine m_icmp_ge F e_X10_wordHere_38 (fun q38 => ?_) (fun q38 => ?_)
              · have c38 : (st + 3) ≥ P.a := (nI_leI (a := P.a) (b := (st + 3)) (by omega) (by omega)).mp q38
                refine m_ldcS F e_X10_wordHere_69 F.sw.1.2.2 ?_
                refine m_iload_n F rfl e_X10_wordHere_71 ?_
                refine m_iload_n F rfl e_X10_wordHere_72 ?_
                refine m_iadd F e_X10_wordHere_73 ?_
                refine Wm.topE (w := 19) (by decide) ?_
                refine m_callO F e_X10_wordHere_74 (q_charAt (x_l X) V _ _ 19 (by omega)) cb_J0_charAt_5068e ml_X10_137 im_J0_charAt_5068e se_J0_charAt_5068e F.sw.2.2.2.2.2.2.1 rfl (rest := []) rfl (Nat.le_of_ble_eq_true rfl) ⟨Nat.le_of_ble_eq_true rfl, Nat.le_of_ble_eq_true rfl⟩ ⟨Nat.le_of_ble_eq_true rfl, Nat.le_of_ble_eq_true rfl⟩ (k' := 0) (z' := 0) (N' := N) rfl rfl rfl (fun r σ11108 hp => ?_)
                obtain ⟨rfl, rfl⟩ := hp
                refine Wm.topE (w := 114) (by decide) ?_
                refine m_bipush F (v := 32) (by decide) e_X10_wordHere_77 ?_
                refine m_icmp_ne F e_X10_wordHere_79 (fun _ => ?_) (fun q => absurd q (by decide))
                refine Wm.lvsub (lv' := [(1, .int 3), (2, .int 16), (0, .ref c)]) ?_ [1, 2, 3] rfl
                exact wk_3 F hQ h1 f20 hB hn7 hsa hpn hl hm (fun hz => by have z1 : P.a = st + 4 := hz.1; have z2 : t (st + 3) = 114 := hz.2 3 (by decide); omega)
              · have c38 : (st + 3) < P.a := by have hh := mt (nI_leI (a := P.a) (b := (st + 3)) (by omega) (by omega)).mpr q38; omega
                refine m_aload_n F rfl e_X10_wordHere_41 ?_
                refine r_getC F e_X10_wordHere_42 fl_X10_7 h1 (f11084) ?_
                refine m_aload_n F rfl e_X10_wordHere_45 ?_
                refine r_getC F e_X10_wordHere_46 fl_X10_107 h1 (f20) ?_
                refine m_iload_n F rfl e_X10_wordHere_49 ?_
                refine m_iadd F e_X10_wordHere_50 ?_
                refine Wm.topE (w := nI (st + 3)) (nI_add st 3) ?_
                have hb11109 := (hB (st + 3) (by omega)).1
                refine r_iald F (len := 700) (j := st + 3) e_X10_wordHere_51 h1 (fun _ h => h) (by decide) (nI_clamp (by omega)) (vp_in_nI (by omega) (by decide)) (fun x11110 h11111 f11112 => ?_)
                obtain rfl := Option.some.inj ((f11112).symm.trans ((hB (st + 3) (by omega)).2))
                refine m_ldcS F e_X10_wordHere_52 F.sw.1.2.2 ?_
                refine m_iload_n F rfl e_X10_wordHere_54 ?_
                refine m_iload_n F rfl e_X10_wordHere_55 ?_
                refine m_iadd F e_X10_wordHere_56 ?_
                refine Wm.topE (w := 19) (by decide) ?_
                refine m_callO F e_X10_wordHere_57 (q_charAt (x_l X) V _ _ 19 (by omega)) cb_J0_charAt_5068e ml_X10_137 im_J0_charAt_5068e se_J0_charAt_5068e F.sw.2.2.2.2.2.2.1 rfl (rest := [.int (nI (t (st + 3)))]) rfl (Nat.le_of_ble_eq_true rfl) ⟨Nat.le_of_ble_eq_true rfl, Nat.le_of_ble_eq_true rfl⟩ ⟨Nat.le_of_ble_eq_true rfl, Nat.le_of_ble_eq_true rfl⟩ (k' := 0) (z' := 0) (N' := N) rfl rfl rfl (fun r σ11113 hp => ?_)
                obtain ⟨rfl, rfl⟩ := hp
                refine Wm.topE (w := 114) (by decide) ?_
                refine m_icmp_ne F e_X10_wordHere_60 (fun q60 => ?_) (fun q60 => ?_)
                · have c60 : (t (st + 3)) ≠ 114 := by have hh := mt (nI_eq (a := (t (st + 3))) (b := 114) (by omega) (by omega)).mpr q60; omega
                  refine m_ldcS F e_X10_wordHere_69 F.sw.1.2.2 ?_
                  refine m_iload_n F rfl e_X10_wordHere_71 ?_
                  refine m_iload_n F rfl e_X10_wordHere_72 ?_
                  refine m_iadd F e_X10_wordHere_73 ?_
                  refine Wm.topE (w := 19) (by decide) ?_
                  refine m_callO F e_X10_wordHere_74 (q_charAt (x_l X) V _ _ 19 (by omega)) cb_J0_charAt_5068e ml_X10_137 im_J0_charAt_5068e se_J0_charAt_5068e F.sw.2.2.2.2.2.2.1 rfl (rest := []) rfl (Nat.le_of_ble_eq_true rfl) ⟨Nat.le_of_ble_eq_true rfl, Nat.le_of_ble_eq_true rfl⟩ ⟨Nat.le_of_ble_eq_true rfl, Nat.le_of_ble_eq_true rfl⟩ (k' := 0) (z' := 0) (N' := N) rfl rfl rfl (fun r σ11114 hp => ?_)
                  obtain ⟨rfl, rfl⟩ := hp
                  refine Wm.topE (w := 114) (by decide) ?_
                  refine m_bipush F (v := 32) (by decide) e_X10_wordHere_77 ?_
                  refine m_icmp_ne F e_X10_wordHere_79 (fun _ => ?_) (fun q => absurd q (by decide))
                  refine Wm.lvsub (lv' := [(1, .int 3), (2, .int 16), (0, .ref c)]) ?_ [1, 2, 3] rfl
                  exact wk_3 F hQ h1 f20 hB hn7 hsa hpn hl hm (fun hz => by have z1 : P.a = st + 4 := hz.1; have z2 : t (st + 3) = 114 := hz.2 3 (by decide); omega)
                · have c60 : (t (st + 3)) = 114 := (nI_eq (a := (t (st + 3))) (b := 114) (by omega) (by omega)).mp q60
                  refine m_iinc F (v := 4) (lv' := [(3, .int 4), (1, .int 3), (2, .int 16), (0, .ref c)]) e_X10_wordHere_63 rfl (by decide) (by decide) rfl ?_
                  refine m_goto F e_X10_wordHere_66 ?_
                  refine m_ldcS F e_X10_wordHere_15 F.sw.1.2.2 ?_
                  refine m_iload_n F rfl e_X10_wordHere_17 ?_
                  refine m_iload_n F rfl e_X10_wordHere_18 ?_
                  refine m_iadd F e_X10_wordHere_19 ?_
                  refine Wm.topE (w := 20) (by decide) ?_
                  refine m_callO F e_X10_wordHere_20 (q_charAt (x_l X) V _ _ 20 (by omega)) cb_J0_charAt_5068e ml_X10_137 im_J0_charAt_5068e se_J0_charAt_5068e F.sw.2.2.2.2.2.2.1 rfl (rest := []) rfl (Nat.le_of_ble_eq_true rfl) ⟨Nat.le_of_ble_eq_true rfl, Nat.le_of_ble_eq_true rfl⟩ ⟨Nat.le_of_ble_eq_true rfl, Nat.le_of_ble_eq_true rfl⟩ (k' := 0) (z' := 0) (N' := N) rfl rfl rfl (fun r σ11115 hp => ?_)
                  obtain ⟨rfl, rfl⟩ := hp
                  refine Wm.topE (w := 32) (by decide) ?_
                  refine m_bipush F (v := 32) (by decide) e_X10_wordHere_23 ?_
                  refine m_icmp_eq F e_X10_wordHere_25 (fun _ => ?_) (fun q => absurd (by decide) q)
                  refine m_ldcS F e_X10_wordHere_69 F.sw.1.2.2 ?_
                  refine m_iload_n F rfl e_X10_wordHere_71 ?_
                  refine m_iload_n F rfl e_X10_wordHere_72 ?_
                  refine m_iadd F e_X10_wordHere_73 ?_
                  refine Wm.topE (w := 20) (by decide) ?_
                  refine m_callO F e_X10_wordHere_74 (q_charAt (x_l X) V _ _ 20 (by omega)) cb_J0_charAt_5068e ml_X10_137 im_J0_charAt_5068e se_J0_charAt_5068e F.sw.2.2.2.2.2.2.1 rfl (rest := []) rfl (Nat.le_of_ble_eq_true rfl) ⟨Nat.le_of_ble_eq_true rfl, Nat.le_of_ble_eq_true rfl⟩ ⟨Nat.le_of_ble_eq_true rfl, Nat.le_of_ble_eq_true rfl⟩ (k' := 0) (z' := 0) (N' := N) rfl rfl rfl (fun r σ11116 hp => ?_)
                  obtain ⟨rfl, rfl⟩ := hp
                  refine Wm.topE (w := 32) (by decide) ?_
                  refine m_bipush F (v := 32) (by decide) e_X10_wordHere_77 ?_
                  refine m_icmp_ne F e_X10_wordHere_79 (fun q => absurd (by decide) q) (fun _ => ?_)
                  refine m_aload_n F rfl e_X10_wordHere_82 ?_
                  refine r_getC F e_X10_wordHere_83 fl_X10_107 h1 (f20) ?_
                  refine m_iload_n F rfl e_X10_wordHere_86 ?_
                  refine m_iadd F e_X10_wordHere_87 ?_
                  refine Wm.topE (w := nI (st + 4)) (nI_add st 4) ?_
                  refine m_aload_n F rfl e_X10_wordHere_88 ?_
                  refine r_getC F e_X10_wordHere_89 fl_X10_97 h1 (f11082) ?_
                  refine m_icmp_ne F e_X10_wordHere_92 (fun q92 => ?_) (fun q92 => ?_)
                  · have c92 : (st + 4) ≠ P.a := by have hh := mt (nI_eq (a := (st + 4)) (b := P.a) (by omega) (by omega)).mpr q92; omega
                    refine Wm.lvsub (lv' := [(1, .int 3), (2, .int 16), (0, .ref c)]) ?_ [1, 2, 3] rfl
                    exact wk_3 F hQ h1 f20 hB hn7 hsa hpn hl hm (fun hz => by have z1 : P.a = st + 4 := hz.1; omega)
                  · have c92 : (st + 4) = P.a := (nI_eq (a := (st + 4)) (b := P.a) (by omega) (by omega)).mp q92
                    refine m_iload_n F rfl e_X10_wordHere_95 ?_
                    have hz : mw t st P.a 3 := by
                      refine ⟨(show P.a = st + 4 by omega), fun i hi => ?_⟩
                      have hi2 : i = 0 ∨ i = 1 ∨ i = 2 ∨ i = 3 := by have hi3 : i < 4 := hi; omega
                      rcases hi2 with rfl | rfl | rfl | rfl
                      · show t (st + 0) = 102; first | assumption | omega
                      · show t (st + 1) = 97; first | assumption | omega
                      · show t (st + 2) = 105; first | assumption | omega
                      · show t (st + 3) = 114; first | assumption | omega
                    have hy := kix_mw hsa hl (by decide) hz
                    exact m_iret F hQ e_X10_wordHere_96 ⟨h1, Or.inl ⟨hy.1, by rw [hy.2]; decide, by rw [hy.2]; rfl⟩⟩
set_option maxRecDepth 20000 in
theorem wk_2 {V : VX} {X : MX} {N : Nat} {σ : Mem} {c T Z u h : Nat} {P : NP} {L : Nat → LQ} {n st : Nat} {t : Nat → Nat} (F : Fx V X yX10_wordHere cX10_wordHere 4 (some .int) (rmd 4 0 0)) (hQ : Rt V X 0 0 N (fun r τ => HS V c (⟨T, Z, u, h, P, L⟩ : RG) [0, 1, 2, 3, 4, 5, 6, 7, 8, 9, 10, 11, 12, 13, 14, 15, 16, 17, 18, 19, 20, 21, 22, 23] σ τ ∧ ((P.a - st ≤ 6 ∧ kix (nmc t st P.a 6) < 9 ∧ r = some (.int (nI (kix (nmc t st P.a 6))))) ∨ (¬ (P.a - st ≤ 6 ∧ kix (nmc t st P.a 6) < 9) ∧ r = some (.int (-1)))))) (h1 : HS V c ⟨T, Z, u, h, P, L⟩ [0, 1, 2, 3, 4, 5, 6, 7, 8, 9, 10, 11, 12, 13, 14, 15, 16, 17, 18, 19, 20, 21, 22, 23] σ σ) (f20 : fld σ c 20 = some (.int (nI st))) (hB : BR σ c n t) (hn7 : n ≤ 700) (hsa : st < P.a) (hpn : P.a ≤ n) (hl : ∀ i, st ≤ i → i < P.a → isL (t i) = true) (hm : ∀ m, m < 2 → ¬ mw t st P.a m) (hz : ¬ mw t st P.a 2) : Wm V X 4 N σ 0 0 97 [(1, .int 2), (2, .int 10), (0, .ref c)] [] := by
  refine m_ldcS F e_X10_wordHere_97 F.sw.1.2.2 ?_
  refine m_iload_n F rfl e_X10_wordHere_99 ?_
  refine m_callO F e_X10_wordHere_100 (q_charAt (x_l X) V _ _ 10 (by omega)) cb_J0_charAt_5068e ml_X10_137 im_J0_charAt_5068e se_J0_charAt_5068e F.sw.2.2.2.2.2.2.1 rfl (rest := []) rfl (Nat.le_of_ble_eq_true rfl) ⟨Nat.le_of_ble_eq_true rfl, Nat.le_of_ble_eq_true rfl⟩ ⟨Nat.le_of_ble_eq_true rfl, Nat.le_of_ble_eq_true rfl⟩ (k' := 0) (z' := 0) (N' := N) rfl rfl rfl (fun r σ11117 hp => ?_)
  obtain ⟨rfl, rfl⟩ := hp
  refine Wm.topE (w := 101) (by decide) ?_
  refine m_bipush F (v := 32) (by decide) e_X10_wordHere_103 ?_
  refine m_icmp_eq F e_X10_wordHere_105 (fun q => absurd q (by decide)) (fun _ => ?_)
  refine m_iinc F (v := 11) (lv' := [(2, .int 11), (1, .int 2), (0, .ref c)]) e_X10_wordHere_108 rfl (by decide) (by decide) rfl ?_
  refine m_goto F e_X10_wordHere_111 ?_
  refine m_ldcS F e_X10_wordHere_97 F.sw.1.2.2 ?_
  refine m_iload_n F rfl e_X10_wordHere_99 ?_
  refine m_callO F e_X10_wordHere_100 (q_charAt (x_l X) V _ _ 11 (by omega)) cb_J0_charAt_5068e ml_X10_137 im_J0_charAt_5068e se_J0_charAt_5068e F.sw.2.2.2.2.2.2.1 rfl (rest := []) rfl (Nat.le_of_ble_eq_true rfl) ⟨Nat.le_of_ble_eq_true rfl, Nat.le_of_ble_eq_true rfl⟩ ⟨Nat.le_of_ble_eq_true rfl, Nat.le_of_ble_eq_true rfl⟩ (k' := 0) (z' := 0) (N' := N) rfl rfl rfl (fun r σ11118 hp => ?_)
  obtain ⟨rfl, rfl⟩ := hp
  refine Wm.topE (w := 97) (by decide) ?_
  refine m_bipush F (v := 32) (by decide) e_X10_wordHere_103 ?_
  refine m_icmp_eq F e_X10_wordHere_105 (fun q => absurd q (by decide)) (fun _ => ?_)
  refine m_iinc F (v := 12) (lv' := [(2, .int 12), (1, .int 2), (0, .ref c)]) e_X10_wordHere_108 rfl (by decide) (by decide) rfl ?_
  refine m_goto F e_X10_wordHere_111 ?_
  refine m_ldcS F e_X10_wordHere_97 F.sw.1.2.2 ?_
  refine m_iload_n F rfl e_X10_wordHere_99 ?_
  refine m_callO F e_X10_wordHere_100 (q_charAt (x_l X) V _ _ 12 (by omega)) cb_J0_charAt_5068e ml_X10_137 im_J0_charAt_5068e se_J0_charAt_5068e F.sw.2.2.2.2.2.2.1 rfl (rest := []) rfl (Nat.le_of_ble_eq_true rfl) ⟨Nat.le_of_ble_eq_true rfl, Nat.le_of_ble_eq_true rfl⟩ ⟨Nat.le_of_ble_eq_true rfl, Nat.le_of_ble_eq_true rfl⟩ (k' := 0) (z' := 0) (N' := N) rfl rfl rfl (fun r σ11119 hp => ?_)
  obtain ⟨rfl, rfl⟩ := hp
  refine Wm.topE (w := 114) (by decide) ?_
  refine m_bipush F (v := 32) (by decide) e_X10_wordHere_103 ?_
  refine m_icmp_eq F e_X10_wordHere_105 (fun q => absurd q (by decide)) (fun _ => ?_)
  refine m_iinc F (v := 13) (lv' := [(2, .int 13), (1, .int 2), (0, .ref c)]) e_X10_wordHere_108 rfl (by decide) (by decide) rfl ?_
  refine m_goto F e_X10_wordHere_111 ?_
  refine m_ldcS F e_X10_wordHere_97 F.sw.1.2.2 ?_
  refine m_iload_n F rfl e_X10_wordHere_99 ?_
  refine m_callO F e_X10_wordHere_100 (q_charAt (x_l X) V _ _ 13 (by omega)) cb_J0_charAt_5068e ml_X10_137 im_J0_charAt_5068e se_J0_charAt_5068e F.sw.2.2.2.2.2.2.1 rfl (rest := []) rfl (Nat.le_of_ble_eq_true rfl) ⟨Nat.le_of_ble_eq_true rfl, Nat.le_of_ble_eq_true rfl⟩ ⟨Nat.le_of_ble_eq_true rfl, Nat.le_of_ble_eq_true rfl⟩ (k' := 0) (z' := 0) (N' := N) rfl rfl rfl (fun r σ11120 hp => ?_)
  obtain ⟨rfl, rfl⟩ := hp
  refine Wm.topE (w := 108) (by decide) ?_
  refine m_bipush F (v := 32) (by decide) e_X10_wordHere_103 ?_
  refine m_icmp_eq F e_X10_wordHere_105 (fun q => absurd q (by decide)) (fun _ => ?_)
  refine m_iinc F (v := 14) (lv' := [(2, .int 14), (1, .int 2), (0, .ref c)]) e_X10_wordHere_108 rfl (by decide) (by decide) rfl ?_
  refine m_goto F e_X10_wordHere_111 ?_
  refine m_ldcS F e_X10_wordHere_97 F.sw.1.2.2 ?_
  refine m_iload_n F rfl e_X10_wordHere_99 ?_
  refine m_callO F e_X10_wordHere_100 (q_charAt (x_l X) V _ _ 14 (by omega)) cb_J0_charAt_5068e ml_X10_137 im_J0_charAt_5068e se_J0_charAt_5068e F.sw.2.2.2.2.2.2.1 rfl (rest := []) rfl (Nat.le_of_ble_eq_true rfl) ⟨Nat.le_of_ble_eq_true rfl, Nat.le_of_ble_eq_true rfl⟩ ⟨Nat.le_of_ble_eq_true rfl, Nat.le_of_ble_eq_true rfl⟩ (k' := 0) (z' := 0) (N' := N) rfl rfl rfl (fun r σ11121 hp => ?_)
  obtain ⟨rfl, rfl⟩ := hp
  refine Wm.topE (w := 121) (by decide) ?_
  refine m_bipush F (v := 32) (by decide) e_X10_wordHere_103 ?_
  refine m_icmp_eq F e_X10_wordHere_105 (fun q => absurd q (by decide)) (fun _ => ?_)
  refine m_iinc F (v := 15) (lv' := [(2, .int 15), (1, .int 2), (0, .ref c)]) e_X10_wordHere_108 rfl (by decide) (by decide) rfl ?_
  refine m_goto F e_X10_wordHere_111 ?_
  refine m_ldcS F e_X10_wordHere_97 F.sw.1.2.2 ?_
  refine m_iload_n F rfl e_X10_wordHere_99 ?_
  refine m_callO F e_X10_wordHere_100 (q_charAt (x_l X) V _ _ 15 (by omega)) cb_J0_charAt_5068e ml_X10_137 im_J0_charAt_5068e se_J0_charAt_5068e F.sw.2.2.2.2.2.2.1 rfl (rest := []) rfl (Nat.le_of_ble_eq_true rfl) ⟨Nat.le_of_ble_eq_true rfl, Nat.le_of_ble_eq_true rfl⟩ ⟨Nat.le_of_ble_eq_true rfl, Nat.le_of_ble_eq_true rfl⟩ (k' := 0) (z' := 0) (N' := N) rfl rfl rfl (fun r σ11122 hp => ?_)
  obtain ⟨rfl, rfl⟩ := hp
  refine Wm.topE (w := 32) (by decide) ?_
  refine m_bipush F (v := 32) (by decide) e_X10_wordHere_103 ?_
  refine m_icmp_eq F e_X10_wordHere_105 (fun _ => ?_) (fun q => absurd (by decide) q)
  refine m_iinc F (v := 16) (lv' := [(2, .int 16), (1, .int 2), (0, .ref c)]) e_X10_wordHere_114 rfl (by decide) (by decide) rfl ?_
  refine m_iinc F (v := 3) (lv' := [(1, .int 3), (2, .int 16), (0, .ref c)]) e_X10_wordHere_117 rfl (by decide) (by decide) rfl ?_
  refine m_goto F e_X10_wordHere_120 ?_
  exact wh_3 F hQ h1 f20 hB hn7 hsa hpn hl (fun m9 h9 => if e9 : m9 = 2 then e9 ▸ hz else hm m9 (by omega))
set_option maxRecDepth 20000 in
theorem wh_2 {V : VX} {X : MX} {N : Nat} {σ : Mem} {c T Z u h : Nat} {P : NP} {L : Nat → LQ} {n st : Nat} {t : Nat → Nat} (F : Fx V X yX10_wordHere cX10_wordHere 4 (some .int) (rmd 4 0 0)) (hQ : Rt V X 0 0 N (fun r τ => HS V c (⟨T, Z, u, h, P, L⟩ : RG) [0, 1, 2, 3, 4, 5, 6, 7, 8, 9, 10, 11, 12, 13, 14, 15, 16, 17, 18, 19, 20, 21, 22, 23] σ τ ∧ ((P.a - st ≤ 6 ∧ kix (nmc t st P.a 6) < 9 ∧ r = some (.int (nI (kix (nmc t st P.a 6))))) ∨ (¬ (P.a - st ≤ 6 ∧ kix (nmc t st P.a 6) < 9) ∧ r = some (.int (-1)))))) (h1 : HS V c ⟨T, Z, u, h, P, L⟩ [0, 1, 2, 3, 4, 5, 6, 7, 8, 9, 10, 11, 12, 13, 14, 15, 16, 17, 18, 19, 20, 21, 22, 23] σ σ) (f20 : fld σ c 20 = some (.int (nI st))) (hB : BR σ c n t) (hn7 : n ≤ 700) (hsa : st < P.a) (hpn : P.a ≤ n) (hl : ∀ i, st ≤ i → i < P.a → isL (t i) = true) (hm : ∀ m, m < 2 → ¬ mw t st P.a m) : Wm V X 4 N σ 0 0 4 [(1, .int 2), (2, .int 10), (0, .ref c)] [] := by
  refine m_iload_n F rfl e_X10_wordHere_4 ?_
  refine m_ldcS F e_X10_wordHere_5 F.sw.1.2.2 ?_
  refine m_callO F e_X10_wordHere_7 (q_length (x_l X) V _ _) cb_J0_length_8abf5 ml_X10_132 im_J0_length_8abf5 se_J0_length_8abf5 F.sw.2.2.2.2.2.2.1 rfl (rest := [.int 10]) rfl (Nat.le_of_ble_eq_true rfl) ⟨Nat.le_of_ble_eq_true rfl, Nat.le_of_ble_eq_true rfl⟩ ⟨Nat.le_of_ble_eq_true rfl, Nat.le_of_ble_eq_true rfl⟩ (k' := 0) (z' := 0) (N' := N) rfl rfl rfl (fun r σ11123 hp => ?_)
  obtain ⟨rfl, rfl⟩ := hp
  refine m_icmp_ge F e_X10_wordHere_10 (fun q => absurd q (by decide)) (fun _ => ?_)
  refine m_iconst F (v := 0) (by decide) e_X10_wordHere_13 ?_
  refine m_istore_n F (lv' := [(3, .int 0), (1, .int 2), (2, .int 10), (0, .ref c)]) e_X10_wordHere_14 (by decide) rfl ?_
  refine m_ldcS F e_X10_wordHere_15 F.sw.1.2.2 ?_
  refine m_iload_n F rfl e_X10_wordHere_17 ?_
  refine m_iload_n F rfl e_X10_wordHere_18 ?_
  refine m_iadd F e_X10_wordHere_19 ?_
  refine Wm.topE (w := 10) (by decide) ?_
  refine m_callO F e_X10_wordHere_20 (q_charAt (x_l X) V _ _ 10 (by omega)) cb_J0_charAt_5068e ml_X10_137 im_J0_charAt_5068e se_J0_charAt_5068e F.sw.2.2.2.2.2.2.1 rfl (rest := []) rfl (Nat.le_of_ble_eq_true rfl) ⟨Nat.le_of_ble_eq_true rfl, Nat.le_of_ble_eq_true rfl⟩ ⟨Nat.le_of_ble_eq_true rfl, Nat.le_of_ble_eq_true rfl⟩ (k' := 0) (z' := 0) (N' := N) rfl rfl rfl (fun r σ11124 hp => ?_)
  obtain ⟨rfl, rfl⟩ := hp
  refine Wm.topE (w := 101) (by decide) ?_
  refine m_bipush F (v := 32) (by decide) e_X10_wordHere_23 ?_
  refine m_icmp_eq F e_X10_wordHere_25 (fun q => absurd q (by decide)) (fun _ => ?_)
  refine m_aload_n F rfl e_X10_wordHere_28 ?_
  refine r_getC F e_X10_wordHere_29 fl_X10_107 h1 (f20) ?_
  refine m_iload_n F rfl e_X10_wordHere_32 ?_
  refine m_iadd F e_X10_wordHere_33 ?_
  refine Wm.topE (w := nI st) (nI_add st 0) ?_
  refine m_aload_n F rfl e_X10_wordHere_34 ?_
  refine r_get F e_X10_wordHere_35 fl_X10_97 h1 rfl (fun v hv f11125 => ?_)
  obtain rfl : v = .int (nI (P.a)) := hv
  refine m_icmp_ge F e_X10_wordHere_38 (fun q38 => ?_) (fun q38 => ?_)
  · have c38 : st ≥ P.a := (nI_leI (a := P.a) (b := st) (by omega) (by omega)).mp q38
    refine m_ldcS F e_X10_wordHere_69 F.sw.1.2.2 ?_
    refine m_iload_n F rfl e_X10_wordHere_71 ?_
    refine m_iload_n F rfl e_X10_wordHere_72 ?_
    refine m_iadd F e_X10_wordHere_73 ?_
    refine Wm.topE (w := 10) (by decide) ?_
    refine m_callO F e_X10_wordHere_74 (q_charAt (x_l X) V _ _ 10 (by omega)) cb_J0_charAt_5068e ml_X10_137 im_J0_charAt_5068e se_J0_charAt_5068e F.sw.2.2.2.2.2.2.1 rfl (rest := []) rfl (Nat.le_of_ble_eq_true rfl) ⟨Nat.le_of_ble_eq_true rfl, Nat.le_of_ble_eq_true rfl⟩ ⟨Nat.le_of_ble_eq_true rfl, Nat.le_of_ble_eq_true rfl⟩ (k' := 0) (z' := 0) (N' := N) rfl rfl rfl (fun r σ11126 hp => ?_)
    obtain ⟨rfl, rfl⟩ := hp
    refine Wm.topE (w := 101) (by decide) ?_
    refine m_bipush F (v := 32) (by decide) e_X10_wordHere_77 ?_
    refine m_icmp_ne F e_X10_wordHere_79 (fun _ => ?_) (fun q => absurd q (by decide))
    refine Wm.lvsub (lv' := [(1, .int 2), (2, .int 10), (0, .ref c)]) ?_ [1, 2, 3] rfl
    exact wk_2 F hQ h1 f20 hB hn7 hsa hpn hl hm (fun hz => by have z1 : P.a = st + 5 := hz.1; have z2 : t (st) = 101 := hz.2 0 (by decide); omega)
  · have c38 : st < P.a := by have hh := mt (nI_leI (a := P.a) (b := st) (by omega) (by omega)).mpr q38; omega
    refine m_aload_n F rfl e_X10_wordHere_41 ?_
    refine r_get F e_X10_wordHere_42 fl_X10_7 h1 rfl (fun v hv f11127 => ?_)
    obtain rfl : v = .ref (c + 1) := hv
    refine m_aload_n F rfl e_X10_wordHere_45 ?_
    refine r_getC F e_X10_wordHere_46 fl_X10_107 h1 (f20) ?_
    refine m_iload_n F rfl e_X10_wordHere_49 ?_
    refine m_iadd F e_X10_wordHere_50 ?_
    refine Wm.topE (w := nI st) (nI_add st 0) ?_
    have hb11128 := (hB st (by omega)).1
    refine r_iald F (len := 700) (j := st) e_X10_wordHere_51 h1 (fun _ h => h) (by decide) (nI_clamp (by omega)) (vp_in_nI (by omega) (by decide)) (fun x11129 h11130 f11131 => ?_)
    obtain rfl := Option.some.inj ((f11131).symm.trans ((hB st (by omega)).2))
    refine m_ldcS F e_X10_wordHere_52 F.sw.1.2.2 ?_
    refine m_iload_n F rfl e_X10_wordHere_54 ?_
    refine m_iload_n F rfl e_X10_wordHere_55 ?_
    refine m_iadd F e_X10_wordHere_56 ?_
    refine Wm.topE (w := 10) (by decide) ?_
    refine m_callO F e_X10_wordHere_57 (q_charAt (x_l X) V _ _ 10 (by omega)) cb_J0_charAt_5068e ml_X10_137 im_J0_charAt_5068e se_J0_charAt_5068e F.sw.2.2.2.2.2.2.1 rfl (rest := [.int (nI (t st))]) rfl (Nat.le_of_ble_eq_true rfl) ⟨Nat.le_of_ble_eq_true rfl, Nat.le_of_ble_eq_true rfl⟩ ⟨Nat.le_of_ble_eq_true rfl, Nat.le_of_ble_eq_true rfl⟩ (k' := 0) (z' := 0) (N' := N) rfl rfl rfl (fun r σ11132 hp => ?_)
    obtain ⟨rfl, rfl⟩ := hp
    refine Wm.topE (w := 101) (by decide) ?_
    refine m_icmp_ne F e_X10_wordHere_60 (fun q60 => ?_) (fun q60 => ?_)
    · have c60 : (t st) ≠ 101 := by have hh := mt (nI_eq (a := (t st)) (b := 101) (by omega) (by omega)).mpr q60; omega
      refine m_ldcS F e_X10_wordHere_69 F.sw.1.2.2 ?_
      refine m_iload_n F rfl e_X10_wordHere_71 ?_
      refine m_iload_n F rfl e_X10_wordHere_72 ?_
      refine m_iadd F e_X10_wordHere_73 ?_
      refine Wm.topE (w := 10) (by decide) ?_
      refine m_callO F e_X10_wordHere_74 (q_charAt (x_l X) V _ _ 10 (by omega)) cb_J0_charAt_5068e ml_X10_137 im_J0_charAt_5068e se_J0_charAt_5068e F.sw.2.2.2.2.2.2.1 rfl (rest := []) rfl (Nat.le_of_ble_eq_true rfl) ⟨Nat.le_of_ble_eq_true rfl, Nat.le_of_ble_eq_true rfl⟩ ⟨Nat.le_of_ble_eq_true rfl, Nat.le_of_ble_eq_true rfl⟩ (k' := 0) (z' := 0) (N' := N) rfl rfl rfl (fun r σ11133 hp => ?_)
      obtain ⟨rfl, rfl⟩ := hp
      refine Wm.topE (w := 101) (by decide) ?_
      refine m_bipush F (v := 32) (by decide) e_X10_wordHere_77 ?_
      refine m_icmp_ne F e_X10_wordHere_79 (fun _ => ?_) (fun q => absurd q (by decide))
      refine Wm.lvsub (lv' := [(1, .int 2), (2, .int 10), (0, .ref c)]) ?_ [1, 2, 3] rfl
      exact wk_2 F hQ h1 f20 hB hn7 hsa hpn hl hm (fun hz => by have z1 : P.a = st + 5 := hz.1; have z2 : t (st) = 101 := hz.2 0 (by decide); omega)
    · have c60 : (t st) = 101 := (nI_eq (a := (t st)) (b := 101) (by omega) (by omega)).mp q60
      refine m_iinc F (v := 1) (lv' := [(3, .int 1), (1, .int 2), (2, .int 10), (0, .ref c)]) e_X10_wordHere_63 rfl (by decide) (by decide) rfl ?_
      refine m_goto F e_X10_wordHere_66 ?_
      refine m_ldcS F e_X10_wordHere_15 F.sw.1.2.2 ?_
      refine m_iload_n F rfl e_X10_wordHere_17 ?_
      refine m_iload_n F rfl e_X10_wordHere_18 ?_
      refine m_iadd F e_X10_wordHere_19 ?_
      refine Wm.topE (w := 11) (by decide) ?_
      refine m_callO F e_X10_wordHere_20 (q_charAt (x_l X) V _ _ 11 (by omega)) cb_J0_charAt_5068e ml_X10_137 im_J0_charAt_5068e se_J0_charAt_5068e F.sw.2.2.2.2.2.2.1 rfl (rest := []) rfl (Nat.le_of_ble_eq_true rfl) ⟨Nat.le_of_ble_eq_true rfl, Nat.le_of_ble_eq_true rfl⟩ ⟨Nat.le_of_ble_eq_true rfl, Nat.le_of_ble_eq_true rfl⟩ (k' := 0) (z' := 0) (N' := N) rfl rfl rfl (fun r σ11134 hp => ?_)
      obtain ⟨rfl, rfl⟩ := hp
      refine Wm.topE (w := 97) (by decide) ?_
      refine m_bipush F (v := 32) (by decide) e_X10_wordHere_23 ?_
      refine m_icmp_eq F e_X10_wordHere_25 (fun q => absurd q (by decide)) (fun _ => ?_)
      refine m_aload_n F rfl e_X10_wordHere_28 ?_
      refine r_getC F e_X10_wordHere_29 fl_X10_107 h1 (f20) ?_
      refine m_iload_n F rfl e_X10_wordHere_32 ?_
      refine m_iadd F e_X10_wordHere_33 ?_
      refine Wm.topE (w := nI (st + 1)) (nI_add st 1) ?_
      refine m_aload_n F rfl e_X10_wordHere_34 ?_
      refine r_getC F e_X10_wordHere_35 fl_X10_97 h1 (f11125) ?_
      refine m_icmp_ge F e_X10_wordHere_38 (fun q38 => ?_) (fun q38 => ?_)
      · have c38 : (st + 1) ≥ P.a := (nI_leI (a := P.a) (b := (st + 1)) (by omega) (by omega)).mp q38
        refine m_ldcS F e_X10_wordHere_69 F.sw.1.2.2 ?_
        refine m_iload_n F rfl e_X10_wordHere_71 ?_
        refine m_iload_n F rfl e_X10_wordHere_72 ?_
        refine m_iadd F e_X10_wordHere_73 ?_
        refine Wm.topE (w := 11) (by decide) ?_
        refine m_callO F e_X10_wordHere_74 (q_charAt (x_l X) V _ _ 11 (by omega)) cb_J0_charAt_5068e ml_X10_137 im_J0_charAt_5068e se_J0_charAt_5068e F.sw.2.2.2.2.2.2.1 rfl (rest := []) rfl (Nat.le_of_ble_eq_true rfl) ⟨Nat.le_of_ble_eq_true rfl, Nat.le_of_ble_eq_true rfl⟩ ⟨Nat.le_of_ble_eq_true rfl, Nat.le_of_ble_eq_true rfl⟩ (k' := 0) (z' := 0) (N' := N) rfl rfl rfl (fun r σ11135 hp => ?_)
        obtain ⟨rfl, rfl⟩ := hp
        refine Wm.topE (w := 97) (by decide) ?_
        refine m_bipush F (v := 32) (by decide) e_X10_wordHere_77 ?_
        refine m_icmp_ne F e_X10_wordHere_79 (fun _ => ?_) (fun q => absurd q (by decide))
        refine Wm.lvsub (lv' := [(1, .int 2), (2, .int 10), (0, .ref c)]) ?_ [1, 2, 3] rfl
        exact wk_2 F hQ h1 f20 hB hn7 hsa hpn hl hm (fun hz => by have z1 : P.a = st + 5 := hz.1; have z2 : t (st + 1) = 97 := hz.2 1 (by decide); omega)
      · have c38 : (st + 1) < P.a := by have hh := mt (nI_leI (a := P.a) (b := (st + 1)) (by omega) (by omega)).mpr q38; omega
        refine m_aload_n F rfl e_X10_wordHere_41 ?_
        refine r_getC F e_X10_wordHere_42 fl_X10_7 h1 (f11127) ?_
        refine m_aload_n F rfl e_X10_wordHere_45 ?_
        refine r_getC F e_X10_wordHere_46 fl_X10_107 h1 (f20) ?_
        refine m_iload_n F rfl e_X10_wordHere_49 ?_
        refine m_iadd F e_X10_wordHere_50 ?_
        refine Wm.topE (w := nI (st + 1)) (nI_add st 1) ?_
        have hb11136 := (hB (st + 1) (by omega)).1
        refine r_iald F (len := 700) (j := st + 1) e_X10_wordHere_51 h1 (fun _ h => h) (by decide) (nI_clamp (by omega)) (vp_in_nI (by omega) (by decide)) (fun x11137 h11138 f11139 => ?_)
        obtain rfl := Option.some.inj ((f11139).symm.trans ((hB (st + 1) (by omega)).2))
        refine m_ldcS F e_X10_wordHere_52 F.sw.1.2.2 ?_
        refine m_iload_n F rfl e_X10_wordHere_54 ?_
        refine m_iload_n F rfl e_X10_wordHere_55 ?_
        refine m_iadd F e_X10_wordHere_56 ?_
        refine Wm.topE (w := 11) (by decide) ?_
        refine m_callO F e_X10_wordHere_57 (q_charAt (x_l X) V _ _ 11 (by omega)) cb_J0_charAt_5068e ml_X10_137 im_J0_charAt_5068e se_J0_charAt_5068e F.sw.2.2.2.2.2.2.1 rfl (rest := [.int (nI (t (st + 1)))]) rfl (Nat.le_of_ble_eq_true rfl) ⟨Nat.le_of_ble_eq_true rfl, Nat.le_of_ble_eq_true rfl⟩ ⟨Nat.le_of_ble_eq_true rfl, Nat.le_of_ble_eq_true rfl⟩ (k' := 0) (z' := 0) (N' := N) rfl rfl rfl (fun r σ11140 hp => ?_)
        obtain ⟨rfl, rfl⟩ := hp
        refine Wm.topE (w := 97) (by decide) ?_
        refine m_icmp_ne F e_X10_wordHere_60 (fun q60 => ?_) (fun q60 => ?_)
        · have c60 : (t (st + 1)) ≠ 97 := by have hh := mt (nI_eq (a := (t (st + 1))) (b := 97) (by omega) (by omega)).mpr q60; omega
          refine m_ldcS F e_X10_wordHere_69 F.sw.1.2.2 ?_
          refine m_iload_n F rfl e_X10_wordHere_71 ?_
          refine m_iload_n F rfl e_X10_wordHere_72 ?_
          refine m_iadd F e_X10_wordHere_73 ?_
          refine Wm.topE (w := 11) (by decide) ?_
          refine m_callO F e_X10_wordHere_74 (q_charAt (x_l X) V _ _ 11 (by omega)) cb_J0_charAt_5068e ml_X10_137 im_J0_charAt_5068e se_J0_charAt_5068e F.sw.2.2.2.2.2.2.1 rfl (rest := []) rfl (Nat.le_of_ble_eq_true rfl) ⟨Nat.le_of_ble_eq_true rfl, Nat.le_of_ble_eq_true rfl⟩ ⟨Nat.le_of_ble_eq_true rfl, Nat.le_of_ble_eq_true rfl⟩ (k' := 0) (z' := 0) (N' := N) rfl rfl rfl (fun r σ11141 hp => ?_)
          obtain ⟨rfl, rfl⟩ := hp
          refine Wm.topE (w := 97) (by decide) ?_
          refine m_bipush F (v := 32) (by decide) e_X10_wordHere_77 ?_
          refine m_icmp_ne F e_X10_wordHere_79 (fun _ => ?_) (fun q => absurd q (by decide))
          refine Wm.lvsub (lv' := [(1, .int 2), (2, .int 10), (0, .ref c)]) ?_ [1, 2, 3] rfl
          exact wk_2 F hQ h1 f20 hB hn7 hsa hpn hl hm (fun hz => by have z1 : P.a = st + 5 := hz.1; have z2 : t (st + 1) = 97 := hz.2 1 (by decide); omega)
        · have c60 : (t (st + 1)) = 97 := (nI_eq (a := (t (st + 1))) (b := 97) (by omega) (by omega)).mp q60
          refine m_iinc F (v := 2) (lv' := [(3, .int 2), (1, .int 2), (2, .int 10), (0, .ref c)]) e_X10_wordHere_63 rfl (by decide) (by decide) rfl ?_
          refine m_goto F e_X10_wordHere_66 ?_
          refine m_ldcS F e_X10_wordHere_15 F.sw.1.2.2 ?_
          refine m_iload_n F rfl e_X10_wordHere_17 ?_
          refine m_iload_n F rfl e_X10_wordHere_18 ?_
          refine m_iadd F e_X10_wordHere_19 ?_
          refine Wm.topE (w := 12) (by decide) ?_
          refine m_callO F e_X10_wordHere_20 (q_charAt (x_l X) V _ _ 12 (by omega)) cb_J0_charAt_5068e ml_X10_137 im_J0_charAt_5068e se_J0_charAt_5068e F.sw.2.2.2.2.2.2.1 rfl (rest := []) rfl (Nat.le_of_ble_eq_true rfl) ⟨Nat.le_of_ble_eq_true rfl, Nat.le_of_ble_eq_true rfl⟩ ⟨Nat.le_of_ble_eq_true rfl, Nat.le_of_ble_eq_true rfl⟩ (k' := 0) (z' := 0) (N' := N) rfl rfl rfl (fun r σ11142 hp => ?_)
          obtain ⟨rfl, rfl⟩ := hp
          refine Wm.topE (w := 114) (by decide) ?_
          refine m_bipush F (v := 32) (by decide) e_X10_wordHere_23 ?_
          refine m_icmp_eq F e_X10_wordHere_25 (fun q => absurd q (by decide)) (fun _ => ?_)
          refine m_aload_n F rfl e_X10_wordHere_28 ?_
          refine r_getC F e_X10_wordHere_29 fl_X10_107 h1 (f20) ?_
          refine m_iload_n F rfl e_X10_wordHere_32 ?_
          refine m_iadd F e_X10_wordHere_33 ?_
          refine Wm.topE (w := nI (st + 2)) (nI_add st 2) ?_
          refine m_aload_n F rfl e_X10_wordHere_34 ?_
          refine r_getC F e_X10_wordHere_35 fl_X10_97 h1 (f11125) ?_
          refine m_icmp_ge F e_X10_wordHere_38 (fun q38 => ?_) (fun q38 => ?_)
          · have c38 : (st + 2) ≥ P.a := (nI_leI (a := P.a) (b := (st + 2)) (by omega) (by omega)).mp q38
            refine m_ldcS F e_X10_wordHere_69 F.sw.1.2.2 ?_
            refine m_iload_n F rfl e_X10_wordHere_71 ?_
            refine m_iload_n F rfl e_X10_wordHere_72 ?_
            refine m_iadd F e_X10_wordHere_73 ?_
            refine Wm.topE (w := 12) (by decide) ?_
            refine m_callO F e_X10_wordHere_74 (q_charAt (x_l X) V _ _ 12 (by omega)) cb_J0_charAt_5068e ml_X10_137 im_J0_charAt_5068e se_J0_charAt_5068e F.sw.2.2.2.2.2.2.1 rfl (rest := []) rfl (Nat.le_of_ble_eq_true rfl) ⟨Nat.le_of_ble_eq_true rfl, Nat.le_of_ble_eq_true rfl⟩ ⟨Nat.le_of_ble_eq_true rfl, Nat.le_of_ble_eq_true rfl⟩ (k' := 0) (z' := 0) (N' := N) rfl rfl rfl (fun r σ11143 hp => ?_)
            obtain ⟨rfl, rfl⟩ := hp
            refine Wm.topE (w := 114) (by decide) ?_
            refine m_bipush F (v := 32) (by decide) e_X10_wordHere_77 ?_
            refine m_icmp_ne F e_X10_wordHere_79 (fun _ => ?_) (fun q => absurd q (by decide))
            refine Wm.lvsub (lv' := [(1, .int 2), (2, .int 10), (0, .ref c)]) ?_ [1, 2, 3] rfl
            exact wk_2 F hQ h1 f20 hB hn7 hsa hpn hl hm (fun hz => by have z1 : P.a = st + 5 := hz.1; have z2 : t (st + 2) = 114 := hz.2 2 (by decide); omega)
          · have c38 : (st + 2) < P.a := by have hh := mt (nI_leI (a := P.a) (b := (st + 2)) (by omega) (by omega)).mpr q38; omega
            refine m_aload_n F rfl e_X10_wordHere_41 ?_
            refine r_getC F e_X10_wordHere_42 fl_X10_7 h1 (f11127) ?_
            refine m_aload_n F rfl e_X10_wordHere_45 ?_
            refine r_getC F e_X10_wordHere_46 fl_X10_107 h1 (f20) ?_
            refine m_iload_n F rfl e_X10_wordHere_49 ?_
            refine m_iadd F e_X10_wordHere_50 ?_
            refine Wm.topE (w := nI (st + 2)) (nI_add st 2) ?_
            have hb11144 := (hB (st + 2) (by omega)).1
            refine r_iald F (len := 700) (j := st + 2) e_X10_wordHere_51 h1 (fun _ h => h) (by decide) (nI_clamp (by omega)) (vp_in_nI (by omega) (by decide)) (fun x11145 h11146 f11147 => ?_)
            obtain rfl := Option.some.inj ((f11147).symm.trans ((hB (st + 2) (by omega)).2))
            refine m_ldcS F e_X10_wordHere_52 F.sw.1.2.2 ?_
            refine m_iload_n F rfl e_X10_wordHere_54 ?_
            refine m_iload_n F rfl e_X10_wordHere_55 ?_
            refine m_iadd F e_X10_wordHere_56 ?_
            refine Wm.topE (w := 12) (by decide) ?_
            refine m_callO F e_X10_wordHere_57 (q_charAt (x_l X) V _ _ 12 (by omega)) cb_J0_charAt_5068e ml_X10_137 im_J0_charAt_5068e se_J0_charAt_5068e F.sw.2.2.2.2.2.2.1 rfl (rest := [.int (nI (t (st + 2)))]) rfl (Nat.le_of_ble_eq_true rfl) ⟨Nat.le_of_ble_eq_true rfl, Nat.le_of_ble_eq_true rfl⟩ ⟨Nat.le_of_ble_eq_true rfl, Nat.le_of_ble_eq_true rfl⟩ (k' := 0) (z' := 0) (N' := N) rfl rfl rfl (fun r σ11148 hp => ?_)
            obtain ⟨rfl, rfl⟩ := hp
            refine Wm.topE (w := 114) (by decide) ?_
            refine m_icmp_ne F e_X10_wordHere_60 (fun q60 => ?_) (fun q60 => ?_)
            · have c60 : (t (st + 2)) ≠ 114 := by have hh := mt (nI_eq (a := (t (st + 2))) (b := 114) (by omega) (by omega)).mpr q60; omega
              refine m_ldcS F e_X10_wordHere_69 F.sw.1.2.2 ?_
              refine m_iload_n F rfl e_X10_wordHere_71 ?_
              refine m_iload_n F rfl e_X10_wordHere_72 ?_
              refine m_iadd F e_X10_wordHere_73 ?_
              refine Wm.topE (w := 12) (by decide) ?_
              refine m_callO F e_X10_wordHere_74 (q_charAt (x_l X) V _ _ 12 (by omega)) cb_J0_charAt_5068e ml_X10_137 im_J0_charAt_5068e se_J0_charAt_5068e F.sw.2.2.2.2.2.2.1 rfl (rest := []) rfl (Nat.le_of_ble_eq_true rfl) ⟨Nat.le_of_ble_eq_true rfl, Nat.le_of_ble_eq_true rfl⟩ ⟨Nat.le_of_ble_eq_true rfl, Nat.le_of_ble_eq_true rfl⟩ (k' := 0) (z' := 0) (N' := N) rfl rfl rfl (fun r σ11149 hp => ?_)
              obtain ⟨rfl, rfl⟩ := hp
              refine Wm.topE (w := 114) (by decide) ?_
              refine m_bipush F (v := 32) (by decide) e_X10_wordHere_77 ?_
              refine m_icmp_ne F e_X10_wordHere_79 (fun _ => ?_) (fun q => absurd q (by decide))
              refine Wm.lvsub (lv' := [(1, .int 2), (2, .int 10), (0, .ref c)]) ?_ [1, 2, 3] rfl
              exact wk_2 F hQ h1 f20 hB hn7 hsa hpn hl hm (fun hz => by have z1 : P.a = st + 5 := hz.1; have z2 : t (st + 2) = 114 := hz.2 2 (by decide); omega)
            · have c60 : (t (st + 2)) = 114 := (nI_eq (a := (t (st + 2))) (b := 114) (by omega) (by omega)).mp q60
              refine m_iinc F (v := 3) (lv' := [(3, .int 3), (1, .int 2), (2, .int 10), (0, .ref c)]) e_X10_wordHere_63 rfl (by decide) (by decide) rfl ?_
              refine m_goto F e_X10_wordHere_66 ?_
              refine m_ldcS F e_X10_wordHere_15 F.sw.1.2.2 ?_
              refine m_iload_n F rfl e_X10_wordHere_17 ?_
              refine m_iload_n F rfl e_X10_wordHere_18 ?_
              refine m_iadd F e_X10_wordHere_19 ?_
              refine Wm.topE (w := 13) (by decide) ?_
              refine m_callO F e_X10_wordHere_20 (q_charAt (x_l X) V _ _ 13 (by omega)) cb_J0_charAt_5068e ml_X10_137 im_J0_charAt_5068e se_J0_charAt_5068e F.sw.2.2.2.2.2.2.1 rfl (rest := []) rfl (Nat.le_of_ble_eq_true rfl) ⟨Nat.le_of_ble_eq_true rfl, Nat.le_of_ble_eq_true rfl⟩ ⟨Nat.le_of_ble_eq_true rfl, Nat.le_of_ble_eq_true rfl⟩ (k' := 0) (z' := 0) (N' := N) rfl rfl rfl (fun r σ11150 hp => ?_)
              obtain ⟨rfl, rfl⟩ := hp
              refine Wm.topE (w := 108) (by decide) ?_
              refine m_bipush F (v := 32) (by decide) e_X10_wordHere_23 ?_
              refine m_icmp_eq F e_X10_wordHere_25 (fun q => absurd q (by decide)) (fun _ => ?_)
              refine m_aload_n F rfl e_X10_wordHere_28 ?_
              refine r_getC F e_X10_wordHere_29 fl_X10_107 h1 (f20) ?_
              refine m_iload_n F rfl e_X10_wordHere_32 ?_
              refine m_iadd F e_X10_wordHere_33 ?_
              refine Wm.topE (w := nI (st + 3)) (nI_add st 3) ?_
              refine m_aload_n F rfl e_X10_wordHere_34 ?_
              refine r_getC F e_X10_wordHere_35 fl_X10_97 h1 (f11125) ?_
              refine m_icmp_ge F e_X10_wordHere_38 (fun q38 => ?_) (fun q38 => ?_)
              · have c38 : (st + 3) ≥ P.a := (nI_leI (a := P.a) (b := (st + 3)) (by omega) (by omega)).mp q38
                refine m_ldcS F e_X10_wordHere_69 F.sw.1.2.2 ?_
                refine m_iload_n F rfl e_X10_wordHere_71 ?_
                refine m_iload_n F rfl e_X10_wordHere_72 ?_
                refine m_iadd F e_X10_wordHere_73 ?_
                refine Wm.topE (w := 13) (by decide) ?_
                refine m_callO F e_X10_wordHere_74 (q_charAt (x_l X) V _ _ 13 (by omega)) cb_J0_charAt_5068e ml_X10_137 im_J0_charAt_5068e se_J0_charAt_5068e F.sw.2.2.2.2.2.2.1 rfl (rest := []) rfl (Nat.le_of_ble_eq_true rfl) ⟨Nat.le_of_ble_eq_true rfl, Nat.le_of_ble_eq_true rfl⟩ ⟨Nat.le_of_ble_eq_true rfl, Nat.le_of_ble_eq_true rfl⟩ (k' := 0) (z' := 0) (N' := N) rfl rfl rfl (fun r σ11151 hp => ?_)
                obtain ⟨rfl, rfl⟩ := hp
                refine Wm.topE (w := 108) (by decide) ?_
                refine m_bipush F (v := 32) (by decide) e_X10_wordHere_77 ?_
                refine m_icmp_ne F e_X10_wordHere_79 (fun _ => ?_) (fun q => absurd q (by decide))
                refine Wm.lvsub (lv' := [(1, .int 2), (2, .int 10), (0, .ref c)]) ?_ [1, 2, 3] rfl
                exact wk_2 F hQ h1 f20 hB hn7 hsa hpn hl hm (fun hz => by have z1 : P.a = st + 5 := hz.1; have z2 : t (st + 3) = 108 := hz.2 3 (by decide); omega)
              · have c38 : (st + 3) < P.a := by have hh := mt (nI_leI (a := P.a) (b := (st + 3)) (by omega) (by omega)).mpr q38; omega
                refine m_aload_n F rfl e_X10_wordHere_41 ?_
                refine r_getC F e_X10_wordHere_42 fl_X10_7 h1 (f11127) ?_
                refine m_aload_n F rfl e_X10_wordHere_45 ?_
                refine r_getC F e_X10_wordHere_46 fl_X10_107 h1 (f20) ?_
                refine m_iload_n F rfl e_X10_wordHere_49 ?_
                refine m_iadd F e_X10_wordHere_50 ?_
                refine Wm.topE (w := nI (st + 3)) (nI_add st 3) ?_
                have hb11152 := (hB (st + 3) (by omega)).1
                refine r_iald F (len := 700) (j := st + 3) e_X10_wordHere_51 h1 (fun _ h => h) (by decide) (nI_clamp (by omega)) (vp_in_nI (by omega) (by decide)) (fun x11153 h11154 f11155 => ?_)
                obtain rfl := Option.some.inj ((f11155).symm.trans ((hB (st + 3) (by omega)).2))
                refine m_ldcS F e_X10_wordHere_52 F.sw.1.2.2 ?_
                refine m_iload_n F rfl e_X10_wordHere_54 ?_
                refine m_iload_n F rfl e_X10_wordHere_55 ?_
                refine m_iadd F e_X10_wordHere_56 ?_
                refine Wm.topE (w := 13) (by decide) ?_
                refine m_callO F e_X10_wordHere_57 (q_charAt (x_l X) V _ _ 13 (by omega)) cb_J0_charAt_5068e ml_X10_137 im_J0_charAt_5068e se_J0_charAt_5068e F.sw.2.2.2.2.2.2.1 rfl (rest := [.int (nI (t (st + 3)))]) rfl (Nat.le_of_ble_eq_true rfl) ⟨Nat.le_of_ble_eq_true rfl, Nat.le_of_ble_eq_true rfl⟩ ⟨Nat.le_of_ble_eq_true rfl, Nat.le_of_ble_eq_true rfl⟩ (k' := 0) (z' := 0) (N' := N) rfl rfl rfl (fun r σ11156 hp => ?_)
                obtain ⟨rfl, rfl⟩ := hp
                refine Wm.topE (w := 108) (by decide) ?_
                refine m_icmp_ne F e_X10_wordHere_60 (fun q60 => ?_) (fun q60 => ?_)
                · have c60 : (t (st + 3)) ≠ 108 := by have hh := mt (nI_eq (a := (t (st + 3))) (b := 108) (by omega) (by omega)).mpr q60; omega
                  refine m_ldcS F e_X10_wordHere_69 F.sw.1.2.2 ?_
                  refine m_iload_n F rfl e_X10_wordHere_71 ?_
                  refine m_iload_n F rfl e_X10_wordHere_72 ?_
                  refine m_iadd F e_X10_wordHere_73 ?_
                  refine Wm.topE (w := 13) (by decide) ?_
                  refine m_callO F e_X10_wordHere_74 (q_charAt (x_l X) V _ _ 13 (by omega)) cb_J0_charAt_5068e ml_X10_137 im_J0_charAt_5068e se_J0_charAt_5068e F.sw.2.2.2.2.2.2.1 rfl (rest := []) rfl (Nat.le_of_ble_eq_true rfl) ⟨Nat.le_of_ble_eq_true rfl, Nat.le_of_ble_eq_true rfl⟩ ⟨Nat.le_of_ble_eq_true rfl, Nat.le_of_ble_eq_true rfl⟩ (k' := 0) (z' := 0) (N' := N) rfl rfl rfl (fun r σ11157 hp => ?_)
                  obtain ⟨rfl, rfl⟩ := hp
                  refine Wm.topE (w := 108) (by decide) ?_
                  refine m_bipush F (v := 32) (by decide) e_X10_wordHere_77 ?_
                  refine m_icmp_ne F e_X10_wordHere_79 (fun _ => ?_) (fun q => absurd q (by decide))
                  refine Wm.lvsub (lv' := [(1, .int 2), (2, .int 10), (0, .ref c)]) ?_ [1, 2, 3] rfl
                  exact wk_2 F hQ h1 f20 hB hn7 hsa hpn hl hm (fun hz => by have z1 : P.a = st + 5 := hz.1; have z2 : t (st + 3) = 108 := hz.2 3 (by decide); omega)
                · have c60 : (t (st + 3)) = 108 := (nI_eq (a := (t (st + 3))) (b := 108) (by omega) (by omega)).mp q60
                  refine m_iinc F (v := 4) (lv' := [(3, .int 4), (1, .int 2), (2, .int 10), (0, .ref c)]) e_X10_wordHere_63 rfl (by decide) (by decide) rfl ?_
                  refine m_goto F e_X10_wordHere_66 ?_
                  refine m_ldcS F e_X10_wordHere_15 F.sw.1.2.2 ?_
                  refine m_iload_n F rfl e_X10_wordHere_17 ?_
                  refine m_iload_n F rfl e_X10_wordHere_18 ?_
                  refine m_iadd F e_X10_wordHere_19 ?_
                  refine Wm.topE (w := 14) (by decide) ?_
                  refine m_callO F e_X10_wordHere_20 (q_charAt (x_l X) V _ _ 14 (by omega)) cb_J0_charAt_5068e ml_X10_137 im_J0_charAt_5068e se_J0_charAt_5068e F.sw.2.2.2.2.2.2.1 rfl (rest := []) rfl (Nat.le_of_ble_eq_true rfl) ⟨Nat.le_of_ble_eq_true rfl, Nat.le_of_ble_eq_true rfl⟩ ⟨Nat.le_of_ble_eq_true rfl, Nat.le_of_ble_eq_true rfl⟩ (k' := 0) (z' := 0) (N' := N) rfl rfl rfl (fun r σ11158 hp => ?_)
                  obtain ⟨rfl, rfl⟩ := hp
                  refine Wm.topE (w := 121) (by decide) ?_
                  refine m_bipush F (v := 32) (by decide) e_X10_wordHere_23 ?_
                  refine m_icmp_eq F e_X10_wordHere_25 (fun q => absurd q (by decide)) (fun _ => ?_)
                  refine m_aload_n F rfl e_X10_wordHere_28 ?_
                  refine r_getC F e_X10_wordHere_29 fl_X10_107 h1 (f20) ?_
                  refine m_iload_n F rfl e_X10_wordHere_32 ?_
                  refine m_iadd F e_X10_wordHere_33 ?_
                  refine Wm.topE (w := nI (st + 4)) (nI_add st 4) ?_
                  refine m_aload_n F rfl e_X10_wordHere_34 ?_
                  refine r_getC F e_X10_wordHere_35 fl_X10_97 h1 (f11125) ?_
                  refine m_icmp_ge F e_X10_wordHere_38 (fun q38 => ?_) (fun q38 => ?_)
                  · have c38 : (st + 4) ≥ P.a := (nI_leI (a := P.a) (b := (st + 4)) (by omega) (by omega)).mp q38
                    refine m_ldcS F e_X10_wordHere_69 F.sw.1.2.2 ?_
                    refine m_iload_n F rfl e_X10_wordHere_71 ?_
                    refine m_iload_n F rfl e_X10_wordHere_72 ?_
                    refine m_iadd F e_X10_wordHere_73 ?_
                    refine Wm.topE (w := 14) (by decide) ?_
                    refine m_callO F e_X10_wordHere_74 (q_charAt (x_l X) V _ _ 14 (by omega)) cb_J0_charAt_5068e ml_X10_137 im_J0_charAt_5068e se_J0_charAt_5068e F.sw.2.2.2.2.2.2.1 rfl (rest := []) rfl (Nat.le_of_ble_eq_true rfl) ⟨Nat.le_of_ble_eq_true rfl, Nat.le_of_ble_eq_true rfl⟩ ⟨Nat.le_of_ble_eq_true rfl, Nat.le_of_ble_eq_true rfl⟩ (k' := 0) (z' := 0) (N' := N) rfl rfl rfl (fun r σ11159 hp => ?_)
                    obtain ⟨rfl, rfl⟩ := hp
                    refine Wm.topE (w := 121) (by decide) ?_
                    refine m_bipush F (v := 32) (by decide) e_X10_wordHere_77 ?_
                    refine m_icmp_ne F e_X10_wordHere_79 (fun _ => ?_) (fun q => absurd q (by decide))
                    refine Wm.lvsub (lv' := [(1, .int 2), (2, .int 10), (0, .ref c)]) ?_ [1, 2, 3] rfl
                    exact wk_2 F hQ h1 f20 hB hn7 hsa hpn hl hm (fun hz => by have z1 : P.a = st + 5 := hz.1; have z2 : t (st + 4) = 121 := hz.2 4 (by decide); omega)
                  · have c38 : (st + 4) < P.a := by have hh := mt (nI_leI (a := P.a) (b := (st + 4)) (by omega) (by omega)).mpr q38; omega
                    refine m_aload_n F rfl e_X10_wordHere_41 ?_
                    refine r_getC F e_X10_wordHere_42 fl_X10_7 h1 (f11127) ?_
                    refine m_aload_n F rfl e_X10_wordHere_45 ?_
                    refine r_getC F e_X10_wordHere_46 fl_X10_107 h1 (f20) ?_
                    refine m_iload_n F rfl e_X10_wordHere_49 ?_
                    refine m_iadd F e_X10_wordHere_50 ?_
                    refine Wm.topE (w := nI (st + 4)) (nI_add st 4) ?_
                    have hb11160 := (hB (st + 4) (by omega)).1
                    refine r_iald F (len := 700) (j := st + 4) e_X10_wordHere_51 h1 (fun _ h => h) (by decide) (nI_clamp (by omega)) (vp_in_nI (by omega) (by decide)) (fun x11161 h11162 f11163 => ?_)
                    obtain rfl := Option.some.inj ((f11163).symm.trans ((hB (st + 4) (by omega)).2))
                    refine m_ldcS F e_X10_wordHere_52 F.sw.1.2.2 ?_
                    refine m_iload_n F rfl e_X10_wordHere_54 ?_
                    refine m_iload_n F rfl e_X10_wordHere_55 ?_
                    refine m_iadd F e_X10_wordHere_56 ?_
                    refine Wm.topE (w := 14) (by decide) ?_
                    refine m_callO F e_X10_wordHere_57 (q_charAt (x_l X) V _ _ 14 (by omega)) cb_J0_charAt_5068e ml_X10_137 im_J0_charAt_5068e se_J0_charAt_5068e F.sw.2.2.2.2.2.2.1 rfl (rest := [.int (nI (t (st + 4)))]) rfl (Nat.le_of_ble_eq_true rfl) ⟨Nat.le_of_ble_eq_true rfl, Nat.le_of_ble_eq_true rfl⟩ ⟨Nat.le_of_ble_eq_true rfl, Nat.le_of_ble_eq_true rfl⟩ (k' := 0) (z' := 0) (N' := N) rfl rfl rfl (fun r σ11164 hp => ?_)
                    obtain ⟨rfl, rfl⟩ := hp
                    refine Wm.topE (w := 121) (by decide) ?_
                    refine m_icmp_ne F e_X10_wordHere_60 (fun q60 => ?_) (fun q60 => ?_)
                    · have c60 : (t (st + 4)) ≠ 121 := by have hh := mt (nI_eq (a := (t (st + 4))) (b := 121) (by omega) (by omega)).mpr q60; omega
                      refine m_ldcS F e_X10_wordHere_69 F.sw.1.2.2 ?_
                      refine m_iload_n F rfl e_X10_wordHere_71 ?_
                      refine m_iload_n F rfl e_X10_wordHere_72 ?_
                      refine m_iadd F e_X10_wordHere_73 ?_
                      refine Wm.topE (w := 14) (by decide) ?_
                      refine m_callO F e_X10_wordHere_74 (q_charAt (x_l X) V _ _ 14 (by omega)) cb_J0_charAt_5068e ml_X10_137 im_J0_charAt_5068e se_J0_charAt_5068e F.sw.2.2.2.2.2.2.1 rfl (rest := []) rfl (Nat.le_of_ble_eq_true rfl) ⟨Nat.le_of_ble_eq_true rfl, Nat.le_of_ble_eq_true rfl⟩ ⟨Nat.le_of_ble_eq_true rfl, Nat.le_of_ble_eq_true rfl⟩ (k' := 0) (z' := 0) (N' := N) rfl rfl rfl (fun r σ11165 hp => ?_)
                      obtain ⟨rfl, rfl⟩ := hp
                      refine Wm.topE (w := 121) (by decide) ?_
                      refine m_bipush F (v := 32) (by decide) e_X10_wordHere_77 ?_
                      refine m_icmp_ne F e_X10_wordHere_79 (fun _ => ?_) (fun q => absurd q (by decide))
                      refine Wm.lvsub (lv' := [(1, .int 2), (2, .int 10), (0, .ref c)]) ?_ [1, 2, 3] rfl
                      exact wk_2 F hQ h1 f20 hB hn7 hsa hpn hl hm (fun hz => by have z1 : P.a = st + 5 := hz.1; have z2 : t (st + 4) = 121 := hz.2 4 (by decide); omega)
                    · have c60 : (t (st + 4)) = 121 := (nI_eq (a := (t (st + 4))) (b := 121) (by omega) (by omega)).mp q60
                      refine m_iinc F (v := 5) (lv' := [(3, .int 5), (1, .int 2), (2, .int 10), (0, .ref c)]) e_X10_wordHere_63 rfl (by decide) (by decide) rfl ?_
                      refine m_goto F e_X10_wordHere_66 ?_
                      refine m_ldcS F e_X10_wordHere_15 F.sw.1.2.2 ?_
                      refine m_iload_n F rfl e_X10_wordHere_17 ?_
                      refine m_iload_n F rfl e_X10_wordHere_18 ?_
                      refine m_iadd F e_X10_wordHere_19 ?_
                      refine Wm.topE (w := 15) (by decide) ?_
                      refine m_callO F e_X10_wordHere_20 (q_charAt (x_l X) V _ _ 15 (by omega)) cb_J0_charAt_5068e ml_X10_137 im_J0_charAt_5068e se_J0_charAt_5068e F.sw.2.2.2.2.2.2.1 rfl (rest := []) rfl (Nat.le_of_ble_eq_true rfl) ⟨Nat.le_of_ble_eq_true rfl, Nat.le_of_ble_eq_true rfl⟩ ⟨Nat.le_of_ble_eq_true rfl, Nat.le_of_ble_eq_true rfl⟩ (k' := 0) (z' := 0) (N' := N) rfl rfl rfl (fun r σ11166 hp => ?_)
                      obtain ⟨rfl, rfl⟩ := hp
                      refine Wm.topE (w := 32) (by decide) ?_
                      refine m_bipush F (v := 32) (by decide) e_X10_wordHere_23 ?_
                      refine m_icmp_eq F e_X10_wordHere_25 (fun _ => ?_) (fun q => absurd (by decide) q)
                      refine m_ldcS F e_X10_wordHere_69 F.sw.1.2.2 ?_
                      refine m_iload_n F rfl e_X10_wordHere_71 ?_
                      refine m_iload_n F rfl e_X10_wordHere_72 ?_
                      refine m_iadd F e_X10_wordHere_73 ?_
                      refine Wm.topE (w := 15) (by decide) ?_
                      refine m_callO F e_X10_wordHere_74 (q_charAt (x_l X) V _ _ 15 (by omega)) cb_J0_charAt_5068e ml_X10_137 im_J0_charAt_5068e se_J0_charAt_5068e F.sw.2.2.2.2.2.2.1 rfl (rest := []) rfl (Nat.le_of_ble_eq_true rfl) ⟨Nat.le_of_ble_eq_true rfl, Nat.le_of_ble_eq_true rfl⟩ ⟨Nat.le_of_ble_eq_true rfl, Nat.le_of_ble_eq_true rfl⟩ (k' := 0) (z' := 0) (N' := N) rfl rfl rfl (fun r σ11167 hp => ?_)
                      obtain ⟨rfl, rfl⟩ := hp
                      refine Wm.topE (w := 32) (by decide) ?_
                      refine m_bipush F (v := 32) (by decide) e_X10_wordHere_77 ?_
                      refine m_icmp_ne F e_X10_wordHere_79 (fun q => absurd (by decide) q) (fun _ => ?_)
                      refine m_aload_n F rfl e_X10_wordHere_82 ?_
                      refine r_getC F e_X10_wordHere_83 fl_X10_107 h1 (f20) ?_
                      refine m_iload_n F rfl e_X10_wordHere_86 ?_
                      refine m_iadd F e_X10_wordHere_87 ?_
                      refine Wm.topE (w := nI (st + 5)) (nI_add st 5) ?_
                      refine m_aload_n F rfl e_X10_wordHere_88 ?_
                      refine r_getC F e_X10_wordHere_89 fl_X10_97 h1 (f11125) ?_
                      refine m_icmp_ne F e_X10_wordHere_92 (fun q92 => ?_) (fun q92 => ?_)
                      · have c92 : (st + 5) ≠ P.a := by have hh := mt (nI_eq (a := (st + 5)) (b := P.a) (by omega) (by omega)).mpr q92; omega
                        refine Wm.lvsub (lv' := [(1, .int 2), (2, .int 10), (0, .ref c)]) ?_ [1, 2, 3] rfl
                        exact wk_2 F hQ h1 f20 hB hn7 hsa hpn hl hm (fun hz => by have z1 : P.a = st + 5 := hz.1; omega)
                      · have c92 : (st + 5) = P.a := (nI_eq (a := (st + 5)) (b := P.a) (by omega) (by omega)).mp q92
                        refine m_iload_n F rfl e_X10_wordHere_95 ?_
                        have hz : mw t st P.a 2 := by
                          refine ⟨(show P.a = st + 5 by omega), fun i hi => ?_⟩
                          have hi2 : i = 0 ∨ i = 1 ∨ i = 2 ∨ i = 3 ∨ i = 4 := by have hi3 : i < 5 := hi; omega
                          rcases hi2 with rfl | rfl | rfl | rfl | rfl
                          · show t (st + 0) = 101; first | assumption | omega
                          · show t (st + 1) = 97; first | assumption | omega
                          · show t (st + 2) = 114; first | assumption | omega
                          · show t (st + 3) = 108; first | assumption | omega
                          · show t (st + 4) = 121; first | assumption | omega
                        have hy := kix_mw hsa hl (by decide) hz
                        exact m_iret F hQ e_X10_wordHere_96 ⟨h1, Or.inl ⟨hy.1, by rw [hy.2]; decide, by rw [hy.2]; rfl⟩⟩
set_option maxRecDepth 20000 in
theorem wk_1 {V : VX} {X : MX} {N : Nat} {σ : Mem} {c T Z u h : Nat} {P : NP} {L : Nat → LQ} {n st : Nat} {t : Nat → Nat} (F : Fx V X yX10_wordHere cX10_wordHere 4 (some .int) (rmd 4 0 0)) (hQ : Rt V X 0 0 N (fun r τ => HS V c (⟨T, Z, u, h, P, L⟩ : RG) [0, 1, 2, 3, 4, 5, 6, 7, 8, 9, 10, 11, 12, 13, 14, 15, 16, 17, 18, 19, 20, 21, 22, 23] σ τ ∧ ((P.a - st ≤ 6 ∧ kix (nmc t st P.a 6) < 9 ∧ r = some (.int (nI (kix (nmc t st P.a 6))))) ∨ (¬ (P.a - st ≤ 6 ∧ kix (nmc t st P.a 6) < 9) ∧ r = some (.int (-1)))))) (h1 : HS V c ⟨T, Z, u, h, P, L⟩ [0, 1, 2, 3, 4, 5, 6, 7, 8, 9, 10, 11, 12, 13, 14, 15, 16, 17, 18, 19, 20, 21, 22, 23] σ σ) (f20 : fld σ c 20 = some (.int (nI st))) (hB : BR σ c n t) (hn7 : n ≤ 700) (hsa : st < P.a) (hpn : P.a ≤ n) (hl : ∀ i, st ≤ i → i < P.a → isL (t i) = true) (hm : ∀ m, m < 1 → ¬ mw t st P.a m) (hz : ¬ mw t st P.a 1) : Wm V X 4 N σ 0 0 97 [(1, .int 1), (2, .int 6), (0, .ref c)] [] := by
  refine m_ldcS F e_X10_wordHere_97 F.sw.1.2.2 ?_
  refine m_iload_n F rfl e_X10_wordHere_99 ?_
  refine m_callO F e_X10_wordHere_100 (q_charAt (x_l X) V _ _ 6 (by omega)) cb_J0_charAt_5068e ml_X10_137 im_J0_charAt_5068e se_J0_charAt_5068e F.sw.2.2.2.2.2.2.1 rfl (rest := []) rfl (Nat.le_of_ble_eq_true rfl) ⟨Nat.le_of_ble_eq_true rfl, Nat.le_of_ble_eq_true rfl⟩ ⟨Nat.le_of_ble_eq_true rfl, Nat.le_of_ble_eq_true rfl⟩ (k' := 0) (z' := 0) (N' := N) rfl rfl rfl (fun r σ11168 hp => ?_)
  obtain ⟨rfl, rfl⟩ := hp
  refine Wm.topE (w := 112) (by decide) ?_
  refine m_bipush F (v := 32) (by decide) e_X10_wordHere_103 ?_
  refine m_icmp_eq F e_X10_wordHere_105 (fun q => absurd q (by decide)) (fun _ => ?_)
  refine m_iinc F (v := 7) (lv' := [(2, .int 7), (1, .int 1), (0, .ref c)]) e_X10_wordHere_108 rfl (by decide) (by decide) rfl ?_
  refine m_goto F e_X10_wordHere_111 ?_
  refine m_ldcS F e_X10_wordHere_97 F.sw.1.2.2 ?_
  refine m_iload_n F rfl e_X10_wordHere_99 ?_
  refine m_callO F e_X10_wordHere_100 (q_charAt (x_l X) V _ _ 7 (by omega)) cb_J0_charAt_5068e ml_X10_137 im_J0_charAt_5068e se_J0_charAt_5068e F.sw.2.2.2.2.2.2.1 rfl (rest := []) rfl (Nat.le_of_ble_eq_true rfl) ⟨Nat.le_of_ble_eq_true rfl, Nat.le_of_ble_eq_true rfl⟩ ⟨Nat.le_of_ble_eq_true rfl, Nat.le_of_ble_eq_true rfl⟩ (k' := 0) (z' := 0) (N' := N) rfl rfl rfl (fun r σ11169 hp => ?_)
  obtain ⟨rfl, rfl⟩ := hp
  refine Wm.topE (w := 97) (by decide) ?_
  refine m_bipush F (v := 32) (by decide) e_X10_wordHere_103 ?_
  refine m_icmp_eq F e_X10_wordHere_105 (fun q => absurd q (by decide)) (fun _ => ?_)
  refine m_iinc F (v := 8) (lv' := [(2, .int 8), (1, .int 1), (0, .ref c)]) e_X10_wordHere_108 rfl (by decide) (by decide) rfl ?_
  refine m_goto F e_X10_wordHere_111 ?_
  refine m_ldcS F e_X10_wordHere_97 F.sw.1.2.2 ?_
  refine m_iload_n F rfl e_X10_wordHere_99 ?_
  refine m_callO F e_X10_wordHere_100 (q_charAt (x_l X) V _ _ 8 (by omega)) cb_J0_charAt_5068e ml_X10_137 im_J0_charAt_5068e se_J0_charAt_5068e F.sw.2.2.2.2.2.2.1 rfl (rest := []) rfl (Nat.le_of_ble_eq_true rfl) ⟨Nat.le_of_ble_eq_true rfl, Nat.le_of_ble_eq_true rfl⟩ ⟨Nat.le_of_ble_eq_true rfl, Nat.le_of_ble_eq_true rfl⟩ (k' := 0) (z' := 0) (N' := N) rfl rfl rfl (fun r σ11170 hp => ?_)
  obtain ⟨rfl, rfl⟩ := hp
  refine Wm.topE (w := 121) (by decide) ?_
  refine m_bipush F (v := 32) (by decide) e_X10_wordHere_103 ?_
  refine m_icmp_eq F e_X10_wordHere_105 (fun q => absurd q (by decide)) (fun _ => ?_)
  refine m_iinc F (v := 9) (lv' := [(2, .int 9), (1, .int 1), (0, .ref c)]) e_X10_wordHere_108 rfl (by decide) (by decide) rfl ?_
  refine m_goto F e_X10_wordHere_111 ?_
  refine m_ldcS F e_X10_wordHere_97 F.sw.1.2.2 ?_
  refine m_iload_n F rfl e_X10_wordHere_99 ?_
  refine m_callO F e_X10_wordHere_100 (q_charAt (x_l X) V _ _ 9 (by omega)) cb_J0_charAt_5068e ml_X10_137 im_J0_charAt_5068e se_J0_charAt_5068e F.sw.2.2.2.2.2.2.1 rfl (rest := []) rfl (Nat.le_of_ble_eq_true rfl) ⟨Nat.le_of_ble_eq_true rfl, Nat.le_of_ble_eq_true rfl⟩ ⟨Nat.le_of_ble_eq_true rfl, Nat.le_of_ble_eq_true rfl⟩ (k' := 0) (z' := 0) (N' := N) rfl rfl rfl (fun r σ11171 hp => ?_)
  obtain ⟨rfl, rfl⟩ := hp
  refine Wm.topE (w := 32) (by decide) ?_
  refine m_bipush F (v := 32) (by decide) e_X10_wordHere_103 ?_
  refine m_icmp_eq F e_X10_wordHere_105 (fun _ => ?_) (fun q => absurd (by decide) q)
  refine m_iinc F (v := 10) (lv' := [(2, .int 10), (1, .int 1), (0, .ref c)]) e_X10_wordHere_114 rfl (by decide) (by decide) rfl ?_
  refine m_iinc F (v := 2) (lv' := [(1, .int 2), (2, .int 10), (0, .ref c)]) e_X10_wordHere_117 rfl (by decide) (by decide) rfl ?_
  refine m_goto F e_X10_wordHere_120 ?_
  exact wh_2 F hQ h1 f20 hB hn7 hsa hpn hl (fun m9 h9 => if e9 : m9 = 1 then e9 ▸ hz else hm m9 (by omega))
set_option maxRecDepth 20000 in
theorem wh_1 {V : VX} {X : MX} {N : Nat} {σ : Mem} {c T Z u h : Nat} {P : NP} {L : Nat → LQ} {n st : Nat} {t : Nat → Nat} (F : Fx V X yX10_wordHere cX10_wordHere 4 (some .int) (rmd 4 0 0)) (hQ : Rt V X 0 0 N (fun r τ => HS V c (⟨T, Z, u, h, P, L⟩ : RG) [0, 1, 2, 3, 4, 5, 6, 7, 8, 9, 10, 11, 12, 13, 14, 15, 16, 17, 18, 19, 20, 21, 22, 23] σ τ ∧ ((P.a - st ≤ 6 ∧ kix (nmc t st P.a 6) < 9 ∧ r = some (.int (nI (kix (nmc t st P.a 6))))) ∨ (¬ (P.a - st ≤ 6 ∧ kix (nmc t st P.a 6) < 9) ∧ r = some (.int (-1)))))) (h1 : HS V c ⟨T, Z, u, h, P, L⟩ [0, 1, 2, 3, 4, 5, 6, 7, 8, 9, 10, 11, 12, 13, 14, 15, 16, 17, 18, 19, 20, 21, 22, 23] σ σ) (f20 : fld σ c 20 = some (.int (nI st))) (hB : BR σ c n t) (hn7 : n ≤ 700) (hsa : st < P.a) (hpn : P.a ≤ n) (hl : ∀ i, st ≤ i → i < P.a → isL (t i) = true) (hm : ∀ m, m < 1 → ¬ mw t st P.a m) : Wm V X 4 N σ 0 0 4 [(1, .int 1), (2, .int 6), (0, .ref c)] [] := by
  refine m_iload_n F rfl e_X10_wordHere_4 ?_
  refine m_ldcS F e_X10_wordHere_5 F.sw.1.2.2 ?_
  refine m_callO F e_X10_wordHere_7 (q_length (x_l X) V _ _) cb_J0_length_8abf5 ml_X10_132 im_J0_length_8abf5 se_J0_length_8abf5 F.sw.2.2.2.2.2.2.1 rfl (rest := [.int 6]) rfl (Nat.le_of_ble_eq_true rfl) ⟨Nat.le_of_ble_eq_true rfl, Nat.le_of_ble_eq_true rfl⟩ ⟨Nat.le_of_ble_eq_true rfl, Nat.le_of_ble_eq_true rfl⟩ (k' := 0) (z' := 0) (N' := N) rfl rfl rfl (fun r σ11172 hp => ?_)
  obtain ⟨rfl, rfl⟩ := hp
  refine m_icmp_ge F e_X10_wordHere_10 (fun q => absurd q (by decide)) (fun _ => ?_)
  refine m_iconst F (v := 0) (by decide) e_X10_wordHere_13 ?_
  refine m_istore_n F (lv' := [(3, .int 0), (1, .int 1), (2, .int 6), (0, .ref c)]) e_X10_wordHere_14 (by decide) rfl ?_
  refine m_ldcS F e_X10_wordHere_15 F.sw.1.2.2 ?_
  refine m_iload_n F rfl e_X10_wordHere_17 ?_
  refine m_iload_n F rfl e_X10_wordHere_18 ?_
  refine m_iadd F e_X10_wordHere_19 ?_
  refine Wm.topE (w := 6) (by decide) ?_
  refine m_callO F e_X10_wordHere_20 (q_charAt (x_l X) V _ _ 6 (by omega)) cb_J0_charAt_5068e ml_X10_137 im_J0_charAt_5068e se_J0_charAt_5068e F.sw.2.2.2.2.2.2.1 rfl (rest := []) rfl (Nat.le_of_ble_eq_true rfl) ⟨Nat.le_of_ble_eq_true rfl, Nat.le_of_ble_eq_true rfl⟩ ⟨Nat.le_of_ble_eq_true rfl, Nat.le_of_ble_eq_true rfl⟩ (k' := 0) (z' := 0) (N' := N) rfl rfl rfl (fun r σ11173 hp => ?_)
  obtain ⟨rfl, rfl⟩ := hp
  refine Wm.topE (w := 112) (by decide) ?_
  refine m_bipush F (v := 32) (by decide) e_X10_wordHere_23 ?_
  refine m_icmp_eq F e_X10_wordHere_25 (fun q => absurd q (by decide)) (fun _ => ?_)
  refine m_aload_n F rfl e_X10_wordHere_28 ?_
  refine r_getC F e_X10_wordHere_29 fl_X10_107 h1 (f20) ?_
  refine m_iload_n F rfl e_X10_wordHere_32 ?_
  refine m_iadd F e_X10_wordHere_33 ?_
  refine Wm.topE (w := nI st) (nI_add st 0) ?_
  refine m_aload_n F rfl e_X10_wordHere_34 ?_
  refine r_get F e_X10_wordHere_35 fl_X10_97 h1 rfl (fun v hv f11174 => ?_)
  obtain rfl : v = .int (nI (P.a)) := hv
  refine m_icmp_ge F e_X10_wordHere_38 (fun q38 => ?_) (fun q38 => ?_)
  · have c38 : st ≥ P.a := (nI_leI (a := P.a) (b := st) (by omega) (by omega)).mp q38
    refine m_ldcS F e_X10_wordHere_69 F.sw.1.2.2 ?_
    refine m_iload_n F rfl e_X10_wordHere_71 ?_
    refine m_iload_n F rfl e_X10_wordHere_72 ?_
    refine m_iadd F e_X10_wordHere_73 ?_
    refine Wm.topE (w := 6) (by decide) ?_
    refine m_callO F e_X10_wordHere_74 (q_charAt (x_l X) V _ _ 6 (by omega)) cb_J0_charAt_5068e ml_X10_137 im_J0_charAt_5068e se_J0_charAt_5068e F.sw.2.2.2.2.2.2.1 rfl (rest := []) rfl (Nat.le_of_ble_eq_true rfl) ⟨Nat.le_of_ble_eq_true rfl, Nat.le_of_ble_eq_true rfl⟩ ⟨Nat.le_of_ble_eq_true rfl, Nat.le_of_ble_eq_true rfl⟩ (k' := 0) (z' := 0) (N' := N) rfl rfl rfl (fun r σ11175 hp => ?_)
    obtain ⟨rfl, rfl⟩ := hp
    refine Wm.topE (w := 112) (by decide) ?_
    refine m_bipush F (v := 32) (by decide) e_X10_wordHere_77 ?_
    refine m_icmp_ne F e_X10_wordHere_79 (fun _ => ?_) (fun q => absurd q (by decide))
    refine Wm.lvsub (lv' := [(1, .int 1), (2, .int 6), (0, .ref c)]) ?_ [1, 2, 3] rfl
    exact wk_1 F hQ h1 f20 hB hn7 hsa hpn hl hm (fun hz => by have z1 : P.a = st + 3 := hz.1; have z2 : t (st) = 112 := hz.2 0 (by decide); omega)
  · have c38 : st < P.a := by have hh := mt (nI_leI (a := P.a) (b := st) (by omega) (by omega)).mpr q38; omega
    refine m_aload_n F rfl e_X10_wordHere_41 ?_
    refine r_get F e_X10_wordHere_42 fl_X10_7 h1 rfl (fun v hv f11176 => ?_)
    obtain rfl : v = .ref (c + 1) := hv
    refine m_aload_n F rfl e_X10_wordHere_45 ?_
    refine r_getC F e_X10_wordHere_46 fl_X10_107 h1 (f20) ?_
    refine m_iload_n F rfl e_X10_wordHere_49 ?_
    refine m_iadd F e_X10_wordHere_50 ?_
    refine Wm.topE (w := nI st) (nI_add st 0) ?_
    have hb11177 := (hB st (by omega)).1
    refine r_iald F (len := 700) (j := st) e_X10_wordHere_51 h1 (fun _ h => h) (by decide) (nI_clamp (by omega)) (vp_in_nI (by omega) (by decide)) (fun x11178 h11179 f11180 => ?_)
    obtain rfl := Option.some.inj ((f11180).symm.trans ((hB st (by omega)).2))
    refine m_ldcS F e_X10_wordHere_52 F.sw.1.2.2 ?_
    refine m_iload_n F rfl e_X10_wordHere_54 ?_
    refine m_iload_n F rfl e_X10_wordHere_55 ?_
    refine m_iadd F e_X10_wordHere_56 ?_
    refine Wm.topE (w := 6) (by decide) ?_
    refine m_callO F e_X10_wordHere_57 (q_charAt (x_l X) V _ _ 6 (by omega)) cb_J0_charAt_5068e ml_X10_137 im_J0_charAt_5068e se_J0_charAt_5068e F.sw.2.2.2.2.2.2.1 rfl (rest := [.int (nI (t st))]) rfl (Nat.le_of_ble_eq_true rfl) ⟨Nat.le_of_ble_eq_true rfl, Nat.le_of_ble_eq_true rfl⟩ ⟨Nat.le_of_ble_eq_true rfl, Nat.le_of_ble_eq_true rfl⟩ (k' := 0) (z' := 0) (N' := N) rfl rfl rfl (fun r σ11181 hp => ?_)
    obtain ⟨rfl, rfl⟩ := hp
    refine Wm.topE (w := 112) (by decide) ?_
    refine m_icmp_ne F e_X10_wordHere_60 (fun q60 => ?_) (fun q60 => ?_)
    · have c60 : (t st) ≠ 112 := by have hh := mt (nI_eq (a := (t st)) (b := 112) (by omega) (by omega)).mpr q60; omega
      refine m_ldcS F e_X10_wordHere_69 F.sw.1.2.2 ?_
      refine m_iload_n F rfl e_X10_wordHere_71 ?_
      refine m_iload_n F rfl e_X10_wordHere_72 ?_
      refine m_iadd F e_X10_wordHere_73 ?_
      refine Wm.topE (w := 6) (by decide) ?_
      refine m_callO F e_X10_wordHere_74 (q_charAt (x_l X) V _ _ 6 (by omega)) cb_J0_charAt_5068e ml_X10_137 im_J0_charAt_5068e se_J0_charAt_5068e F.sw.2.2.2.2.2.2.1 rfl (rest := []) rfl (Nat.le_of_ble_eq_true rfl) ⟨Nat.le_of_ble_eq_true rfl, Nat.le_of_ble_eq_true rfl⟩ ⟨Nat.le_of_ble_eq_true rfl, Nat.le_of_ble_eq_true rfl⟩ (k' := 0) (z' := 0) (N' := N) rfl rfl rfl (fun r σ11182 hp => ?_)
      obtain ⟨rfl, rfl⟩ := hp
      refine Wm.topE (w := 112) (by decide) ?_
      refine m_bipush F (v := 32) (by decide) e_X10_wordHere_77 ?_
      refine m_icmp_ne F e_X10_wordHere_79 (fun _ => ?_) (fun q => absurd q (by decide))
      refine Wm.lvsub (lv' := [(1, .int 1), (2, .int 6), (0, .ref c)]) ?_ [1, 2, 3] rfl
      exact wk_1 F hQ h1 f20 hB hn7 hsa hpn hl hm (fun hz => by have z1 : P.a = st + 3 := hz.1; have z2 : t (st) = 112 := hz.2 0 (by decide); omega)
    · have c60 : (t st) = 112 := (nI_eq (a := (t st)) (b := 112) (by omega) (by omega)).mp q60
      refine m_iinc F (v := 1) (lv' := [(3, .int 1), (1, .int 1), (2, .int 6), (0, .ref c)]) e_X10_wordHere_63 rfl (by decide) (by decide) rfl ?_
      refine m_goto F e_X10_wordHere_66 ?_
      refine m_ldcS F e_X10_wordHere_15 F.sw.1.2.2 ?_
      refine m_iload_n F rfl e_X10_wordHere_17 ?_
      refine m_iload_n F rfl e_X10_wordHere_18 ?_
      refine m_iadd F e_X10_wordHere_19 ?_
      refine Wm.topE (w := 7) (by decide) ?_
      refine m_callO F e_X10_wordHere_20 (q_charAt (x_l X) V _ _ 7 (by omega)) cb_J0_charAt_5068e ml_X10_137 im_J0_charAt_5068e se_J0_charAt_5068e F.sw.2.2.2.2.2.2.1 rfl (rest := []) rfl (Nat.le_of_ble_eq_true rfl) ⟨Nat.le_of_ble_eq_true rfl, Nat.le_of_ble_eq_true rfl⟩ ⟨Nat.le_of_ble_eq_true rfl, Nat.le_of_ble_eq_true rfl⟩ (k' := 0) (z' := 0) (N' := N) rfl rfl rfl (fun r σ11183 hp => ?_)
      obtain ⟨rfl, rfl⟩ := hp
      refine Wm.topE (w := 97) (by decide) ?_
      refine m_bipush F (v := 32) (by decide) e_X10_wordHere_23 ?_
      refine m_icmp_eq F e_X10_wordHere_25 (fun q => absurd q (by decide)) (fun _ => ?_)
      refine m_aload_n F rfl e_X10_wordHere_28 ?_
      refine r_getC F e_X10_wordHere_29 fl_X10_107 h1 (f20) ?_
      refine m_iload_n F rfl e_X10_wordHere_32 ?_
      refine m_iadd F e_X10_wordHere_33 ?_
      refine Wm.topE (w := nI (st + 1)) (nI_add st 1) ?_
      refine m_aload_n F rfl e_X10_wordHere_34 ?_
      refine r_getC F e_X10_wordHere_35 fl_X10_97 h1 (f11174) ?_
      refine m_icmp_ge F e_X10_wordHere_38 (fun q38 => ?_) (fun q38 => ?_)
      · have c38 : (st + 1) ≥ P.a := (nI_leI (a := P.a) (b := (st + 1)) (by omega) (by omega)).mp q38
        refine m_ldcS F e_X10_wordHere_69 F.sw.1.2.2 ?_
        refine m_iload_n F rfl e_X10_wordHere_71 ?_
        refine m_iload_n F rfl e_X10_wordHere_72 ?_
        refine m_iadd F e_X10_wordHere_73 ?_
        refine Wm.topE (w := 7) (by decide) ?_
        refine m_callO F e_X10_wordHere_74 (q_charAt (x_l X) V _ _ 7 (by omega)) cb_J0_charAt_5068e ml_X10_137 im_J0_charAt_5068e se_J0_charAt_5068e F.sw.2.2.2.2.2.2.1 rfl (rest := []) rfl (Nat.le_of_ble_eq_true rfl) ⟨Nat.le_of_ble_eq_true rfl, Nat.le_of_ble_eq_true rfl⟩ ⟨Nat.le_of_ble_eq_true rfl, Nat.le_of_ble_eq_true rfl⟩ (k' := 0) (z' := 0) (N' := N) rfl rfl rfl (fun r σ11184 hp => ?_)
        obtain ⟨rfl, rfl⟩ := hp
        refine Wm.topE (w := 97) (by decide) ?_
        refine m_bipush F (v := 32) (by decide) e_X10_wordHere_77 ?_
        refine m_icmp_ne F e_X10_wordHere_79 (fun _ => ?_) (fun q => absurd q (by decide))
        refine Wm.lvsub (lv' := [(1, .int 1), (2, .int 6), (0, .ref c)]) ?_ [1, 2, 3] rfl
        exact wk_1 F hQ h1 f20 hB hn7 hsa hpn hl hm (fun hz => by have z1 : P.a = st + 3 := hz.1; have z2 : t (st + 1) = 97 := hz.2 1 (by decide); omega)
      · have c38 : (st + 1) < P.a := by have hh := mt (nI_leI (a := P.a) (b := (st + 1)) (by omega) (by omega)).mpr q38; omega
        refine m_aload_n F rfl e_X10_wordHere_41 ?_
        refine r_getC F e_X10_wordHere_42 fl_X10_7 h1 (f11176) ?_
        refine m_aload_n F rfl e_X10_wordHere_45 ?_
        refine r_getC F e_X10_wordHere_46 fl_X10_107 h1 (f20) ?_
        refine m_iload_n F rfl e_X10_wordHere_49 ?_
        refine m_iadd F e_X10_wordHere_50 ?_
        refine Wm.topE (w := nI (st + 1)) (nI_add st 1) ?_
        have hb11185 := (hB (st + 1) (by omega)).1
        refine r_iald F (len := 700) (j := st + 1) e_X10_wordHere_51 h1 (fun _ h => h) (by decide) (nI_clamp (by omega)) (vp_in_nI (by omega) (by decide)) (fun x11186 h11187 f11188 => ?_)
        obtain rfl := Option.some.inj ((f11188).symm.trans ((hB (st + 1) (by omega)).2))
        refine m_ldcS F e_X10_wordHere_52 F.sw.1.2.2 ?_
        refine m_iload_n F rfl e_X10_wordHere_54 ?_
        refine m_iload_n F rfl e_X10_wordHere_55 ?_
        refine m_iadd F e_X10_wordHere_56 ?_
        refine Wm.topE (w := 7) (by decide) ?_
        refine m_callO F e_X10_wordHere_57 (q_charAt (x_l X) V _ _ 7 (by omega)) cb_J0_charAt_5068e ml_X10_137 im_J0_charAt_5068e se_J0_charAt_5068e F.sw.2.2.2.2.2.2.1 rfl (rest := [.int (nI (t (st + 1)))]) rfl (Nat.le_of_ble_eq_true rfl) ⟨Nat.le_of_ble_eq_true rfl, Nat.le_of_ble_eq_true rfl⟩ ⟨Nat.le_of_ble_eq_true rfl, Nat.le_of_ble_eq_true rfl⟩ (k' := 0) (z' := 0) (N' := N) rfl rfl rfl (fun r σ11189 hp => ?_)
        obtain ⟨rfl, rfl⟩ := hp
        refine Wm.topE (w := 97) (by decide) ?_
        refine m_icmp_ne F e_X10_wordHere_60 (fun q60 => ?_) (fun q60 => ?_)
        · have c60 : (t (st + 1)) ≠ 97 := by have hh := mt (nI_eq (a := (t (st + 1))) (b := 97) (by omega) (by omega)).mpr q60; omega
          refine m_ldcS F e_X10_wordHere_69 F.sw.1.2.2 ?_
          refine m_iload_n F rfl e_X10_wordHere_71 ?_
          refine m_iload_n F rfl e_X10_wordHere_72 ?_
          refine m_iadd F e_X10_wordHere_73 ?_
          refine Wm.topE (w := 7) (by decide) ?_
          refine m_callO F e_X10_wordHere_74 (q_charAt (x_l X) V _ _ 7 (by omega)) cb_J0_charAt_5068e ml_X10_137 im_J0_charAt_5068e se_J0_charAt_5068e F.sw.2.2.2.2.2.2.1 rfl (rest := []) rfl (Nat.le_of_ble_eq_true rfl) ⟨Nat.le_of_ble_eq_true rfl, Nat.le_of_ble_eq_true rfl⟩ ⟨Nat.le_of_ble_eq_true rfl, Nat.le_of_ble_eq_true rfl⟩ (k' := 0) (z' := 0) (N' := N) rfl rfl rfl (fun r σ11190 hp => ?_)
          obtain ⟨rfl, rfl⟩ := hp
          refine Wm.topE (w := 97) (by decide) ?_
          refine m_bipush F (v := 32) (by decide) e_X10_wordHere_77 ?_
          refine m_icmp_ne F e_X10_wordHere_79 (fun _ => ?_) (fun q => absurd q (by decide))
          refine Wm.lvsub (lv' := [(1, .int 1), (2, .int 6), (0, .ref c)]) ?_ [1, 2, 3] rfl
          exact wk_1 F hQ h1 f20 hB hn7 hsa hpn hl hm (fun hz => by have z1 : P.a = st + 3 := hz.1; have z2 : t (st + 1) = 97 := hz.2 1 (by decide); omega)
        · have c60 : (t (st + 1)) = 97 := (nI_eq (a := (t (st + 1))) (b := 97) (by omega) (by omega)).mp q60
          refine m_iinc F (v := 2) (lv' := [(3, .int 2), (1, .int 1), (2, .int 6), (0, .ref c)]) e_X10_wordHere_63 rfl (by decide) (by decide) rfl ?_
          refine m_goto F e_X10_wordHere_66 ?_
          refine m_ldcS F e_X10_wordHere_15 F.sw.1.2.2 ?_
          refine m_iload_n F rfl e_X10_wordHere_17 ?_
          refine m_iload_n F rfl e_X10_wordHere_18 ?_
          refine m_iadd F e_X10_wordHere_19 ?_
          refine Wm.topE (w := 8) (by decide) ?_
          refine m_callO F e_X10_wordHere_20 (q_charAt (x_l X) V _ _ 8 (by omega)) cb_J0_charAt_5068e ml_X10_137 im_J0_charAt_5068e se_J0_charAt_5068e F.sw.2.2.2.2.2.2.1 rfl (rest := []) rfl (Nat.le_of_ble_eq_true rfl) ⟨Nat.le_of_ble_eq_true rfl, Nat.le_of_ble_eq_true rfl⟩ ⟨Nat.le_of_ble_eq_true rfl, Nat.le_of_ble_eq_true rfl⟩ (k' := 0) (z' := 0) (N' := N) rfl rfl rfl (fun r σ11191 hp => ?_)
          obtain ⟨rfl, rfl⟩ := hp
          refine Wm.topE (w := 121) (by decide) ?_
          refine m_bipush F (v := 32) (by decide) e_X10_wordHere_23 ?_
          refine m_icmp_eq F e_X10_wordHere_25 (fun q => absurd q (by decide)) (fun _ => ?_)
          refine m_aload_n F rfl e_X10_wordHere_28 ?_
          refine r_getC F e_X10_wordHere_29 fl_X10_107 h1 (f20) ?_
          refine m_iload_n F rfl e_X10_wordHere_32 ?_
          refine m_iadd F e_X10_wordHere_33 ?_
          refine Wm.topE (w := nI (st + 2)) (nI_add st 2) ?_
          refine m_aload_n F rfl e_X10_wordHere_34 ?_
          refine r_getC F e_X10_wordHere_35 fl_X10_97 h1 (f11174) ?_
          refine m_icmp_ge F e_X10_wordHere_38 (fun q38 => ?_) (fun q38 => ?_)
          · have c38 : (st + 2) ≥ P.a := (nI_leI (a := P.a) (b := (st + 2)) (by omega) (by omega)).mp q38
            refine m_ldcS F e_X10_wordHere_69 F.sw.1.2.2 ?_
            refine m_iload_n F rfl e_X10_wordHere_71 ?_
            refine m_iload_n F rfl e_X10_wordHere_72 ?_
            refine m_iadd F e_X10_wordHere_73 ?_
            refine Wm.topE (w := 8) (by decide) ?_
            refine m_callO F e_X10_wordHere_74 (q_charAt (x_l X) V _ _ 8 (by omega)) cb_J0_charAt_5068e ml_X10_137 im_J0_charAt_5068e se_J0_charAt_5068e F.sw.2.2.2.2.2.2.1 rfl (rest := []) rfl (Nat.le_of_ble_eq_true rfl) ⟨Nat.le_of_ble_eq_true rfl, Nat.le_of_ble_eq_true rfl⟩ ⟨Nat.le_of_ble_eq_true rfl, Nat.le_of_ble_eq_true rfl⟩ (k' := 0) (z' := 0) (N' := N) rfl rfl rfl (fun r σ11192 hp => ?_)
            obtain ⟨rfl, rfl⟩ := hp
            refine Wm.topE (w := 121) (by decide) ?_
            refine m_bipush F (v := 32) (by decide) e_X10_wordHere_77 ?_
            refine m_icmp_ne F e_X10_wordHere_79 (fun _ => ?_) (fun q => absurd q (by decide))
            refine Wm.lvsub (lv' := [(1, .int 1), (2, .int 6), (0, .ref c)]) ?_ [1, 2, 3] rfl
            exact wk_1 F hQ h1 f20 hB hn7 hsa hpn hl hm (fun hz => by have z1 : P.a = st + 3 := hz.1; have z2 : t (st + 2) = 121 := hz.2 2 (by decide); omega)
          · have c38 : (st + 2) < P.a := by have hh := mt (nI_leI (a := P.a) (b := (st + 2)) (by omega) (by omega)).mpr q38; omega
            refine m_aload_n F rfl e_X10_wordHere_41 ?_
            refine r_getC F e_X10_wordHere_42 fl_X10_7 h1 (f11176) ?_
            refine m_aload_n F rfl e_X10_wordHere_45 ?_
            refine r_getC F e_X10_wordHere_46 fl_X10_107 h1 (f20) ?_
            refine m_iload_n F rfl e_X10_wordHere_49 ?_
            refine m_iadd F e_X10_wordHere_50 ?_
            refine Wm.topE (w := nI (st + 2)) (nI_add st 2) ?_
            have hb11193 := (hB (st + 2) (by omega)).1
            refine r_iald F (len := 700) (j := st + 2) e_X10_wordHere_51 h1 (fun _ h => h) (by decide) (nI_clamp (by omega)) (vp_in_nI (by omega) (by decide)) (fun x11194 h11195 f11196 => ?_)
            obtain rfl := Option.some.inj ((f11196).symm.trans ((hB (st + 2) (by omega)).2))
            refine m_ldcS F e_X10_wordHere_52 F.sw.1.2.2 ?_
            refine m_iload_n F rfl e_X10_wordHere_54 ?_
            refine m_iload_n F rfl e_X10_wordHere_55 ?_
            refine m_iadd F e_X10_wordHere_56 ?_
            refine Wm.topE (w := 8) (by decide) ?_
            refine m_callO F e_X10_wordHere_57 (q_charAt (x_l X) V _ _ 8 (by omega)) cb_J0_charAt_5068e ml_X10_137 im_J0_charAt_5068e se_J0_charAt_5068e F.sw.2.2.2.2.2.2.1 rfl (rest := [.int (nI (t (st + 2)))]) rfl (Nat.le_of_ble_eq_true rfl) ⟨Nat.le_of_ble_eq_true rfl, Nat.le_of_ble_eq_true rfl⟩ ⟨Nat.le_of_ble_eq_true rfl, Nat.le_of_ble_eq_true rfl⟩ (k' := 0) (z' := 0) (N' := N) rfl rfl rfl (fun r σ11197 hp => ?_)
            obtain ⟨rfl, rfl⟩ := hp
            refine Wm.topE (w := 121) (by decide) ?_
            refine m_icmp_ne F e_X10_wordHere_60 (fun q60 => ?_) (fun q60 => ?_)
            · have c60 : (t (st + 2)) ≠ 121 := by have hh := mt (nI_eq (a := (t (st + 2))) (b := 121) (by omega) (by omega)).mpr q60; omega
              refine m_ldcS F e_X10_wordHere_69 F.sw.1.2.2 ?_
              refine m_iload_n F rfl e_X10_wordHere_71 ?_
              refine m_iload_n F rfl e_X10_wordHere_72 ?_
              refine m_iadd F e_X10_wordHere_73 ?_
              refine Wm.topE (w := 8) (by decide) ?_
              refine m_callO F e_X10_wordHere_74 (q_charAt (x_l X) V _ _ 8 (by omega)) cb_J0_charAt_5068e ml_X10_137 im_J0_charAt_5068e se_J0_charAt_5068e F.sw.2.2.2.2.2.2.1 rfl (rest := []) rfl (Nat.le_of_ble_eq_true rfl) ⟨Nat.le_of_ble_eq_true rfl, Nat.le_of_ble_eq_true rfl⟩ ⟨Nat.le_of_ble_eq_true rfl, Nat.le_of_ble_eq_true rfl⟩ (k' := 0) (z' := 0) (N' := N) rfl rfl rfl (fun r σ11198 hp => ?_)
              obtain ⟨rfl, rfl⟩ := hp
              refine Wm.topE (w := 121) (by decide) ?_
              refine m_bipush F (v := 32) (by decide) e_X10_wordHere_77 ?_
              refine m_icmp_ne F e_X10_wordHere_79 (fun _ => ?_) (fun q => absurd q (by decide))
              refine Wm.lvsub (lv' := [(1, .int 1), (2, .int 6), (0, .ref c)]) ?_ [1, 2, 3] rfl
              exact wk_1 F hQ h1 f20 hB hn7 hsa hpn hl hm (fun hz => by have z1 : P.a = st + 3 := hz.1; have z2 : t (st + 2) = 121 := hz.2 2 (by decide); omega)
            · have c60 : (t (st + 2)) = 121 := (nI_eq (a := (t (st + 2))) (b := 121) (by omega) (by omega)).mp q60
              refine m_iinc F (v := 3) (lv' := [(3, .int 3), (1, .int 1), (2, .int 6), (0, .ref c)]) e_X10_wordHere_63 rfl (by decide) (by decide) rfl ?_
              refine m_goto F e_X10_wordHere_66 ?_
              refine m_ldcS F e_X10_wordHere_15 F.sw.1.2.2 ?_
              refine m_iload_n F rfl e_X10_wordHere_17 ?_
              refine m_iload_n F rfl e_X10_wordHere_18 ?_
              refine m_iadd F e_X10_wordHere_19 ?_
              refine Wm.topE (w := 9) (by decide) ?_
              refine m_callO F e_X10_wordHere_20 (q_charAt (x_l X) V _ _ 9 (by omega)) cb_J0_charAt_5068e ml_X10_137 im_J0_charAt_5068e se_J0_charAt_5068e F.sw.2.2.2.2.2.2.1 rfl (rest := []) rfl (Nat.le_of_ble_eq_true rfl) ⟨Nat.le_of_ble_eq_true rfl, Nat.le_of_ble_eq_true rfl⟩ ⟨Nat.le_of_ble_eq_true rfl, Nat.le_of_ble_eq_true rfl⟩ (k' := 0) (z' := 0) (N' := N) rfl rfl rfl (fun r σ11199 hp => ?_)
              obtain ⟨rfl, rfl⟩ := hp
              refine Wm.topE (w := 32) (by decide) ?_
              refine m_bipush F (v := 32) (by decide) e_X10_wordHere_23 ?_
              refine m_icmp_eq F e_X10_wordHere_25 (fun _ => ?_) (fun q => absurd (by decide) q)
              refine m_ldcS F e_X10_wordHere_69 F.sw.1.2.2 ?_
              refine m_iload_n F rfl e_X10_wordHere_71 ?_
              refine m_iload_n F rfl e_X10_wordHere_72 ?_
              refine m_iadd F e_X10_wordHere_73 ?_
              refine Wm.topE (w := 9) (by decide) ?_
              refine m_callO F e_X10_wordHere_74 (q_charAt (x_l X) V _ _ 9 (by omega)) cb_J0_charAt_5068e ml_X10_137 im_J0_charAt_5068e se_J0_charAt_5068e F.sw.2.2.2.2.2.2.1 rfl (rest := []) rfl (Nat.le_of_ble_eq_true rfl) ⟨Nat.le_of_ble_eq_true rfl, Nat.le_of_ble_eq_true rfl⟩ ⟨Nat.le_of_ble_eq_true rfl, Nat.le_of_ble_eq_true rfl⟩ (k' := 0) (z' := 0) (N' := N) rfl rfl rfl (fun r σ11200 hp => ?_)
              obtain ⟨rfl, rfl⟩ := hp
              refine Wm.topE (w := 32) (by decide) ?_
              refine m_bipush F (v := 32) (by decide) e_X10_wordHere_77 ?_
              refine m_icmp_ne F e_X10_wordHere_79 (fun q => absurd (by decide) q) (fun _ => ?_)
              refine m_aload_n F rfl e_X10_wordHere_82 ?_
              refine r_getC F e_X10_wordHere_83 fl_X10_107 h1 (f20) ?_
              refine m_iload_n F rfl e_X10_wordHere_86 ?_
              refine m_iadd F e_X10_wordHere_87 ?_
              refine Wm.topE (w := nI (st + 3)) (nI_add st 3) ?_
              refine m_aload_n F rfl e_X10_wordHere_88 ?_
              refine r_getC F e_X10_wordHere_89 fl_X10_97 h1 (f11174) ?_
              refine m_icmp_ne F e_X10_wordHere_92 (fun q92 => ?_) (fun q92 => ?_)
              · have c92 : (st + 3) ≠ P.a := by have hh := mt (nI_eq (a := (st + 3)) (b := P.a) (by omega) (by omega)).mpr q92; omega
                refine Wm.lvsub (lv' := [(1, .int 1), (2, .int 6), (0, .ref c)]) ?_ [1, 2, 3] rfl
                exact wk_1 F hQ h1 f20 hB hn7 hsa hpn hl hm (fun hz => by have z1 : P.a = st + 3 := hz.1; omega)
              · have c92 : (st + 3) = P.a := (nI_eq (a := (st + 3)) (b := P.a) (by omega) (by omega)).mp q92
                refine m_iload_n F rfl e_X10_wordHere_95 ?_
                have hz : mw t st P.a 1 := by
                  refine ⟨(show P.a = st + 3 by omega), fun i hi => ?_⟩
                  have hi2 : i = 0 ∨ i = 1 ∨ i = 2 := by have hi3 : i < 3 := hi; omega
                  rcases hi2 with rfl | rfl | rfl
                  · show t (st + 0) = 112; first | assumption | omega
                  · show t (st + 1) = 97; first | assumption | omega
                  · show t (st + 2) = 121; first | assumption | omega
                have hy := kix_mw hsa hl (by decide) hz
                exact m_iret F hQ e_X10_wordHere_96 ⟨h1, Or.inl ⟨hy.1, by rw [hy.2]; decide, by rw [hy.2]; rfl⟩⟩
set_option maxRecDepth 20000 in
theorem wk_0 {V : VX} {X : MX} {N : Nat} {σ : Mem} {c T Z u h : Nat} {P : NP} {L : Nat → LQ} {n st : Nat} {t : Nat → Nat} (F : Fx V X yX10_wordHere cX10_wordHere 4 (some .int) (rmd 4 0 0)) (hQ : Rt V X 0 0 N (fun r τ => HS V c (⟨T, Z, u, h, P, L⟩ : RG) [0, 1, 2, 3, 4, 5, 6, 7, 8, 9, 10, 11, 12, 13, 14, 15, 16, 17, 18, 19, 20, 21, 22, 23] σ τ ∧ ((P.a - st ≤ 6 ∧ kix (nmc t st P.a 6) < 9 ∧ r = some (.int (nI (kix (nmc t st P.a 6))))) ∨ (¬ (P.a - st ≤ 6 ∧ kix (nmc t st P.a 6) < 9) ∧ r = some (.int (-1)))))) (h1 : HS V c ⟨T, Z, u, h, P, L⟩ [0, 1, 2, 3, 4, 5, 6, 7, 8, 9, 10, 11, 12, 13, 14, 15, 16, 17, 18, 19, 20, 21, 22, 23] σ σ) (f20 : fld σ c 20 = some (.int (nI st))) (hB : BR σ c n t) (hn7 : n ≤ 700) (hsa : st < P.a) (hpn : P.a ≤ n) (hl : ∀ i, st ≤ i → i < P.a → isL (t i) = true) (hm : ∀ m, m < 0 → ¬ mw t st P.a m) (hz : ¬ mw t st P.a 0) : Wm V X 4 N σ 0 0 97 [(1, .int 0), (2, .int 0), (0, .ref c)] [] := by
  refine m_ldcS F e_X10_wordHere_97 F.sw.1.2.2 ?_
  refine m_iload_n F rfl e_X10_wordHere_99 ?_
  refine m_callO F e_X10_wordHere_100 (q_charAt (x_l X) V _ _ 0 (by omega)) cb_J0_charAt_5068e ml_X10_137 im_J0_charAt_5068e se_J0_charAt_5068e F.sw.2.2.2.2.2.2.1 rfl (rest := []) rfl (Nat.le_of_ble_eq_true rfl) ⟨Nat.le_of_ble_eq_true rfl, Nat.le_of_ble_eq_true rfl⟩ ⟨Nat.le_of_ble_eq_true rfl, Nat.le_of_ble_eq_true rfl⟩ (k' := 0) (z' := 0) (N' := N) rfl rfl rfl (fun r σ11201 hp => ?_)
  obtain ⟨rfl, rfl⟩ := hp
  refine Wm.topE (w := 108) (by decide) ?_
  refine m_bipush F (v := 32) (by decide) e_X10_wordHere_103 ?_
  refine m_icmp_eq F e_X10_wordHere_105 (fun q => absurd q (by decide)) (fun _ => ?_)
  refine m_iinc F (v := 1) (lv' := [(2, .int 1), (1, .int 0), (0, .ref c)]) e_X10_wordHere_108 rfl (by decide) (by decide) rfl ?_
  refine m_goto F e_X10_wordHere_111 ?_
  refine m_ldcS F e_X10_wordHere_97 F.sw.1.2.2 ?_
  refine m_iload_n F rfl e_X10_wordHere_99 ?_
  refine m_callO F e_X10_wordHere_100 (q_charAt (x_l X) V _ _ 1 (by omega)) cb_J0_charAt_5068e ml_X10_137 im_J0_charAt_5068e se_J0_charAt_5068e F.sw.2.2.2.2.2.2.1 rfl (rest := []) rfl (Nat.le_of_ble_eq_true rfl) ⟨Nat.le_of_ble_eq_true rfl, Nat.le_of_ble_eq_true rfl⟩ ⟨Nat.le_of_ble_eq_true rfl, Nat.le_of_ble_eq_true rfl⟩ (k' := 0) (z' := 0) (N' := N) rfl rfl rfl (fun r σ11202 hp => ?_)
  obtain ⟨rfl, rfl⟩ := hp
  refine Wm.topE (w := 101) (by decide) ?_
  refine m_bipush F (v := 32) (by decide) e_X10_wordHere_103 ?_
  refine m_icmp_eq F e_X10_wordHere_105 (fun q => absurd q (by decide)) (fun _ => ?_)
  refine m_iinc F (v := 2) (lv' := [(2, .int 2), (1, .int 0), (0, .ref c)]) e_X10_wordHere_108 rfl (by decide) (by decide) rfl ?_
  refine m_goto F e_X10_wordHere_111 ?_
  refine m_ldcS F e_X10_wordHere_97 F.sw.1.2.2 ?_
  refine m_iload_n F rfl e_X10_wordHere_99 ?_
  refine m_callO F e_X10_wordHere_100 (q_charAt (x_l X) V _ _ 2 (by omega)) cb_J0_charAt_5068e ml_X10_137 im_J0_charAt_5068e se_J0_charAt_5068e F.sw.2.2.2.2.2.2.1 rfl (rest := []) rfl (Nat.le_of_ble_eq_true rfl) ⟨Nat.le_of_ble_eq_true rfl, Nat.le_of_ble_eq_true rfl⟩ ⟨Nat.le_of_ble_eq_true rfl, Nat.le_of_ble_eq_true rfl⟩ (k' := 0) (z' := 0) (N' := N) rfl rfl rfl (fun r σ11203 hp => ?_)
  obtain ⟨rfl, rfl⟩ := hp
  refine Wm.topE (w := 97) (by decide) ?_
  refine m_bipush F (v := 32) (by decide) e_X10_wordHere_103 ?_
  refine m_icmp_eq F e_X10_wordHere_105 (fun q => absurd q (by decide)) (fun _ => ?_)
  refine m_iinc F (v := 3) (lv' := [(2, .int 3), (1, .int 0), (0, .ref c)]) e_X10_wordHere_108 rfl (by decide) (by decide) rfl ?_
  refine m_goto F e_X10_wordHere_111 ?_
  refine m_ldcS F e_X10_wordHere_97 F.sw.1.2.2 ?_
  refine m_iload_n F rfl e_X10_wordHere_99 ?_
  refine m_callO F e_X10_wordHere_100 (q_charAt (x_l X) V _ _ 3 (by omega)) cb_J0_charAt_5068e ml_X10_137 im_J0_charAt_5068e se_J0_charAt_5068e F.sw.2.2.2.2.2.2.1 rfl (rest := []) rfl (Nat.le_of_ble_eq_true rfl) ⟨Nat.le_of_ble_eq_true rfl, Nat.le_of_ble_eq_true rfl⟩ ⟨Nat.le_of_ble_eq_true rfl, Nat.le_of_ble_eq_true rfl⟩ (k' := 0) (z' := 0) (N' := N) rfl rfl rfl (fun r σ11204 hp => ?_)
  obtain ⟨rfl, rfl⟩ := hp
  refine Wm.topE (w := 115) (by decide) ?_
  refine m_bipush F (v := 32) (by decide) e_X10_wordHere_103 ?_
  refine m_icmp_eq F e_X10_wordHere_105 (fun q => absurd q (by decide)) (fun _ => ?_)
  refine m_iinc F (v := 4) (lv' := [(2, .int 4), (1, .int 0), (0, .ref c)]) e_X10_wordHere_108 rfl (by decide) (by decide) rfl ?_
  refine m_goto F e_X10_wordHere_111 ?_
  refine m_ldcS F e_X10_wordHere_97 F.sw.1.2.2 ?_
  refine m_iload_n F rfl e_X10_wordHere_99 ?_
  refine m_callO F e_X10_wordHere_100 (q_charAt (x_l X) V _ _ 4 (by omega)) cb_J0_charAt_5068e ml_X10_137 im_J0_charAt_5068e se_J0_charAt_5068e F.sw.2.2.2.2.2.2.1 rfl (rest := []) rfl (Nat.le_of_ble_eq_true rfl) ⟨Nat.le_of_ble_eq_true rfl, Nat.le_of_ble_eq_true rfl⟩ ⟨Nat.le_of_ble_eq_true rfl, Nat.le_of_ble_eq_true rfl⟩ (k' := 0) (z' := 0) (N' := N) rfl rfl rfl (fun r σ11205 hp => ?_)
  obtain ⟨rfl, rfl⟩ := hp
  refine Wm.topE (w := 101) (by decide) ?_
  refine m_bipush F (v := 32) (by decide) e_X10_wordHere_103 ?_
  refine m_icmp_eq F e_X10_wordHere_105 (fun q => absurd q (by decide)) (fun _ => ?_)
  refine m_iinc F (v := 5) (lv' := [(2, .int 5), (1, .int 0), (0, .ref c)]) e_X10_wordHere_108 rfl (by decide) (by decide) rfl ?_
  refine m_goto F e_X10_wordHere_111 ?_
  refine m_ldcS F e_X10_wordHere_97 F.sw.1.2.2 ?_
  refine m_iload_n F rfl e_X10_wordHere_99 ?_
  refine m_callO F e_X10_wordHere_100 (q_charAt (x_l X) V _ _ 5 (by omega)) cb_J0_charAt_5068e ml_X10_137 im_J0_charAt_5068e se_J0_charAt_5068e F.sw.2.2.2.2.2.2.1 rfl (rest := []) rfl (Nat.le_of_ble_eq_true rfl) ⟨Nat.le_of_ble_eq_true rfl, Nat.le_of_ble_eq_true rfl⟩ ⟨Nat.le_of_ble_eq_true rfl, Nat.le_of_ble_eq_true rfl⟩ (k' := 0) (z' := 0) (N' := N) rfl rfl rfl (fun r σ11206 hp => ?_)
  obtain ⟨rfl, rfl⟩ := hp
  refine Wm.topE (w := 32) (by decide) ?_
  refine m_bipush F (v := 32) (by decide) e_X10_wordHere_103 ?_
  refine m_icmp_eq F e_X10_wordHere_105 (fun _ => ?_) (fun q => absurd (by decide) q)
  refine m_iinc F (v := 6) (lv' := [(2, .int 6), (1, .int 0), (0, .ref c)]) e_X10_wordHere_114 rfl (by decide) (by decide) rfl ?_
  refine m_iinc F (v := 1) (lv' := [(1, .int 1), (2, .int 6), (0, .ref c)]) e_X10_wordHere_117 rfl (by decide) (by decide) rfl ?_
  refine m_goto F e_X10_wordHere_120 ?_
  exact wh_1 F hQ h1 f20 hB hn7 hsa hpn hl (fun m9 h9 => if e9 : m9 = 0 then e9 ▸ hz else hm m9 (by omega))
set_option maxRecDepth 20000 in
theorem wh_0 {V : VX} {X : MX} {N : Nat} {σ : Mem} {c T Z u h : Nat} {P : NP} {L : Nat → LQ} {n st : Nat} {t : Nat → Nat} (F : Fx V X yX10_wordHere cX10_wordHere 4 (some .int) (rmd 4 0 0)) (hQ : Rt V X 0 0 N (fun r τ => HS V c (⟨T, Z, u, h, P, L⟩ : RG) [0, 1, 2, 3, 4, 5, 6, 7, 8, 9, 10, 11, 12, 13, 14, 15, 16, 17, 18, 19, 20, 21, 22, 23] σ τ ∧ ((P.a - st ≤ 6 ∧ kix (nmc t st P.a 6) < 9 ∧ r = some (.int (nI (kix (nmc t st P.a 6))))) ∨ (¬ (P.a - st ≤ 6 ∧ kix (nmc t st P.a 6) < 9) ∧ r = some (.int (-1)))))) (h1 : HS V c ⟨T, Z, u, h, P, L⟩ [0, 1, 2, 3, 4, 5, 6, 7, 8, 9, 10, 11, 12, 13, 14, 15, 16, 17, 18, 19, 20, 21, 22, 23] σ σ) (f20 : fld σ c 20 = some (.int (nI st))) (hB : BR σ c n t) (hn7 : n ≤ 700) (hsa : st < P.a) (hpn : P.a ≤ n) (hl : ∀ i, st ≤ i → i < P.a → isL (t i) = true) (hm : ∀ m, m < 0 → ¬ mw t st P.a m) : Wm V X 4 N σ 0 0 4 [(1, .int 0), (2, .int 0), (0, .ref c)] [] := by
  refine m_iload_n F rfl e_X10_wordHere_4 ?_
  refine m_ldcS F e_X10_wordHere_5 F.sw.1.2.2 ?_
  refine m_callO F e_X10_wordHere_7 (q_length (x_l X) V _ _) cb_J0_length_8abf5 ml_X10_132 im_J0_length_8abf5 se_J0_length_8abf5 F.sw.2.2.2.2.2.2.1 rfl (rest := [.int 0]) rfl (Nat.le_of_ble_eq_true rfl) ⟨Nat.le_of_ble_eq_true rfl, Nat.le_of_ble_eq_true rfl⟩ ⟨Nat.le_of_ble_eq_true rfl, Nat.le_of_ble_eq_true rfl⟩ (k' := 0) (z' := 0) (N' := N) rfl rfl rfl (fun r σ11207 hp => ?_)
  obtain ⟨rfl, rfl⟩ := hp
  refine m_icmp_ge F e_X10_wordHere_10 (fun q => absurd q (by decide)) (fun _ => ?_)
  refine m_iconst F (v := 0) (by decide) e_X10_wordHere_13 ?_
  refine m_istore_n F (lv' := [(3, .int 0), (1, .int 0), (2, .int 0), (0, .ref c)]) e_X10_wordHere_14 (by decide) rfl ?_
  refine m_ldcS F e_X10_wordHere_15 F.sw.1.2.2 ?_
  refine m_iload_n F rfl e_X10_wordHere_17 ?_
  refine m_iload_n F rfl e_X10_wordHere_18 ?_
  refine m_iadd F e_X10_wordHere_19 ?_
  refine Wm.topE (w := 0) (by decide) ?_
  refine m_callO F e_X10_wordHere_20 (q_charAt (x_l X) V _ _ 0 (by omega)) cb_J0_charAt_5068e ml_X10_137 im_J0_charAt_5068e se_J0_charAt_5068e F.sw.2.2.2.2.2.2.1 rfl (rest := []) rfl (Nat.le_of_ble_eq_true rfl) ⟨Nat.le_of_ble_eq_true rfl, Nat.le_of_ble_eq_true rfl⟩ ⟨Nat.le_of_ble_eq_true rfl, Nat.le_of_ble_eq_true rfl⟩ (k' := 0) (z' := 0) (N' := N) rfl rfl rfl (fun r σ11208 hp => ?_)
  obtain ⟨rfl, rfl⟩ := hp
  refine Wm.topE (w := 108) (by decide) ?_
  refine m_bipush F (v := 32) (by decide) e_X10_wordHere_23 ?_
  refine m_icmp_eq F e_X10_wordHere_25 (fun q => absurd q (by decide)) (fun _ => ?_)
  refine m_aload_n F rfl e_X10_wordHere_28 ?_
  refine r_getC F e_X10_wordHere_29 fl_X10_107 h1 (f20) ?_
  refine m_iload_n F rfl e_X10_wordHere_32 ?_
  refine m_iadd F e_X10_wordHere_33 ?_
  refine Wm.topE (w := nI st) (nI_add st 0) ?_
  refine m_aload_n F rfl e_X10_wordHere_34 ?_
  refine r_get F e_X10_wordHere_35 fl_X10_97 h1 rfl (fun v hv f11209 => ?_)
  obtain rfl : v = .int (nI (P.a)) := hv
  refine m_icmp_ge F e_X10_wordHere_38 (fun q38 => ?_) (fun q38 => ?_)
  · have c38 : st ≥ P.a := (nI_leI (a := P.a) (b := st) (by omega) (by omega)).mp q38
    refine m_ldcS F e_X10_wordHere_69 F.sw.1.2.2 ?_
    refine m_iload_n F rfl e_X10_wordHere_71 ?_
    refine m_iload_n F rfl e_X10_wordHere_72 ?_
    refine m_iadd F e_X10_wordHere_73 ?_
    refine Wm.topE (w := 0) (by decide) ?_
    refine m_callO F e_X10_wordHere_74 (q_charAt (x_l X) V _ _ 0 (by omega)) cb_J0_charAt_5068e ml_X10_137 im_J0_charAt_5068e se_J0_charAt_5068e F.sw.2.2.2.2.2.2.1 rfl (rest := []) rfl (Nat.le_of_ble_eq_true rfl) ⟨Nat.le_of_ble_eq_true rfl, Nat.le_of_ble_eq_true rfl⟩ ⟨Nat.le_of_ble_eq_true rfl, Nat.le_of_ble_eq_true rfl⟩ (k' := 0) (z' := 0) (N' := N) rfl rfl rfl (fun r σ11210 hp => ?_)
    obtain ⟨rfl, rfl⟩ := hp
    refine Wm.topE (w := 108) (by decide) ?_
    refine m_bipush F (v := 32) (by decide) e_X10_wordHere_77 ?_
    refine m_icmp_ne F e_X10_wordHere_79 (fun _ => ?_) (fun q => absurd q (by decide))
    refine Wm.lvsub (lv' := [(1, .int 0), (2, .int 0), (0, .ref c)]) ?_ [1, 2, 3] rfl
    exact wk_0 F hQ h1 f20 hB hn7 hsa hpn hl hm (fun hz => by have z1 : P.a = st + 5 := hz.1; have z2 : t (st) = 108 := hz.2 0 (by decide); omega)
  · have c38 : st < P.a := by have hh := mt (nI_leI (a := P.a) (b := st) (by omega) (by omega)).mpr q38; omega
    refine m_aload_n F rfl e_X10_wordHere_41 ?_
    refine r_get F e_X10_wordHere_42 fl_X10_7 h1 rfl (fun v hv f11211 => ?_)
    obtain rfl : v = .ref (c + 1) := hv
    refine m_aload_n F rfl e_X10_wordHere_45 ?_
    refine r_getC F e_X10_wordHere_46 fl_X10_107 h1 (f20) ?_
    refine m_iload_n F rfl e_X10_wordHere_49 ?_
    refine m_iadd F e_X10_wordHere_50 ?_
    refine Wm.topE (w := nI st) (nI_add st 0) ?_
    have hb11212 := (hB st (by omega)).1
    refine r_iald F (len := 700) (j := st) e_X10_wordHere_51 h1 (fun _ h => h) (by decide) (nI_clamp (by omega)) (vp_in_nI (by omega) (by decide)) (fun x11213 h11214 f11215 => ?_)
    obtain rfl := Option.some.inj ((f11215).symm.trans ((hB st (by omega)).2))
    refine m_ldcS F e_X10_wordHere_52 F.sw.1.2.2 ?_
    refine m_iload_n F rfl e_X10_wordHere_54 ?_
    refine m_iload_n F rfl e_X10_wordHere_55 ?_
    refine m_iadd F e_X10_wordHere_56 ?_
    refine Wm.topE (w := 0) (by decide) ?_
    refine m_callO F e_X10_wordHere_57 (q_charAt (x_l X) V _ _ 0 (by omega)) cb_J0_charAt_5068e ml_X10_137 im_J0_charAt_5068e se_J0_charAt_5068e F.sw.2.2.2.2.2.2.1 rfl (rest := [.int (nI (t st))]) rfl (Nat.le_of_ble_eq_true rfl) ⟨Nat.le_of_ble_eq_true rfl, Nat.le_of_ble_eq_true rfl⟩ ⟨Nat.le_of_ble_eq_true rfl, Nat.le_of_ble_eq_true rfl⟩ (k' := 0) (z' := 0) (N' := N) rfl rfl rfl (fun r σ11216 hp => ?_)
    obtain ⟨rfl, rfl⟩ := hp
    refine Wm.topE (w := 108) (by decide) ?_
    refine m_icmp_ne F e_X10_wordHere_60 (fun q60 => ?_) (fun q60 => ?_)
    · have c60 : (t st) ≠ 108 := by have hh := mt (nI_eq (a := (t st)) (b := 108) (by omega) (by omega)).mpr q60; omega
      refine m_ldcS F e_X10_wordHere_69 F.sw.1.2.2 ?_
      refine m_iload_n F rfl e_X10_wordHere_71 ?_
      refine m_iload_n F rfl e_X10_wordHere_72 ?_
      refine m_iadd F e_X10_wordHere_73 ?_
      refine Wm.topE (w := 0) (by decide) ?_
      refine m_callO F e_X10_wordHere_74 (q_charAt (x_l X) V _ _ 0 (by omega)) cb_J0_charAt_5068e ml_X10_137 im_J0_charAt_5068e se_J0_charAt_5068e F.sw.2.2.2.2.2.2.1 rfl (rest := []) rfl (Nat.le_of_ble_eq_true rfl) ⟨Nat.le_of_ble_eq_true rfl, Nat.le_of_ble_eq_true rfl⟩ ⟨Nat.le_of_ble_eq_true rfl, Nat.le_of_ble_eq_true rfl⟩ (k' := 0) (z' := 0) (N' := N) rfl rfl rfl (fun r σ11217 hp => ?_)
      obtain ⟨rfl, rfl⟩ := hp
      refine Wm.topE (w := 108) (by decide) ?_
      refine m_bipush F (v := 32) (by decide) e_X10_wordHere_77 ?_
      refine m_icmp_ne F e_X10_wordHere_79 (fun _ => ?_) (fun q => absurd q (by decide))
      refine Wm.lvsub (lv' := [(1, .int 0), (2, .int 0), (0, .ref c)]) ?_ [1, 2, 3] rfl
      exact wk_0 F hQ h1 f20 hB hn7 hsa hpn hl hm (fun hz => by have z1 : P.a = st + 5 := hz.1; have z2 : t (st) = 108 := hz.2 0 (by decide); omega)
    · have c60 : (t st) = 108 := (nI_eq (a := (t st)) (b := 108) (by omega) (by omega)).mp q60
      refine m_iinc F (v := 1) (lv' := [(3, .int 1), (1, .int 0), (2, .int 0), (0, .ref c)]) e_X10_wordHere_63 rfl (by decide) (by decide) rfl ?_
      refine m_goto F e_X10_wordHere_66 ?_
      refine m_ldcS F e_X10_wordHere_15 F.sw.1.2.2 ?_
      refine m_iload_n F rfl e_X10_wordHere_17 ?_
      refine m_iload_n F rfl e_X10_wordHere_18 ?_
      refine m_iadd F e_X10_wordHere_19 ?_
      refine Wm.topE (w := 1) (by decide) ?_
      refine m_callO F e_X10_wordHere_20 (q_charAt (x_l X) V _ _ 1 (by omega)) cb_J0_charAt_5068e ml_X10_137 im_J0_charAt_5068e se_J0_charAt_5068e F.sw.2.2.2.2.2.2.1 rfl (rest := []) rfl (Nat.le_of_ble_eq_true rfl) ⟨Nat.le_of_ble_eq_true rfl, Nat.le_of_ble_eq_true rfl⟩ ⟨Nat.le_of_ble_eq_true rfl, Nat.le_of_ble_eq_true rfl⟩ (k' := 0) (z' := 0) (N' := N) rfl rfl rfl (fun r σ11218 hp => ?_)
      obtain ⟨rfl, rfl⟩ := hp
      refine Wm.topE (w := 101) (by decide) ?_
      refine m_bipush F (v := 32) (by decide) e_X10_wordHere_23 ?_
      refine m_icmp_eq F e_X10_wordHere_25 (fun q => absurd q (by decide)) (fun _ => ?_)
      refine m_aload_n F rfl e_X10_wordHere_28 ?_
      refine r_getC F e_X10_wordHere_29 fl_X10_107 h1 (f20) ?_
      refine m_iload_n F rfl e_X10_wordHere_32 ?_
      refine m_iadd F e_X10_wordHere_33 ?_
      refine Wm.topE (w := nI (st + 1)) (nI_add st 1) ?_
      refine m_aload_n F rfl e_X10_wordHere_34 ?_
      refine r_getC F e_X10_wordHere_35 fl_X10_97 h1 (f11209) ?_
      refine m_icmp_ge F e_X10_wordHere_38 (fun q38 => ?_) (fun q38 => ?_)
      · have c38 : (st + 1) ≥ P.a := (nI_leI (a := P.a) (b := (st + 1)) (by omega) (by omega)).mp q38
        refine m_ldcS F e_X10_wordHere_69 F.sw.1.2.2 ?_
        refine m_iload_n F rfl e_X10_wordHere_71 ?_
        refine m_iload_n F rfl e_X10_wordHere_72 ?_
        refine m_iadd F e_X10_wordHere_73 ?_
        refine Wm.topE (w := 1) (by decide) ?_
        refine m_callO F e_X10_wordHere_74 (q_charAt (x_l X) V _ _ 1 (by omega)) cb_J0_charAt_5068e ml_X10_137 im_J0_charAt_5068e se_J0_charAt_5068e F.sw.2.2.2.2.2.2.1 rfl (rest := []) rfl (Nat.le_of_ble_eq_true rfl) ⟨Nat.le_of_ble_eq_true rfl, Nat.le_of_ble_eq_true rfl⟩ ⟨Nat.le_of_ble_eq_true rfl, Nat.le_of_ble_eq_true rfl⟩ (k' := 0) (z' := 0) (N' := N) rfl rfl rfl (fun r σ11219 hp => ?_)
        obtain ⟨rfl, rfl⟩ := hp
        refine Wm.topE (w := 101) (by decide) ?_
        refine m_bipush F (v := 32) (by decide) e_X10_wordHere_77 ?_
        refine m_icmp_ne F e_X10_wordHere_79 (fun _ => ?_) (fun q => absurd q (by decide))
        refine Wm.lvsub (lv' := [(1, .int 0), (2, .int 0), (0, .ref c)]) ?_ [1, 2, 3] rfl
        exact wk_0 F hQ h1 f20 hB hn7 hsa hpn hl hm (fun hz => by have z1 : P.a = st + 5 := hz.1; have z2 : t (st + 1) = 101 := hz.2 1 (by decide); omega)
      · have c38 : (st + 1) < P.a := by have hh := mt (nI_leI (a := P.a) (b := (st + 1)) (by omega) (by omega)).mpr q38; omega
        refine m_aload_n F rfl e_X10_wordHere_41 ?_
        refine r_getC F e_X10_wordHere_42 fl_X10_7 h1 (f11211) ?_
        refine m_aload_n F rfl e_X10_wordHere_45 ?_
        refine r_getC F e_X10_wordHere_46 fl_X10_107 h1 (f20) ?_
        refine m_iload_n F rfl e_X10_wordHere_49 ?_
        refine m_iadd F e_X10_wordHere_50 ?_
        refine Wm.topE (w := nI (st + 1)) (nI_add st 1) ?_
        have hb11220 := (hB (st + 1) (by omega)).1
        refine r_iald F (len := 700) (j := st + 1) e_X10_wordHere_51 h1 (fun _ h => h) (by decide) (nI_clamp (by omega)) (vp_in_nI (by omega) (by decide)) (fun x11221 h11222 f11223 => ?_)
        obtain rfl := Option.some.inj ((f11223).symm.trans ((hB (st + 1) (by omega)).2))
        refine m_ldcS F e_X10_wordHere_52 F.sw.1.2.2 ?_
        refine m_iload_n F rfl e_X10_wordHere_54 ?_
        refine m_iload_n F rfl e_X10_wordHere_55 ?_
        refine m_iadd F e_X10_wordHere_56 ?_
        refine Wm.topE (w := 1) (by decide) ?_
        refine m_callO F e_X10_wordHere_57 (q_charAt (x_l X) V _ _ 1 (by omega)) cb_J0_charAt_5068e ml_X10_137 im_J0_charAt_5068e se_J0_charAt_5068e F.sw.2.2.2.2.2.2.1 rfl (rest := [.int (nI (t (st + 1)))]) rfl (Nat.le_of_ble_eq_true rfl) ⟨Nat.le_of_ble_eq_true rfl, Nat.le_of_ble_eq_true rfl⟩ ⟨Nat.le_of_ble_eq_true rfl, Nat.le_of_ble_eq_true rfl⟩ (k' := 0) (z' := 0) (N' := N) rfl rfl rfl (fun r σ11224 hp => ?_)
        obtain ⟨rfl, rfl⟩ := hp
        refine Wm.topE (w := 101) (by decide) ?_
        refine m_icmp_ne F e_X10_wordHere_60 (fun q60 => ?_) (fun q60 => ?_)
        · have c60 : (t (st + 1)) ≠ 101 := by have hh := mt (nI_eq (a := (t (st + 1))) (b := 101) (by omega) (by omega)).mpr q60; omega
          refine m_ldcS F e_X10_wordHere_69 F.sw.1.2.2 ?_
          refine m_iload_n F rfl e_X10_wordHere_71 ?_
          refine m_iload_n F rfl e_X10_wordHere_72 ?_
          refine m_iadd F e_X10_wordHere_73 ?_
          refine Wm.topE (w := 1) (by decide) ?_
          refine m_callO F e_X10_wordHere_74 (q_charAt (x_l X) V _ _ 1 (by omega)) cb_J0_charAt_5068e ml_X10_137 im_J0_charAt_5068e se_J0_charAt_5068e F.sw.2.2.2.2.2.2.1 rfl (rest := []) rfl (Nat.le_of_ble_eq_true rfl) ⟨Nat.le_of_ble_eq_true rfl, Nat.le_of_ble_eq_true rfl⟩ ⟨Nat.le_of_ble_eq_true rfl, Nat.le_of_ble_eq_true rfl⟩ (k' := 0) (z' := 0) (N' := N) rfl rfl rfl (fun r σ11225 hp => ?_)
          obtain ⟨rfl, rfl⟩ := hp
          refine Wm.topE (w := 101) (by decide) ?_
          refine m_bipush F (v := 32) (by decide) e_X10_wordHere_77 ?_
          refine m_icmp_ne F e_X10_wordHere_79 (fun _ => ?_) (fun q => absurd q (by decide))
          refine Wm.lvsub (lv' := [(1, .int 0), (2, .int 0), (0, .ref c)]) ?_ [1, 2, 3] rfl
          exact wk_0 F hQ h1 f20 hB hn7 hsa hpn hl hm (fun hz => by have z1 : P.a = st + 5 := hz.1; have z2 : t (st + 1) = 101 := hz.2 1 (by decide); omega)
        · have c60 : (t (st + 1)) = 101 := (nI_eq (a := (t (st + 1))) (b := 101) (by omega) (by omega)).mp q60
          refine m_iinc F (v := 2) (lv' := [(3, .int 2), (1, .int 0), (2, .int 0), (0, .ref c)]) e_X10_wordHere_63 rfl (by decide) (by decide) rfl ?_
          refine m_goto F e_X10_wordHere_66 ?_
          refine m_ldcS F e_X10_wordHere_15 F.sw.1.2.2 ?_
          refine m_iload_n F rfl e_X10_wordHere_17 ?_
          refine m_iload_n F rfl e_X10_wordHere_18 ?_
          refine m_iadd F e_X10_wordHere_19 ?_
          refine Wm.topE (w := 2) (by decide) ?_
          refine m_callO F e_X10_wordHere_20 (q_charAt (x_l X) V _ _ 2 (by omega)) cb_J0_charAt_5068e ml_X10_137 im_J0_charAt_5068e se_J0_charAt_5068e F.sw.2.2.2.2.2.2.1 rfl (rest := []) rfl (Nat.le_of_ble_eq_true rfl) ⟨Nat.le_of_ble_eq_true rfl, Nat.le_of_ble_eq_true rfl⟩ ⟨Nat.le_of_ble_eq_true rfl, Nat.le_of_ble_eq_true rfl⟩ (k' := 0) (z' := 0) (N' := N) rfl rfl rfl (fun r σ11226 hp => ?_)
          obtain ⟨rfl, rfl⟩ := hp
          refine Wm.topE (w := 97) (by decide) ?_
          refine m_bipush F (v := 32) (by decide) e_X10_wordHere_23 ?_
          refine m_icmp_eq F e_X10_wordHere_25 (fun q => absurd q (by decide)) (fun _ => ?_)
          refine m_aload_n F rfl e_X10_wordHere_28 ?_
          refine r_getC F e_X10_wordHere_29 fl_X10_107 h1 (f20) ?_
          refine m_iload_n F rfl e_X10_wordHere_32 ?_
          refine m_iadd F e_X10_wordHere_33 ?_
          refine Wm.topE (w := nI (st + 2)) (nI_add st 2) ?_
          refine m_aload_n F rfl e_X10_wordHere_34 ?_
          refine r_getC F e_X10_wordHere_35 fl_X10_97 h1 (f11209) ?_
          refine m_icmp_ge F e_X10_wordHere_38 (fun q38 => ?_) (fun q38 => ?_)
          · have c38 : (st + 2) ≥ P.a := (nI_leI (a := P.a) (b := (st + 2)) (by omega) (by omega)).mp q38
            refine m_ldcS F e_X10_wordHere_69 F.sw.1.2.2 ?_
            refine m_iload_n F rfl e_X10_wordHere_71 ?_
            refine m_iload_n F rfl e_X10_wordHere_72 ?_
            refine m_iadd F e_X10_wordHere_73 ?_
            refine Wm.topE (w := 2) (by decide) ?_
            refine m_callO F e_X10_wordHere_74 (q_charAt (x_l X) V _ _ 2 (by omega)) cb_J0_charAt_5068e ml_X10_137 im_J0_charAt_5068e se_J0_charAt_5068e F.sw.2.2.2.2.2.2.1 rfl (rest := []) rfl (Nat.le_of_ble_eq_true rfl) ⟨Nat.le_of_ble_eq_true rfl, Nat.le_of_ble_eq_true rfl⟩ ⟨Nat.le_of_ble_eq_true rfl, Nat.le_of_ble_eq_true rfl⟩ (k' := 0) (z' := 0) (N' := N) rfl rfl rfl (fun r σ11227 hp => ?_)
            obtain ⟨rfl, rfl⟩ := hp
            refine Wm.topE (w := 97) (by decide) ?_
            refine m_bipush F (v := 32) (by decide) e_X10_wordHere_77 ?_
            refine m_icmp_ne F e_X10_wordHere_79 (fun _ => ?_) (fun q => absurd q (by decide))
            refine Wm.lvsub (lv' := [(1, .int 0), (2, .int 0), (0, .ref c)]) ?_ [1, 2, 3] rfl
            exact wk_0 F hQ h1 f20 hB hn7 hsa hpn hl hm (fun hz => by have z1 : P.a = st + 5 := hz.1; have z2 : t (st + 2) = 97 := hz.2 2 (by decide); omega)
          · have c38 : (st + 2) < P.a := by have hh := mt (nI_leI (a := P.a) (b := (st + 2)) (by omega) (by omega)).mpr q38; omega
            refine m_aload_n F rfl e_X10_wordHere_41 ?_
            refine r_getC F e_X10_wordHere_42 fl_X10_7 h1 (f11211) ?_
            refine m_aload_n F rfl e_X10_wordHere_45 ?_
            refine r_getC F e_X10_wordHere_46 fl_X10_107 h1 (f20) ?_
            refine m_iload_n F rfl e_X10_wordHere_49 ?_
            refine m_iadd F e_X10_wordHere_50 ?_
            refine Wm.topE (w := nI (st + 2)) (nI_add st 2) ?_
            have hb11228 := (hB (st + 2) (by omega)).1
            refine r_iald F (len := 700) (j := st + 2) e_X10_wordHere_51 h1 (fun _ h => h) (by decide) (nI_clamp (by omega)) (vp_in_nI (by omega) (by decide)) (fun x11229 h11230 f11231 => ?_)
            obtain rfl := Option.some.inj ((f11231).symm.trans ((hB (st + 2) (by omega)).2))
            refine m_ldcS F e_X10_wordHere_52 F.sw.1.2.2 ?_
            refine m_iload_n F rfl e_X10_wordHere_54 ?_
            refine m_iload_n F rfl e_X10_wordHere_55 ?_
            refine m_iadd F e_X10_wordHere_56 ?_
            refine Wm.topE (w := 2) (by decide) ?_
            refine m_callO F e_X10_wordHere_57 (q_charAt (x_l X) V _ _ 2 (by omega)) cb_J0_charAt_5068e ml_X10_137 im_J0_charAt_5068e se_J0_charAt_5068e F.sw.2.2.2.2.2.2.1 rfl (rest := [.int (nI (t (st + 2)))]) rfl (Nat.le_of_ble_eq_true rfl) ⟨Nat.le_of_ble_eq_true rfl, Nat.le_of_ble_eq_true rfl⟩ ⟨Nat.le_of_ble_eq_true rfl, Nat.le_of_ble_eq_true rfl⟩ (k' := 0) (z' := 0) (N' := N) rfl rfl rfl (fun r σ11232 hp => ?_)
            obtain ⟨rfl, rfl⟩ := hp
            refine Wm.topE (w := 97) (by decide) ?_
            refine m_icmp_ne F e_X10_wordHere_60 (fun q60 => ?_) (fun q60 => ?_)
            · have c60 : (t (st + 2)) ≠ 97 := by have hh := mt (nI_eq (a := (t (st + 2))) (b := 97) (by omega) (by omega)).mpr q60; omega
              refine m_ldcS F e_X10_wordHere_69 F.sw.1.2.2 ?_
              refine m_iload_n F rfl e_X10_wordHere_71 ?_
              refine m_iload_n F rfl e_X10_wordHere_72 ?_
              refine m_iadd F e_X10_wordHere_73 ?_
              refine Wm.topE (w := 2) (by decide) ?_
              refine m_callO F e_X10_wordHere_74 (q_charAt (x_l X) V _ _ 2 (by omega)) cb_J0_charAt_5068e ml_X10_137 im_J0_charAt_5068e se_J0_charAt_5068e F.sw.2.2.2.2.2.2.1 rfl (rest := []) rfl (Nat.le_of_ble_eq_true rfl) ⟨Nat.le_of_ble_eq_true rfl, Nat.le_of_ble_eq_true rfl⟩ ⟨Nat.le_of_ble_eq_true rfl, Nat.le_of_ble_eq_true rfl⟩ (k' := 0) (z' := 0) (N' := N) rfl rfl rfl (fun r σ11233 hp => ?_)
              obtain ⟨rfl, rfl⟩ := hp
              refine Wm.topE (w := 97) (by decide) ?_
              refine m_bipush F (v := 32) (by decide) e_X10_wordHere_77 ?_
              refine m_icmp_ne F e_X10_wordHere_79 (fun _ => ?_) (fun q => absurd q (by decide))
              refine Wm.lvsub (lv' := [(1, .int 0), (2, .int 0), (0, .ref c)]) ?_ [1, 2, 3] rfl
              exact wk_0 F hQ h1 f20 hB hn7 hsa hpn hl hm (fun hz => by have z1 : P.a = st + 5 := hz.1; have z2 : t (st + 2) = 97 := hz.2 2 (by decide); omega)
            · have c60 : (t (st + 2)) = 97 := (nI_eq (a := (t (st + 2))) (b := 97) (by omega) (by omega)).mp q60
              refine m_iinc F (v := 3) (lv' := [(3, .int 3), (1, .int 0), (2, .int 0), (0, .ref c)]) e_X10_wordHere_63 rfl (by decide) (by decide) rfl ?_
              refine m_goto F e_X10_wordHere_66 ?_
              refine m_ldcS F e_X10_wordHere_15 F.sw.1.2.2 ?_
              refine m_iload_n F rfl e_X10_wordHere_17 ?_
              refine m_iload_n F rfl e_X10_wordHere_18 ?_
              refine m_iadd F e_X10_wordHere_19 ?_
              refine Wm.topE (w := 3) (by decide) ?_
              refine m_callO F e_X10_wordHere_20 (q_charAt (x_l X) V _ _ 3 (by omega)) cb_J0_charAt_5068e ml_X10_137 im_J0_charAt_5068e se_J0_charAt_5068e F.sw.2.2.2.2.2.2.1 rfl (rest := []) rfl (Nat.le_of_ble_eq_true rfl) ⟨Nat.le_of_ble_eq_true rfl, Nat.le_of_ble_eq_true rfl⟩ ⟨Nat.le_of_ble_eq_true rfl, Nat.le_of_ble_eq_true rfl⟩ (k' := 0) (z' := 0) (N' := N) rfl rfl rfl (fun r σ11234 hp => ?_)
              obtain ⟨rfl, rfl⟩ := hp
              refine Wm.topE (w := 115) (by decide) ?_
              refine m_bipush F (v := 32) (by decide) e_X10_wordHere_23 ?_
              refine m_icmp_eq F e_X10_wordHere_25 (fun q => absurd q (by decide)) (fun _ => ?_)
              refine m_aload_n F rfl e_X10_wordHere_28 ?_
              refine r_getC F e_X10_wordHere_29 fl_X10_107 h1 (f20) ?_
              refine m_iload_n F rfl e_X10_wordHere_32 ?_
              refine m_iadd F e_X10_wordHere_33 ?_
              refine Wm.topE (w := nI (st + 3)) (nI_add st 3) ?_
              refine m_aload_n F rfl e_X10_wordHere_34 ?_
              refine r_getC F e_X10_wordHere_35 fl_X10_97 h1 (f11209) ?_
              refine m_icmp_ge F e_X10_wordHere_38 (fun q38 => ?_) (fun q38 => ?_)
              · have c38 : (st + 3) ≥ P.a := (nI_leI (a := P.a) (b := (st + 3)) (by omega) (by omega)).mp q38
                refine m_ldcS F e_X10_wordHere_69 F.sw.1.2.2 ?_
                refine m_iload_n F rfl e_X10_wordHere_71 ?_
                refine m_iload_n F rfl e_X10_wordHere_72 ?_
                refine m_iadd F e_X10_wordHere_73 ?_
                refine Wm.topE (w := 3) (by decide) ?_
                refine m_callO F e_X10_wordHere_74 (q_charAt (x_l X) V _ _ 3 (by omega)) cb_J0_charAt_5068e ml_X10_137 im_J0_charAt_5068e se_J0_charAt_5068e F.sw.2.2.2.2.2.2.1 rfl (rest := []) rfl (Nat.le_of_ble_eq_true rfl) ⟨Nat.le_of_ble_eq_true rfl, Nat.le_of_ble_eq_true rfl⟩ ⟨Nat.le_of_ble_eq_true rfl, Nat.le_of_ble_eq_true rfl⟩ (k' := 0) (z' := 0) (N' := N) rfl rfl rfl (fun r σ11235 hp => ?_)
                obtain ⟨rfl, rfl⟩ := hp
                refine Wm.topE (w := 115) (by decide) ?_
                refine m_bipush F (v := 32) (by decide) e_X10_wordHere_77 ?_
                refine m_icmp_ne F e_X10_wordHere_79 (fun _ => ?_) (fun q => absurd q (by decide))
                refine Wm.lvsub (lv' := [(1, .int 0), (2, .int 0), (0, .ref c)]) ?_ [1, 2, 3] rfl
                exact wk_0 F hQ h1 f20 hB hn7 hsa hpn hl hm (fun hz => by have z1 : P.a = st + 5 := hz.1; have z2 : t (st + 3) = 115 := hz.2 3 (by decide); omega)
              · have c38 : (st + 3) < P.a := by have hh := mt (nI_leI (a := P.a) (b := (st + 3)) (by omega) (by omega)).mpr q38; omega
                refine m_aload_n F rfl e_X10_wordHere_41 ?_
                refine r_getC F e_X10_wordHere_42 fl_X10_7 h1 (f11211) ?_
                refine m_aload_n F rfl e_X10_wordHere_45 ?_
                refine r_getC F e_X10_wordHere_46 fl_X10_107 h1 (f20) ?_
                refine m_iload_n F rfl e_X10_wordHere_49 ?_
                refine m_iadd F e_X10_wordHere_50 ?_
                refine Wm.topE (w := nI (st + 3)) (nI_add st 3) ?_
                have hb11236 := (hB (st + 3) (by omega)).1
                refine r_iald F (len := 700) (j := st + 3) e_X10_wordHere_51 h1 (fun _ h => h) (by decide) (nI_clamp (by omega)) (vp_in_nI (by omega) (by decide)) (fun x11237 h11238 f11239 => ?_)
                obtain rfl := Option.some.inj ((f11239).symm.trans ((hB (st + 3) (by omega)).2))
                refine m_ldcS F e_X10_wordHere_52 F.sw.1.2.2 ?_
                refine m_iload_n F rfl e_X10_wordHere_54 ?_
                refine m_iload_n F rfl e_X10_wordHere_55 ?_
                refine m_iadd F e_X10_wordHere_56 ?_
                refine Wm.topE (w := 3) (by decide) ?_
                refine m_callO F e_X10_wordHere_57 (q_charAt (x_l X) V _ _ 3 (by omega)) cb_J0_charAt_5068e ml_X10_137 im_J0_charAt_5068e se_J0_charAt_5068e F.sw.2.2.2.2.2.2.1 rfl (rest := [.int (nI (t (st + 3)))]) rfl (Nat.le_of_ble_eq_true rfl) ⟨Nat.le_of_ble_eq_true rfl, Nat.le_of_ble_eq_true rfl⟩ ⟨Nat.le_of_ble_eq_true rfl, Nat.le_of_ble_eq_true rfl⟩ (k' := 0) (z' := 0) (N' := N) rfl rfl rfl (fun r σ11240 hp => ?_)
                obtain ⟨rfl, rfl⟩ := hp
                refine Wm.topE (w := 115) (by decide) ?_
                refine m_icmp_ne F e_X10_wordHere_60 (fun q60 => ?_) (fun q60 => ?_)
                · have c60 : (t (st + 3)) ≠ 115 := by have hh := mt (nI_eq (a := (t (st + 3))) (b := 115) (by omega) (by omega)).mpr q60; omega
                  refine m_ldcS F e_X10_wordHere_69 F.sw.1.2.2 ?_
                  refine m_iload_n F rfl e_X10_wordHere_71 ?_
                  refine m_iload_n F rfl e_X10_wordHere_72 ?_
                  refine m_iadd F e_X10_wordHere_73 ?_
                  refine Wm.topE (w := 3) (by decide) ?_
                  refine m_callO F e_X10_wordHere_74 (q_charAt (x_l X) V _ _ 3 (by omega)) cb_J0_charAt_5068e ml_X10_137 im_J0_charAt_5068e se_J0_charAt_5068e F.sw.2.2.2.2.2.2.1 rfl (rest := []) rfl (Nat.le_of_ble_eq_true rfl) ⟨Nat.le_of_ble_eq_true rfl, Nat.le_of_ble_eq_true rfl⟩ ⟨Nat.le_of_ble_eq_true rfl, Nat.le_of_ble_eq_true rfl⟩ (k' := 0) (z' := 0) (N' := N) rfl rfl rfl (fun r σ11241 hp => ?_)
                  obtain ⟨rfl, rfl⟩ := hp
                  refine Wm.topE (w := 115) (by decide) ?_
                  refine m_bipush F (v := 32) (by decide) e_X10_wordHere_77 ?_
                  refine m_icmp_ne F e_X10_wordHere_79 (fun _ => ?_) (fun q => absurd q (by decide))
                  refine Wm.lvsub (lv' := [(1, .int 0), (2, .int 0), (0, .ref c)]) ?_ [1, 2, 3] rfl
                  exact wk_0 F hQ h1 f20 hB hn7 hsa hpn hl hm (fun hz => by have z1 : P.a = st + 5 := hz.1; have z2 : t (st + 3) = 115 := hz.2 3 (by decide); omega)
                · have c60 : (t (st + 3)) = 115 := (nI_eq (a := (t (st + 3))) (b := 115) (by omega) (by omega)).mp q60
                  refine m_iinc F (v := 4) (lv' := [(3, .int 4), (1, .int 0), (2, .int 0), (0, .ref c)]) e_X10_wordHere_63 rfl (by decide) (by decide) rfl ?_
                  refine m_goto F e_X10_wordHere_66 ?_
                  refine m_ldcS F e_X10_wordHere_15 F.sw.1.2.2 ?_
                  refine m_iload_n F rfl e_X10_wordHere_17 ?_
                  refine m_iload_n F rfl e_X10_wordHere_18 ?_
                  refine m_iadd F e_X10_wordHere_19 ?_
                  refine Wm.topE (w := 4) (by decide) ?_
                  refine m_callO F e_X10_wordHere_20 (q_charAt (x_l X) V _ _ 4 (by omega)) cb_J0_charAt_5068e ml_X10_137 im_J0_charAt_5068e se_J0_charAt_5068e F.sw.2.2.2.2.2.2.1 rfl (rest := []) rfl (Nat.le_of_ble_eq_true rfl) ⟨Nat.le_of_ble_eq_true rfl, Nat.le_of_ble_eq_true rfl⟩ ⟨Nat.le_of_ble_eq_true rfl, Nat.le_of_ble_eq_true rfl⟩ (k' := 0) (z' := 0) (N' := N) rfl rfl rfl (fun r σ11242 hp => ?_)
                  obtain ⟨rfl, rfl⟩ := hp
                  refine Wm.topE (w := 101) (by decide) ?_
                  refine m_bipush F (v := 32) (by decide) e_X10_wordHere_23 ?_
                  refine m_icmp_eq F e_X10_wordHere_25 (fun q => absurd q (by decide)) (fun _ => ?_)
                  refine m_aload_n F rfl e_X10_wordHere_28 ?_
                  refine r_getC F e_X10_wordHere_29 fl_X10_107 h1 (f20) ?_
                  refine m_iload_n F rfl e_X10_wordHere_32 ?_
                  refine m_iadd F e_X10_wordHere_33 ?_
                  refine Wm.topE (w := nI (st + 4)) (nI_add st 4) ?_
                  refine m_aload_n F rfl e_X10_wordHere_34 ?_
                  refine r_getC F e_X10_wordHere_35 fl_X10_97 h1 (f11209) ?_
                  refine m_icmp_ge F e_X10_wordHere_38 (fun q38 => ?_) (fun q38 => ?_)
                  · have c38 : (st + 4) ≥ P.a := (nI_leI (a := P.a) (b := (st + 4)) (by omega) (by omega)).mp q38
                    refine m_ldcS F e_X10_wordHere_69 F.sw.1.2.2 ?_
                    refine m_iload_n F rfl e_X10_wordHere_71 ?_
                    refine m_iload_n F rfl e_X10_wordHere_72 ?_
                    refine m_iadd F e_X10_wordHere_73 ?_
                    refine Wm.topE (w := 4) (by decide) ?_
                    refine m_callO F e_X10_wordHere_74 (q_charAt (x_l X) V _ _ 4 (by omega)) cb_J0_charAt_5068e ml_X10_137 im_J0_charAt_5068e se_J0_charAt_5068e F.sw.2.2.2.2.2.2.1 rfl (rest := []) rfl (Nat.le_of_ble_eq_true rfl) ⟨Nat.le_of_ble_eq_true rfl, Nat.le_of_ble_eq_true rfl⟩ ⟨Nat.le_of_ble_eq_true rfl, Nat.le_of_ble_eq_true rfl⟩ (k' := 0) (z' := 0) (N' := N) rfl rfl rfl (fun r σ11243 hp => ?_)
                    obtain ⟨rfl, rfl⟩ := hp
                    refine Wm.topE (w := 101) (by decide) ?_
                    refine m_bipush F (v := 32) (by decide) e_X10_wordHere_77 ?_
                    refine m_icmp_ne F e_X10_wordHere_79 (fun _ => ?_) (fun q => absurd q (by decide))
                    refine Wm.lvsub (lv' := [(1, .int 0), (2, .int 0), (0, .ref c)]) ?_ [1, 2, 3] rfl
                    exact wk_0 F hQ h1 f20 hB hn7 hsa hpn hl hm (fun hz => by have z1 : P.a = st + 5 := hz.1; have z2 : t (st + 4) = 101 := hz.2 4 (by decide); omega)
                  · have c38 : (st + 4) < P.a := by have hh := mt (nI_leI (a := P.a) (b := (st + 4)) (by omega) (by omega)).mpr q38; omega
                    refine m_aload_n F rfl e_X10_wordHere_41 ?_
                    refine r_getC F e_X10_wordHere_42 fl_X10_7 h1 (f11211) ?_
                    refine m_aload_n F rfl e_X10_wordHere_45 ?_
                    refine r_getC F e_X10_wordHere_46 fl_X10_107 h1 (f20) ?_
                    refine m_iload_n F rfl e_X10_wordHere_49 ?_
                    refine m_iadd F e_X10_wordHere_50 ?_
                    refine Wm.topE (w := nI (st + 4)) (nI_add st 4) ?_
                    have hb11244 := (hB (st + 4) (by omega)).1
                    refine r_iald F (len := 700) (j := st + 4) e_X10_wordHere_51 h1 (fun _ h => h) (by decide) (nI_clamp (by omega)) (vp_in_nI (by omega) (by decide)) (fun x11245 h11246 f11247 => ?_)
                    obtain rfl := Option.some.inj ((f11247).symm.trans ((hB (st + 4) (by omega)).2))
                    refine m_ldcS F e_X10_wordHere_52 F.sw.1.2.2 ?_
                    refine m_iload_n F rfl e_X10_wordHere_54 ?_
                    refine m_iload_n F rfl e_X10_wordHere_55 ?_
                    refine m_iadd F e_X10_wordHere_56 ?_
                    refine Wm.topE (w := 4) (by decide) ?_
                    refine m_callO F e_X10_wordHere_57 (q_charAt (x_l X) V _ _ 4 (by omega)) cb_J0_charAt_5068e ml_X10_137 im_J0_charAt_5068e se_J0_charAt_5068e F.sw.2.2.2.2.2.2.1 rfl (rest := [.int (nI (t (st + 4)))]) rfl (Nat.le_of_ble_eq_true rfl) ⟨Nat.le_of_ble_eq_true rfl, Nat.le_of_ble_eq_true rfl⟩ ⟨Nat.le_of_ble_eq_true rfl, Nat.le_of_ble_eq_true rfl⟩ (k' := 0) (z' := 0) (N' := N) rfl rfl rfl (fun r σ11248 hp => ?_)
                    obtain ⟨rfl, rfl⟩ := hp
                    refine Wm.topE (w := 101) (by decide) ?_
                    refine m_icmp_ne F e_X10_wordHere_60 (fun q60 => ?_) (fun q60 => ?_)
                    · have c60 : (t (st + 4)) ≠ 101 := by have hh := mt (nI_eq (a := (t (st + 4))) (b := 101) (by omega) (by omega)).mpr q60; omega
                      refine m_ldcS F e_X10_wordHere_69 F.sw.1.2.2 ?_
                      refine m_iload_n F rfl e_X10_wordHere_71 ?_
                      refine m_iload_n F rfl e_X10_wordHere_72 ?_
                      refine m_iadd F e_X10_wordHere_73 ?_
                      refine Wm.topE (w := 4) (by decide) ?_
                      refine m_callO F e_X10_wordHere_74 (q_charAt (x_l X) V _ _ 4 (by omega)) cb_J0_charAt_5068e ml_X10_137 im_J0_charAt_5068e se_J0_charAt_5068e F.sw.2.2.2.2.2.2.1 rfl (rest := []) rfl (Nat.le_of_ble_eq_true rfl) ⟨Nat.le_of_ble_eq_true rfl, Nat.le_of_ble_eq_true rfl⟩ ⟨Nat.le_of_ble_eq_true rfl, Nat.le_of_ble_eq_true rfl⟩ (k' := 0) (z' := 0) (N' := N) rfl rfl rfl (fun r σ11249 hp => ?_)
                      obtain ⟨rfl, rfl⟩ := hp
                      refine Wm.topE (w := 101) (by decide) ?_
                      refine m_bipush F (v := 32) (by decide) e_X10_wordHere_77 ?_
                      refine m_icmp_ne F e_X10_wordHere_79 (fun _ => ?_) (fun q => absurd q (by decide))
                      refine Wm.lvsub (lv' := [(1, .int 0), (2, .int 0), (0, .ref c)]) ?_ [1, 2, 3] rfl
                      exact wk_0 F hQ h1 f20 hB hn7 hsa hpn hl hm (fun hz => by have z1 : P.a = st + 5 := hz.1; have z2 : t (st + 4) = 101 := hz.2 4 (by decide); omega)
                    · have c60 : (t (st + 4)) = 101 := (nI_eq (a := (t (st + 4))) (b := 101) (by omega) (by omega)).mp q60
                      refine m_iinc F (v := 5) (lv' := [(3, .int 5), (1, .int 0), (2, .int 0), (0, .ref c)]) e_X10_wordHere_63 rfl (by decide) (by decide) rfl ?_
                      refine m_goto F e_X10_wordHere_66 ?_
                      refine m_ldcS F e_X10_wordHere_15 F.sw.1.2.2 ?_
                      refine m_iload_n F rfl e_X10_wordHere_17 ?_
                      refine m_iload_n F rfl e_X10_wordHere_18 ?_
                      refine m_iadd F e_X10_wordHere_19 ?_
                      refine Wm.topE (w := 5) (by decide) ?_
                      refine m_callO F e_X10_wordHere_20 (q_charAt (x_l X) V _ _ 5 (by omega)) cb_J0_charAt_5068e ml_X10_137 im_J0_charAt_5068e se_J0_charAt_5068e F.sw.2.2.2.2.2.2.1 rfl (rest := []) rfl (Nat.le_of_ble_eq_true rfl) ⟨Nat.le_of_ble_eq_true rfl, Nat.le_of_ble_eq_true rfl⟩ ⟨Nat.le_of_ble_eq_true rfl, Nat.le_of_ble_eq_true rfl⟩ (k' := 0) (z' := 0) (N' := N) rfl rfl rfl (fun r σ11250 hp => ?_)
                      obtain ⟨rfl, rfl⟩ := hp
                      refine Wm.topE (w := 32) (by decide) ?_
                      refine m_bipush F (v := 32) (by decide) e_X10_wordHere_23 ?_
                      refine m_icmp_eq F e_X10_wordHere_25 (fun _ => ?_) (fun q => absurd (by decide) q)
                      refine m_ldcS F e_X10_wordHere_69 F.sw.1.2.2 ?_
                      refine m_iload_n F rfl e_X10_wordHere_71 ?_
                      refine m_iload_n F rfl e_X10_wordHere_72 ?_
                      refine m_iadd F e_X10_wordHere_73 ?_
                      refine Wm.topE (w := 5) (by decide) ?_
                      refine m_callO F e_X10_wordHere_74 (q_charAt (x_l X) V _ _ 5 (by omega)) cb_J0_charAt_5068e ml_X10_137 im_J0_charAt_5068e se_J0_charAt_5068e F.sw.2.2.2.2.2.2.1 rfl (rest := []) rfl (Nat.le_of_ble_eq_true rfl) ⟨Nat.le_of_ble_eq_true rfl, Nat.le_of_ble_eq_true rfl⟩ ⟨Nat.le_of_ble_eq_true rfl, Nat.le_of_ble_eq_true rfl⟩ (k' := 0) (z' := 0) (N' := N) rfl rfl rfl (fun r σ11251 hp => ?_)
                      obtain ⟨rfl, rfl⟩ := hp
                      refine Wm.topE (w := 32) (by decide) ?_
                      refine m_bipush F (v := 32) (by decide) e_X10_wordHere_77 ?_
                      refine m_icmp_ne F e_X10_wordHere_79 (fun q => absurd (by decide) q) (fun _ => ?_)
                      refine m_aload_n F rfl e_X10_wordHere_82 ?_
                      refine r_getC F e_X10_wordHere_83 fl_X10_107 h1 (f20) ?_
                      refine m_iload_n F rfl e_X10_wordHere_86 ?_
                      refine m_iadd F e_X10_wordHere_87 ?_
                      refine Wm.topE (w := nI (st + 5)) (nI_add st 5) ?_
                      refine m_aload_n F rfl e_X10_wordHere_88 ?_
                      refine r_getC F e_X10_wordHere_89 fl_X10_97 h1 (f11209) ?_
                      refine m_icmp_ne F e_X10_wordHere_92 (fun q92 => ?_) (fun q92 => ?_)
                      · have c92 : (st + 5) ≠ P.a := by have hh := mt (nI_eq (a := (st + 5)) (b := P.a) (by omega) (by omega)).mpr q92; omega
                        refine Wm.lvsub (lv' := [(1, .int 0), (2, .int 0), (0, .ref c)]) ?_ [1, 2, 3] rfl
                        exact wk_0 F hQ h1 f20 hB hn7 hsa hpn hl hm (fun hz => by have z1 : P.a = st + 5 := hz.1; omega)
                      · have c92 : (st + 5) = P.a := (nI_eq (a := (st + 5)) (b := P.a) (by omega) (by omega)).mp q92
                        refine m_iload_n F rfl e_X10_wordHere_95 ?_
                        have hz : mw t st P.a 0 := by
                          refine ⟨(show P.a = st + 5 by omega), fun i hi => ?_⟩
                          have hi2 : i = 0 ∨ i = 1 ∨ i = 2 ∨ i = 3 ∨ i = 4 := by have hi3 : i < 5 := hi; omega
                          rcases hi2 with rfl | rfl | rfl | rfl | rfl
                          · show t (st + 0) = 108; first | assumption | omega
                          · show t (st + 1) = 101; first | assumption | omega
                          · show t (st + 2) = 97; first | assumption | omega
                          · show t (st + 3) = 115; first | assumption | omega
                          · show t (st + 4) = 101; first | assumption | omega
                        have hy := kix_mw hsa hl (by decide) hz
                        exact m_iret F hQ e_X10_wordHere_96 ⟨h1, Or.inl ⟨hy.1, by rw [hy.2]; decide, by rw [hy.2]; rfl⟩⟩
set_option maxRecDepth 20000 in
theorem q_X10_wordHereE (l : Launch) (V : VX) (c T Z u h : Nat) (P : NP) (L : Nat → LQ) (N : Nat) (σ : Mem) (n st : Nat) (t : Nat → Nat) (h0 : HR V c ⟨T, Z, u, h, P, L⟩ σ) (hob : OKB L) (hP : OKP P) (hp0 : fld σ c 20 = some (.int (nI st))) (hp1 : BR σ c n t) (hp2 : n ≤ 700) (hp3 : st < P.a) (hp4 : P.a ≤ n) (hp5 : ∀ i, st ≤ i → i < P.a → isL (t i) = true) : Ct l V yX10_wordHere cX10_wordHere 4 (some .int) 4 0 0 N σ [.ref c] (fun r τ => HS V c (⟨T, Z, u, h, P, L⟩ : RG) [0, 1, 2, 3, 4, 5, 6, 7, 8, 9, 10, 11, 12, 13, 14, 15, 16, 17, 18, 19, 20, 21, 22, 23] σ τ ∧ ((P.a - st ≤ 6 ∧ kix (nmc t st P.a 6) < 9 ∧ r = some (.int (nI (kix (nmc t st P.a 6))))) ∨ (¬ (P.a - st ≤ 6 ∧ kix (nmc t st P.a 6) < 9) ∧ r = some (.int (-1))))) := by
  refine Ct.of (by decide) (Nat.le_of_ble_eq_true rfl) [(0, .ref c)] rfl (fun X hX F hQ => ?_)
  have hPP := hP
  unfold OKP at hPP
  have h1 : HS V c ⟨T, Z, u, h, P, L⟩ [0, 1, 2, 3, 4, 5, 6, 7, 8, 9, 10, 11, 12, 13, 14, 15, 16, 17, 18, 19, 20, 21, 22, 23] σ σ := HS.start h0
  refine m_iconst F (v := 0) (by decide) e_X10_wordHere_0 ?_
  refine m_istore_n F (lv' := [(1, .int 0), (0, .ref c)]) e_X10_wordHere_1 (by decide) rfl ?_
  refine m_iconst F (v := 0) (by decide) e_X10_wordHere_2 ?_
  refine m_istore_n F (lv' := [(2, .int 0), (1, .int 0), (0, .ref c)]) e_X10_wordHere_3 (by decide) rfl ?_
  refine Wm.lvsub (lv' := [(1, .int 0), (2, .int 0), (0, .ref c)]) ?_ [1, 0, 2] rfl
  exact wh_0 F hQ h1 hp0 hp1 hp2 hp3 hp4 hp5 (fun m hm => absurd hm (Nat.not_lt_zero _))
