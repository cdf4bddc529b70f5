set_option maxRecDepth 20000 in
theorem q_X10_hereE (l : Launch) (V : VX) (c T Z u h : Nat) (P : NP) (L : Nat → LQ) (N : Nat) (σ : Mem) (n : Nat) (t : Nat → Nat) (h0 : HR V c ⟨T, Z, u, h, P, L⟩ σ) (hob : OKB L) (hP : OKP P) (hp0 : fld σ c 18 = some (.int (nI n))) (hp1 : BR σ c n t) (hp2 : n ≤ 700) : Ct l V yX10_here cX10_here 1 (some .int) 0 0 0 N σ [.ref c] (fun r τ => HS V c (⟨T, Z, u, h, P, L⟩ : RG) [0, 1, 2, 3, 4, 5, 6, 7, 8, 9, 10, 11, 12, 13, 14, 15, 16, 17, 18, 19, 20, 21, 22, 23] σ τ ∧ ((n ≤ P.a ∧ r = some (.int (-1))) ∨ (P.a < n ∧ t P.a < 256 ∧ r = some (.int (nI (t P.a)))))) := by
  refine Ct.of (by decide) (Nat.le_of_ble_eq_true rfl) [(0, .ref c)] rfl (fun X hX F hQ => ?_)
  have hPP := hP
  unfold OKP at hPP
  have h1 : HS V c ⟨T, Z, u, h, P, L⟩ [0, 1, 2, 3, 4, 5, 6, 7, 8, 9, 10, 11, 12, 13, 14, 15, 16, 17, 18, 19, 20, 21, 22, 23] σ σ := HS.start h0
  refine m_aload_n F rfl e_X10_here_0 ?_
  refine r_get F e_X10_here_1 fl_X10_97 h1 rfl (fun v hv f10743 => ?_)
  obtain rfl : v = .int (nI (P.a)) := hv
  refine m_aload_n F rfl e_X10_here_4 ?_
  refine r_getC F e_X10_here_5 fl_X10_100 h1 (hp0) ?_
  refine m_icmp_ge F e_X10_here_8 (fun q8 => ?_) (fun q8 => ?_)
  · have c8 : P.a ≥ n := (nI_leI (a := n) (b := P.a) (by omega) (by omega)).mp q8
    refine m_iconst F (v := (-1)) (by decide) e_X10_here_23 ?_
    exact m_iret F hQ e_X10_here_24 (⟨h1, Or.inl ⟨by omega, rfl⟩⟩)
  · have c8 : P.a < n := by have hh := mt (nI_leI (a := n) (b := P.a) (by omega) (by omega)).mpr q8; omega
    refine m_aload_n F rfl e_X10_here_11 ?_
    refine r_get F e_X10_here_12 fl_X10_7 h1 rfl (fun v hv f10744 => ?_)
    obtain rfl : v = .ref (c + 1) := hv
    refine m_aload_n F rfl e_X10_here_15 ?_
    refine r_getC F e_X10_here_16 fl_X10_97 h1 (f10743) ?_
    have hb10745 := (hp1 P.a (by omega)).1
    refine r_iald F (len := 700) (j := P.a) e_X10_here_19 h1 (fun _ h => h) (by decide) (nI_clamp (by omega)) (vp_in_nI (by omega) (by decide)) (fun x10746 h10747 f10748 => ?_)
    obtain rfl := Option.some.inj ((f10748).symm.trans ((hp1 P.a (by omega)).2))
    refine m_goto F e_X10_here_20 ?_
    exact m_iret F hQ e_X10_here_24 (⟨h1, Or.inr ⟨by omega, (hp1 P.a (by omega)).1, rfl⟩⟩)
theorem isL_t {x : Nat} (h : x < 256) (g : ¬ nI x < 97 ∧ ¬ 122 < nI x) : isL x = true := by
  have h1 : ¬ x < 97 := fun e => g.1 ((nI_ltI (a := x) (b := 97) (by omega) (by omega)).mpr e)
  have h2 : ¬ 122 < x := fun e => g.2 ((nI_ltI (a := 122) (b := x) (by omega) (by omega)).mpr e)
  unfold isL; simp; omega
theorem isL_f {x : Nat} (h : x < 256) (g : ¬ (¬ nI x < 97 ∧ ¬ 122 < nI x)) : isL x = false := by
  cases e : isL x with
  | false => rfl
  | true =>
    unfold isL at e
    simp at e
    exact absurd ⟨fun q => absurd ((nI_ltI (a := x) (b := 97) (by omega) (by omega)).mp q) (by omega), fun q => absurd ((nI_ltI (a := 122) (b := x) (by omega) (by omega)).mp q) (by omega)⟩ g
theorem isD_t {x : Nat} (h : x < 256) (g : ¬ nI x < 48 ∧ ¬ 57 < nI x) : isD x = true := by
  have h1 : ¬ x < 48 := fun e => g.1 ((nI_ltI (a := x) (b := 48) (by omega) (by omega)).mpr e)
  have h2 : ¬ 57 < x := fun e => g.2 ((nI_ltI (a := 57) (b := x) (by omega) (by omega)).mpr e)
  unfold isD; simp; omega
theorem isD_f {x : Nat} (h : x < 256) (g : ¬ (¬ nI x < 48 ∧ ¬ 57 < nI x)) : isD x = false := by
  cases e : isD x with
  | false => rfl
  | true =>
    unfold isD at e
    simp at e
    exact absurd ⟨fun q => absurd ((nI_ltI (a := x) (b := 48) (by omega) (by omega)).mp q) (by omega), fun q => absurd ((nI_ltI (a := 57) (b := x) (by omega) (by omega)).mp q) (by omega)⟩ g
set_option maxRecDepth 20000 in
theorem wh_9 {V : VX} {X : MX} {N : Nat} {σ : Mem} {c T Z u h : Nat} {P : NP} {L : Nat → LQ} {n st : Nat} {t : Nat → Nat} (F : Fx V X yX10_wordHere cX10_wordHere 4 (some .int) (rmd 4 0 0)) (hQ : Rt V X 0 0 N (fun r τ => HS V c (⟨T, Z, u, h, P, L⟩ : RG) [0, 1, 2, 3, 4, 5, 6, 7, 8, 9, 10, 11, 12, 13, 14, 15, 16, 17, 18, 19, 20, 21, 22, 23] σ τ ∧ ((P.a - st ≤ 6 ∧ kix (nmc t st P.a 6) < 9 ∧ r = some (.int (nI (kix (nmc t st P.a 6))))) ∨ (¬ (P.a - st ≤ 6 ∧ kix (nmc t st P.a 6) < 9) ∧ r = some (.int (-1)))))) (h1 : HS V c ⟨T, Z, u, h, P, L⟩ [0, 1, 2, 3, 4, 5, 6, 7, 8, 9, 10, 11, 12, 13, 14, 15, 16, 17, 18, 19, 20, 21, 22, 23] σ σ) (f20 : fld σ c 20 = some (.int (nI st))) (hB : BR σ c n t) (hn7 : n ≤ 700) (hsa : st < P.a) (hpn : P.a ≤ n) (hl : ∀ i, st ≤ i → i < P.a → isL (t i) = true) (hm : ∀ m, m < 9 → ¬ mw t st P.a m) : Wm V X 4 N σ 0 0 4 [(1, .int 9), (2, .int 48), (0, .ref c)] [] := by
  refine m_iload_n F rfl e_X10_wordHere_4 ?_
  refine m_ldcS F e_X10_wordHere_5 F.sw.1.2.2 ?_
  refine m_callO F e_X10_wordHere_7 (q_length (x_l X) V _ _) cb_J0_length_8abf5 ml_X10_132 im_J0_length_8abf5 se_J0_length_8abf5 F.sw.2.2.2.2.2.2.1 rfl (rest := [.int 48]) rfl (Nat.le_of_ble_eq_true rfl) ⟨Nat.le_of_ble_eq_true rfl, Nat.le_of_ble_eq_true rfl⟩ ⟨Nat.le_of_ble_eq_true rfl, Nat.le_of_ble_eq_true rfl⟩ (k' := 0) (z' := 0) (N' := N) rfl rfl rfl (fun r σ10749 hp => ?_)
  obtain ⟨rfl, rfl⟩ := hp
  refine m_icmp_ge F e_X10_wordHere_10 (fun _ => ?_) (fun q => absurd (by decide) q)
  refine m_iconst F (v := (-1)) (by decide) e_X10_wordHere_123 ?_
  exact m_iret F hQ e_X10_wordHere_124 ⟨h1, Or.inr ⟨fun q => kix_nmw hsa hl hm q.1 q.2, rfl⟩⟩
set_option maxRecDepth 20000 in
theorem wk_8 {V : VX} {X : MX} {N : Nat} {σ : Mem} {c T Z u h : Nat} {P : NP} {L : Nat → LQ} {n st : Nat} {t : Nat → Nat} (F : Fx V X yX10_wordHere cX10_wordHere 4 (some .int) (rmd 4 0 0)) (hQ : Rt V X 0 0 N (fun r τ => HS V c (⟨T, Z, u, h, P, L⟩ : RG) [0, 1, 2, 3, 4, 5, 6, 7, 8, 9, 10, 11, 12, 13, 14, 15, 16, 17, 18, 19, 20, 21, 22, 23] σ τ ∧ ((P.a - st ≤ 6 ∧ kix (nmc t st P.a 6) < 9 ∧ r = some (.int (nI (kix (nmc t st P.a 6))))) ∨ (¬ (P.a - st ≤ 6 ∧ kix (nmc t st P.a 6) < 9) ∧ r = some (.int (-1)))))) (h1 : HS V c ⟨T, Z, u, h, P, L⟩ [0, 1, 2, 3, 4, 5, 6, 7, 8, 9, 10, 11, 12, 13, 14, 15, 16, 17, 18, 19, 20, 21, 22, 23] σ σ) (f20 : fld σ c 20 = some (.int (nI st))) (hB : BR σ c n t) (hn7 : n ≤ 700) (hsa : st < P.a) (hpn : P.a ≤ n) (hl : ∀ i, st ≤ i → i < P.a → isL (t i) = true) (hm : ∀ m, m < 8 → ¬ mw t st P.a m) (hz : ¬ mw t st P.a 8) : Wm V X 4 N σ 0 0 97 [(1, .int 8), (2, .int 43), (0, .ref c)] [] := by
  refine m_ldcS F e_X10_wordHere_97 F.sw.1.2.2 ?_
  refine m_iload_n F rfl e_X10_wordHere_99 ?_
  refine m_callO F e_X10_wordHere_100 (q_charAt (x_l X) V _ _ 43 (by omega)) cb_J0_charAt_5068e ml_X10_137 im_J0_charAt_5068e se_J0_charAt_5068e F.sw.2.2.2.2.2.2.1 rfl (rest := []) rfl (Nat.le_of_ble_eq_true rfl) ⟨Nat.le_of_ble_eq_true rfl, Nat.le_of_ble_eq_true rfl⟩ ⟨Nat.le_of_ble_eq_true rfl, Nat.le_of_ble_eq_true rfl⟩ (k' := 0) (z' := 0) (N' := N) rfl rfl rfl (fun r σ10750 hp => ?_)
  obtain ⟨rfl, rfl⟩ := hp
  refine Wm.topE (w := 115) (by decide) ?_
  refine m_bipush F (v := 32) (by decide) e_X10_wordHere_103 ?_
  refine m_icmp_eq F e_X10_wordHere_105 (fun q => absurd q (by decide)) (fun _ => ?_)
  refine m_iinc F (v := 44) (lv' := [(2, .int 44), (1, .int 8), (0, .ref c)]) e_X10_wordHere_108 rfl (by decide) (by decide) rfl ?_
  refine m_goto F e_X10_wordHere_111 ?_
  refine m_ldcS F e_X10_wordHere_97 F.sw.1.2.2 ?_
  refine m_iload_n F rfl e_X10_wordHere_99 ?_
  refine m_callO F e_X10_wordHere_100 (q_charAt (x_l X) V _ _ 44 (by omega)) cb_J0_charAt_5068e ml_X10_137 im_J0_charAt_5068e se_J0_charAt_5068e F.sw.2.2.2.2.2.2.1 rfl (rest := []) rfl (Nat.le_of_ble_eq_true rfl) ⟨Nat.le_of_ble_eq_true rfl, Nat.le_of_ble_eq_true rfl⟩ ⟨Nat.le_of_ble_eq_true rfl, Nat.le_of_ble_eq_true rfl⟩ (k' := 0) (z' := 0) (N' := N) rfl rfl rfl (fun r σ10751 hp => ?_)
  obtain ⟨rfl, rfl⟩ := hp
  refine Wm.topE (w := 101) (by decide) ?_
  refine m_bipush F (v := 32) (by decide) e_X10_wordHere_103 ?_
  refine m_icmp_eq F e_X10_wordHere_105 (fun q => absurd q (by decide)) (fun _ => ?_)
  refine m_iinc F (v := 45) (lv' := [(2, .int 45), (1, .int 8), (0, .ref c)]) e_X10_wordHere_108 rfl (by decide) (by decide) rfl ?_
  refine m_goto F e_X10_wordHere_111 ?_
  refine m_ldcS F e_X10_wordHere_97 F.sw.1.2.2 ?_
  refine m_iload_n F rfl e_X10_wordHere_99 ?_
  refine m_callO F e_X10_wordHere_100 (q_charAt (x_l X) V _ _ 45 (by omega)) cb_J0_charAt_5068e ml_X10_137 im_J0_charAt_5068e se_J0_charAt_5068e F.sw.2.2.2.2.2.2.1 rfl (rest := []) rfl (Nat.le_of_ble_eq_true rfl) ⟨Nat.le_of_ble_eq_true rfl, Nat.le_of_ble_eq_true rfl⟩ ⟨Nat.le_of_ble_eq_true rfl, Nat.le_of_ble_eq_true rfl⟩ (k' := 0) (z' := 0) (N' := N) rfl rfl rfl (fun r σ10752 hp => ?_)
  obtain ⟨rfl, rfl⟩ := hp
  refine Wm.topE (w := 101) (by decide) ?_
  refine m_bipush F (v := 32) (by decide) e_X10_wordHere_103 ?_
  refine m_icmp_eq F e_X10_wordHere_105 (fun q => absurd q (by decide)) (fun _ => ?_)
  refine m_iinc F (v := 46) (lv' := [(2, .int 46), (1, .int 8), (0, .ref c)]) e_X10_wordHere_108 rfl (by decide) (by decide) rfl ?_
  refine m_goto F e_X10_wordHere_111 ?_
  refine m_ldcS F e_X10_wordHere_97 F.sw.1.2.2 ?_
  refine m_iload_n F rfl e_X10_wordHere_99 ?_
  refine m_callO F e_X10_wordHere_100 (q_charAt (x_l X) V _ _ 46 (by omega)) cb_J0_charAt_5068e ml_X10_137 im_J0_charAt_5068e se_J0_charAt_5068e F.sw.2.2.2.2.2.2.1 rfl (rest := []) rfl (Nat.le_of_ble_eq_true rfl) ⟨Nat.le_of_ble_eq_true rfl, Nat.le_of_ble_eq_true rfl⟩ ⟨Nat.le_of_ble_eq_true rfl, Nat.le_of_ble_eq_true rfl⟩ (k' := 0) (z' := 0) (N' := N) rfl rfl rfl (fun r σ10753 hp => ?_)
  obtain ⟨rfl, rfl⟩ := hp
  refine Wm.topE (w := 100) (by decide) ?_
  refine m_bipush F (v := 32) (by decide) e_X10_wordHere_103 ?_
  refine m_icmp_eq F e_X10_wordHere_105 (fun q => absurd q (by decide)) (fun _ => ?_)
  refine m_iinc F (v := 47) (lv' := [(2, .int 47), (1, .int 8), (0, .ref c)]) e_X10_wordHere_108 rfl (by decide) (by decide) rfl ?_
  refine m_goto F e_X10_wordHere_111 ?_
  refine m_ldcS F e_X10_wordHere_97 F.sw.1.2.2 ?_
  refine m_iload_n F rfl e_X10_wordHere_99 ?_
  refine m_callO F e_X10_wordHere_100 (q_charAt (x_l X) V _ _ 47 (by omega)) cb_J0_charAt_5068e ml_X10_137 im_J0_charAt_5068e se_J0_charAt_5068e F.sw.2.2.2.2.2.2.1 rfl (rest := []) rfl (Nat.le_of_ble_eq_true rfl) ⟨Nat.le_of_ble_eq_true rfl, Nat.le_of_ble_eq_true rfl⟩ ⟨Nat.le_of_ble_eq_true rfl, Nat.le_of_ble_eq_true rfl⟩ (k' := 0) (z' := 0) (N' := N) rfl rfl rfl (fun r σ10754 hp => ?_)
  obtain ⟨rfl, rfl⟩ := hp
  refine Wm.topE (w := 32) (by decide) ?_
  refine m_bipush F (v := 32) (by decide) e_X10_wordHere_103 ?_
  refine m_icmp_eq F e_X10_wordHere_105 (fun _ => ?_) (fun q => absurd (by decide) q)
  refine m_iinc F (v := 48) (lv' := [(2, .int 48), (1, .int 8), (0, .ref c)]) e_X10_wordHere_114 rfl (by decide) (by decide) rfl ?_
  refine m_iinc F (v := 9) (lv' := [(1, .int 9), (2, .int 48), (0, .ref c)]) e_X10_wordHere_117 rfl (by decide) (by decide) rfl ?_
  refine m_goto F e_X10_wordHere_120 ?_
  exact wh_9 F hQ h1 f20 hB hn7 hsa hpn hl (fun m9 h9 => if e9 : m9 = 8 then e9 ▸ hz else hm m9 (by omega))
set_option maxRecDepth 20000 in
theorem wh_8 {V : VX} {X : MX} {N : Nat} {σ : Mem} {c T Z u h : Nat} {P : NP} {L : Nat → LQ} {n st : Nat} {t : Nat → Nat} (F : Fx V X yX10_wordHere cX10_wordHere 4 (some .int) (rmd 4 0 0)) (hQ : Rt V X 0 0 N (fun r τ => HS V c (⟨T, Z, u, h, P, L⟩ : RG) [0, 1, 2, 3, 4, 5, 6, 7, 8, 9, 10, 11, 12, 13, 14, 15, 16, 17, 18, 19, 20, 21, 22, 23] σ τ ∧ ((P.a - st ≤ 6 ∧ kix (nmc t st P.a 6) < 9 ∧ r = some (.int (nI (kix (nmc t st P.a 6))))) ∨ (¬ (P.a - st ≤ 6 ∧ kix (nmc t st P.a 6) < 9) ∧ r = some (.int (-1)))))) (h1 : HS V c ⟨T, Z, u, h, P, L⟩ [0, 1, 2, 3, 4, 5, 6, 7, 8, 9, 10, 11, 12, 13, 14, 15, 16, 17, 18, 19, 20, 21, 22, 23] σ σ) (f20 : fld σ c 20 = some (.int (nI st))) (hB : BR σ c n t) (hn7 : n ≤ 700) (hsa : st < P.a) (hpn : P.a ≤ n) (hl : ∀ i, st ≤ i → i < P.a → isL (t i) = true) (hm : ∀ m, m < 8 → ¬ mw t st P.a m) : Wm V X 4 N σ 0 0 4 [(1, .int 8), (2, .int 43), (0, .ref c)] [] := by
  refine m_iload_n F rfl e_X10_wordHere_4 ?_
  refine m_ldcS F e_X10_wordHere_5 F.sw.1.2.2 ?_
  refine m_callO F e_X10_wordHere_7 (q_length (x_l X) V _ _) cb_J0_length_8abf5 ml_X10_132 im_J0_length_8abf5 se_J0_length_8abf5 F.sw.2.2.2.2.2.2.1 rfl (rest := [.int 43]) rfl (Nat.le_of_ble_eq_true rfl) ⟨Nat.le_of_ble_eq_true rfl, Nat.le_of_ble_eq_true rfl⟩ ⟨Nat.le_of_ble_eq_true rfl, Nat.le_of_ble_eq_true rfl⟩ (k' := 0) (z' := 0) (N' := N) rfl rfl rfl (fun r σ10755 hp => ?_)
  obtain ⟨rfl, rfl⟩ := hp
  refine m_icmp_ge F e_X10_wordHere_10 (fun q => absurd q (by decide)) (fun _ => ?_)
  refine m_iconst F (v := 0) (by decide) e_X10_wordHere_13 ?_
  refine m_istore_n F (lv' := [(3, .int 0), (1, .int 8), (2, .int 43), (0, .ref c)]) e_X10_wordHere_14 (by decide) rfl ?_
  refine m_ldcS F e_X10_wordHere_15 F.sw.1.2.2 ?_
  refine m_iload_n F rfl e_X10_wordHere_17 ?_
  refine m_iload_n F rfl e_X10_wordHere_18 ?_
  refine m_iadd F e_X10_wordHere_19 ?_
  refine Wm.topE (w := 43) (by decide) ?_
  refine m_callO F e_X10_wordHere_20 (q_charAt (x_l X) V _ _ 43 (by omega)) cb_J0_charAt_5068e ml_X10_137 im_J0_charAt_5068e se_J0_charAt_5068e F.sw.2.2.2.2.2.2.1 rfl (rest := []) rfl (Nat.le_of_ble_eq_true rfl) ⟨Nat.le_of_ble_eq_true rfl, Nat.le_of_ble_eq_true rfl⟩ ⟨Nat.le_of_ble_eq_true rfl, Nat.le_of_ble_eq_true rfl⟩ (k' := 0) (z' := 0) (N' := N) rfl rfl rfl (fun r σ10756 hp => ?_)
  obtain ⟨rfl, rfl⟩ := hp
  refine Wm.topE (w := 115) (by decide) ?_
  refine m_bipush F (v := 32) (by decide) e_X10_wordHere_23 ?_
  refine m_icmp_eq F e_X10_wordHere_25 (fun q => absurd q (by decide)) (fun _ => ?_)
  refine m_aload_n F rfl e_X10_wordHere_28 ?_
  refine r_getC F e_X10_wordHere_29 fl_X10_107 h1 (f20) ?_
  refine m_iload_n F rfl e_X10_wordHere_32 ?_
  refine m_iadd F e_X10_wordHere_33 ?_
  refine Wm.topE (w := nI st) (nI_add st 0) ?_
  refine m_aload_n F rfl e_X10_wordHere_34 ?_
  refine r_get F e_X10_wordHere_35 fl_X10_97 h1 rfl (fun v hv f10757 => ?_)
  obtain rfl : v = .int (nI (P.a)) := hv
  refine m_icmp_ge F e_X10_wordHere_38 (fun q38 => ?_) (fun q38 => ?_)
  · have c38 : st ≥ P.a := (nI_leI (a := P.a) (b := st) (by omega) (by omega)).mp q38
    refine m_ldcS F e_X10_wordHere_69 F.sw.1.2.2 ?_
    refine m_iload_n F rfl e_X10_wordHere_71 ?_
    refine m_iload_n F rfl e_X10_wordHere_72 ?_
    refine m_iadd F e_X10_wordHere_73 ?_
    refine Wm.topE (w := 43) (by decide) ?_
    refine m_callO F e_X10_wordHere_74 (q_charAt (x_l X) V _ _ 43 (by omega)) cb_J0_charAt_5068e ml_X10_137 im_J0_charAt_5068e se_J0_charAt_5068e F.sw.2.2.2.2.2.2.1 rfl (rest := []) rfl (Nat.le_of_ble_eq_true rfl) ⟨Nat.le_of_ble_eq_true rfl, Nat.le_of_ble_eq_true rfl⟩ ⟨Nat.le_of_ble_eq_true rfl, Nat.le_of_ble_eq_true rfl⟩ (k' := 0) (z' := 0) (N' := N) rfl rfl rfl (fun r σ10758 hp => ?_)
    obtain ⟨rfl, rfl⟩ := hp
    refine Wm.topE (w := 115) (by decide) ?_
    refine m_bipush F (v := 32) (by decide) e_X10_wordHere_77 ?_
    refine m_icmp_ne F e_X10_wordHere_79 (fun _ => ?_) (fun q => absurd q (by decide))
    refine Wm.lvsub (lv' := [(1, .int 8), (2, .int 43), (0, .ref c)]) ?_ [1, 2, 3] rfl
    exact wk_8 F hQ h1 f20 hB hn7 hsa hpn hl hm (fun hz => by have z1 : P.a = st + 4 := hz.1; have z2 : t (st) = 115 := hz.2 0 (by decide); omega)
  · have c38 : st < P.a := by have hh := mt (nI_leI (a := P.a) (b := st) (by omega) (by omega)).mpr q38; omega
    refine m_aload_n F rfl e_X10_wordHere_41 ?_
    refine r_get F e_X10_wordHere_42 fl_X10_7 h1 rfl (fun v hv f10759 => ?_)
    obtain rfl : v = .ref (c + 1) := hv
    refine m_aload_n F rfl e_X10_wordHere_45 ?_
    refine r_getC F e_X10_wordHere_46 fl_X10_107 h1 (f20) ?_
    refine m_iload_n F rfl e_X10_wordHere_49 ?_
    refine m_iadd F e_X10_wordHere_50 ?_
    refine Wm.topE (w := nI st) (nI_add st 0) ?_
    have hb10760 := (hB st (by omega)).1
    refine r_iald F (len := 700) (j := st) e_X10_wordHere_51 h1 (fun _ h => h) (by decide) (nI_clamp (by omega)) (vp_in_nI (by omega) (by decide)) (fun x10761 h10762 f10763 => ?_)
    obtain rfl := Option.some.inj ((f10763).symm.trans ((hB st (by omega)).2))
    refine m_ldcS F e_X10_wordHere_52 F.sw.1.2.2 ?_
    refine m_iload_n F rfl e_X10_wordHere_54 ?_
    refine m_iload_n F rfl e_X10_wordHere_55 ?_
    refine m_iadd F e_X10_wordHere_56 ?_
    refine Wm.topE (w := 43) (by decide) ?_
    refine m_callO F e_X10_wordHere_57 (q_charAt (x_l X) V _ _ 43 (by omega)) cb_J0_charAt_5068e ml_X10_137 im_J0_charAt_5068e se_J0_charAt_5068e F.sw.2.2.2.2.2.2.1 rfl (rest := [.int (nI (t st))]) rfl (Nat.le_of_ble_eq_true rfl) ⟨Nat.le_of_ble_eq_true rfl, Nat.le_of_ble_eq_true rfl⟩ ⟨Nat.le_of_ble_eq_true rfl, Nat.le_of_ble_eq_true rfl⟩ (k' := 0) (z' := 0) (N' := N) rfl rfl rfl (fun r σ10764 hp => ?_)
    obtain ⟨rfl, rfl⟩ := hp
    refine Wm.topE (w := 115) (by decide) ?_
    refine m_icmp_ne F e_X10_wordHere_60 (fun q60 => ?_) (fun q60 => ?_)
    · have c60 : (t st) ≠ 115 := by have hh := mt (nI_eq (a := (t st)) (b := 115) (by omega) (by omega)).mpr q60; omega
      refine m_ldcS F e_X10_wordHere_69 F.sw.1.2.2 ?_
      refine m_iload_n F rfl e_X10_wordHere_71 ?_
      refine m_iload_n F rfl e_X10_wordHere_72 ?_
      refine m_iadd F e_X10_wordHere_73 ?_
      refine Wm.topE (w := 43) (by decide) ?_
      refine m_callO F e_X10_wordHere_74 (q_charAt (x_l X) V _ _ 43 (by omega)) cb_J0_charAt_5068e ml_X10_137 im_J0_charAt_5068e se_J0_charAt_5068e F.sw.2.2.2.2.2.2.1 rfl (rest := []) rfl (Nat.le_of_ble_eq_true rfl) ⟨Nat.le_of_ble_eq_true rfl, Nat.le_of_ble_eq_true rfl⟩ ⟨Nat.le_of_ble_eq_true rfl, Nat.le_of_ble_eq_true rfl⟩ (k' := 0) (z' := 0) (N' := N) rfl rfl rfl (fun r σ10765 hp => ?_)
      obtain ⟨rfl, rfl⟩ := hp
      refine Wm.topE (w := 115) (by decide) ?_
      refine m_bipush F (v := 32) (by decide) e_X10_wordHere_77 ?_
      refine m_icmp_ne F e_X10_wordHere_79 (fun _ => ?_) (fun q => absurd q (by decide))
      refine Wm.lvsub (lv' := [(1, .int 8), (2, .int 43), (0, .ref c)]) ?_ [1, 2, 3] rfl
      exact wk_8 F hQ h1 f20 hB hn7 hsa hpn hl hm (fun hz => by have z1 : P.a = st + 4 := hz.1; have z2 : t (st) = 115 := hz.2 0 (by decide); omega)
    · have c60 : (t st) = 115 := (nI_eq (a := (t st)) (b := 115) (by omega) (by omega)).mp q60
      refine m_iinc F (v := 1) (lv' := [(3, .int 1), (1, .int 8), (2, .int 43), (0, .ref c)]) e_X10_wordHere_63 rfl (by decide) (by decide) rfl ?_
      refine m_goto F e_X10_wordHere_66 ?_
      refine m_ldcS F e_X10_wordHere_15 F.sw.1.2.2 ?_
      refine m_iload_n F rfl e_X10_wordHere_17 ?_
      refine m_iload_n F rfl e_X10_wordHere_18 ?_
      refine m_iadd F e_X10_wordHere_19 ?_
      refine Wm.topE (w := 44) (by decide) ?_
      refine m_callO F e_X10_wordHere_20 (q_charAt (x_l X) V _ _ 44 (by omega)) cb_J0_charAt_5068e ml_X10_137 im_J0_charAt_5068e se_J0_charAt_5068e F.sw.2.2.2.2.2.2.1 rfl (rest := []) rfl (Nat.le_of_ble_eq_true rfl) ⟨Nat.le_of_ble_eq_true rfl, Nat.le_of_ble_eq_true rfl⟩ ⟨Nat.le_of_ble_eq_true rfl, Nat.le_of_ble_eq_true rfl⟩ (k' := 0) (z' := 0) (N' := N) rfl rfl rfl (fun r σ10766 hp => ?_)
      obtain ⟨rfl, rfl⟩ := hp
      refine Wm.topE (w := 101) (by decide) ?_
      refine m_bipush F (v := 32) (by decide) e_X10_wordHere_23 ?_
      refine m_icmp_eq F e_X10_wordHere_25 (fun q => absurd q (by decide)) (fun _ => ?_)
      refine m_aload_n F rfl e_X10_wordHere_28 ?_
      refine r_getC F e_X10_wordHere_29 fl_X10_107 h1 (f20) ?_
      refine m_iload_n F rfl e_X10_wordHere_32 ?_
      refine m_iadd F e_X10_wordHere_33 ?_
      refine Wm.topE (w := nI (st + 1)) (nI_add st 1) ?_
      refine m_aload_n F rfl e_X10_wordHere_34 ?_
      refine r_getC F e_X10_wordHere_35 fl_X10_97 h1 (f10757) ?_
      refine m_icmp_ge F e_X10_wordHere_38 (fun q38 => ?_) (fun q38 => ?_)
      · have c38 : (st + 1) ≥ P.a := (nI_leI (a := P.a) (b := (st + 1)) (by omega) (by omega)).mp q38
        refine m_ldcS F e_X10_wordHere_69 F.sw.1.2.2 ?_
        refine m_iload_n F rfl e_X10_wordHere_71 ?_
        refine m_iload_n F rfl e_X10_wordHere_72 ?_
        refine m_iadd F e_X10_wordHere_73 ?_
        refine Wm.topE (w := 44) (by decide) ?_
        refine m_callO F e_X10_wordHere_74 (q_charAt (x_l X) V _ _ 44 (by omega)) cb_J0_charAt_5068e ml_X10_137 im_J0_charAt_5068e se_J0_charAt_5068e F.sw.2.2.2.2.2.2.1 rfl (rest := []) rfl (Nat.le_of_ble_eq_true rfl) ⟨Nat.le_of_ble_eq_true rfl, Nat.le_of_ble_eq_true rfl⟩ ⟨Nat.le_of_ble_eq_true rfl, Nat.le_of_ble_eq_true rfl⟩ (k' := 0) (z' := 0) (N' := N) rfl rfl rfl (fun r σ10767 hp => ?_)
        obtain ⟨rfl, rfl⟩ := hp
        refine Wm.topE (w := 101) (by decide) ?_
        refine m_bipush F (v := 32) (by decide) e_X10_wordHere_77 ?_
        refine m_icmp_ne F e_X10_wordHere_79 (fun _ => ?_) (fun q => absurd q (by decide))
        refine Wm.lvsub (lv' := [(1, .int 8), (2, .int 43), (0, .ref c)]) ?_ [1, 2, 3] rfl
        exact wk_8 F hQ h1 f20 hB hn7 hsa hpn hl hm (fun hz => by have z1 : P.a = st + 4 := hz.1; have z2 : t (st + 1) = 101 := hz.2 1 (by decide); omega)
      · have c38 : (st + 1) < P.a := by have hh := mt (nI_leI (a := P.a) (b := (st + 1)) (by omega) (by omega)).mpr q38; omega
        refine m_aload_n F rfl e_X10_wordHere_41 ?_
        refine r_getC F e_X10_wordHere_42 fl_X10_7 h1 (f10759) ?_
        refine m_aload_n F rfl e_X10_wordHere_45 ?_
        refine r_getC F e_X10_wordHere_46 fl_X10_107 h1 (f20) ?_
        refine m_iload_n F rfl e_X10_wordHere_49 ?_
        refine m_iadd F e_X10_wordHere_50 ?_
        refine Wm.topE (w := nI (st + 1)) (nI_add st 1) ?_
        have hb10768 := (hB (st + 1) (by omega)).1
        refine r_iald F (len := 700) (j := st + 1) e_X10_wordHere_51 h1 (fun _ h => h) (by decide) (nI_clamp (by omega)) (vp_in_nI (by omega) (by decide)) (fun x10769 h10770 f10771 => ?_)
        obtain rfl := Option.some.inj ((f10771).symm.trans ((hB (st + 1) (by omega)).2))
        refine m_ldcS F e_X10_wordHere_52 F.sw.1.2.2 ?_
        refine m_iload_n F rfl e_X10_wordHere_54 ?_
        refine m_iload_n F rfl e_X10_wordHere_55 ?_
        refine m_iadd F e_X10_wordHere_56 ?_
        refine Wm.topE (w := 44) (by decide) ?_
        refine m_callO F e_X10_wordHere_57 (q_charAt (x_l X) V _ _ 44 (by omega)) cb_J0_charAt_5068e ml_X10_137 im_J0_charAt_5068e se_J0_charAt_5068e F.sw.2.2.2.2.2.2.1 rfl (rest := [.int (nI (t (st + 1)))]) rfl (Nat.le_of_ble_eq_true rfl) ⟨Nat.le_of_ble_eq_true rfl, Nat.le_of_ble_eq_true rfl⟩ ⟨Nat.le_of_ble_eq_true rfl, Nat.le_of_ble_eq_true rfl⟩ (k' := 0) (z' := 0) (N' := N) rfl rfl rfl (fun r σ10772 hp => ?_)
        obtain ⟨rfl, rfl⟩ := hp
        refine Wm.topE (w := 101) (by decide) ?_
        refine m_icmp_ne F e_X10_wordHere_60 (fun q60 => ?_) (fun q60 => ?_)
        · have c60 : (t (st + 1)) ≠ 101 := by have hh := mt (nI_eq (a := (t (st + 1))) (b := 101) (by omega) (by omega)).mpr q60; omega
          refine m_ldcS F e_X10_wordHere_69 F.sw.1.2.2 ?_
          refine m_iload_n F rfl e_X10_wordHere_71 ?_
          refine m_iload_n F rfl e_X10_wordHere_72 ?_
          refine m_iadd F e_X10_wordHere_73 ?_
          refine Wm.topE (w := 44) (by decide) ?_
          refine m_callO F e_X10_wordHere_74 (q_charAt (x_l X) V _ _ 44 (by omega)) cb_J0_charAt_5068e ml_X10_137 im_J0_charAt_5068e se_J0_charAt_5068e F.sw.2.2.2.2.2.2.1 rfl (rest := []) rfl (Nat.le_of_ble_eq_true rfl) ⟨Nat.le_of_ble_eq_true rfl, Nat.le_of_ble_eq_true rfl⟩ ⟨Nat.le_of_ble_eq_true rfl, Nat.le_of_ble_eq_true rfl⟩ (k' := 0) (z' := 0) (N' := N) rfl rfl rfl (fun r σ10773 hp => ?_)
          obtain ⟨rfl, rfl⟩ := hp
          refine Wm.topE (w := 101) (by decide) ?_
          refine m_bipush F (v := 32) (by decide) e_X10_wordHere_77 ?_
          refine m_icmp_ne F e_X10_wordHere_79 (fun _ => ?_) (fun q => absurd q (by decide))
          refine Wm.lvsub (lv' := [(1, .int 8), (2, .int 43), (0, .ref c)]) ?_ [1, 2, 3] rfl
          exact wk_8 F hQ h1 f20 hB hn7 hsa hpn hl hm (fun hz => by have z1 : P.a = st + 4 := hz.1; have z2 : t (st + 1) = 101 := hz.2 1 (by decide); omega)
        · have c60 : (t (st + 1)) = 101 := (nI_eq (a := (t (st + 1))) (b := 101) (by omega) (by omega)).mp q60
          refine m_iinc F (v := 2) (lv' := [(3, .int 2), (1, .int 8), (2, .int 43), (0, .ref c)]) e_X10_wordHere_63 rfl (by decide) (by decide) rfl ?_
          refine m_goto F e_X10_wordHere_66 ?_
          refine m_ldcS F e_X10_wordHere_15 F.sw.1.2.2 ?_
          refine m_iload_n F rfl e_X10_wordHere_17 ?_
          refine m_iload_n F rfl e_X10_wordHere_18 ?_
          refine m_iadd F e_X10_wordHere_19 ?_
          refine Wm.topE (w := 45) (by decide) ?_
          refine m_callO F e_X10_wordHere_20 (q_charAt (x_l X) V _ _ 45 (by omega)) cb_J0_charAt_5068e ml_X10_137 im_J0_charAt_5068e se_J0_charAt_5068e F.sw.2.2.2.2.2.2.1 rfl (rest := []) rfl (Nat.le_of_ble_eq_true rfl) ⟨Nat.le_of_ble_eq_true rfl, Nat.le_of_ble_eq_true rfl⟩ ⟨Nat.le_of_ble_eq_true rfl, Nat.le_of_ble_eq_true rfl⟩ (k' := 0) (z' := 0) (N' := N) rfl rfl rfl (fun r σ10774 hp => ?_)
          obtain ⟨rfl, rfl⟩ := hp
          refine Wm.topE (w := 101) (by decide) ?_
          refine m_bipush F (v := 32) (by decide) e_X10_wordHere_23 ?_
          refine m_icmp_eq F e_X10_wordHere_25 (fun q => absurd q (by decide)) (fun _ => ?_)
          refine m_aload_n F rfl e_X10_wordHere_28 ?_
          refine r_getC F e_X10_wordHere_29 fl_X10_107 h1 (f20) ?_
          refine m_iload_n F rfl e_X10_wordHere_32 ?_
          refine m_iadd F e_X10_wordHere_33 ?_
          refine Wm.topE (w := nI (st + 2)) (nI_add st 2) ?_
          refine m_aload_n F rfl e_X10_wordHere_34 ?_
          refine r_getC F e_X10_wordHere_35 fl_X10_97 h1 (f10757) ?_
          refine m_icmp_ge F e_X10_wordHere_38 (fun q38 => ?_) (fun q38 => ?_)
          · have c38 : (st + 2) ≥ P.a := (nI_leI (a := P.a) (b := (st + 2)) (by omega) (by omega)).mp q38
            refine m_ldcS F e_X10_wordHere_69 F.sw.1.2.2 ?_
            refine m_iload_n F rfl e_X10_wordHere_71 ?_
            refine m_iload_n F rfl e_X10_wordHere_72 ?_
            refine m_iadd F e_X10_wordHere_73 ?_
            refine Wm.topE (w := 45) (by decide) ?_
            refine m_callO F e_X10_wordHere_74 (q_charAt (x_l X) V _ _ 45 (by omega)) cb_J0_charAt_5068e ml_X10_137 im_J0_charAt_5068e se_J0_charAt_5068e F.sw.2.2.2.2.2.2.1 rfl (rest := []) rfl (Nat.le_of_ble_eq_true rfl) ⟨Nat.le_of_ble_eq_true rfl, Nat.le_of_ble_eq_true rfl⟩ ⟨Nat.le_of_ble_eq_true rfl, Nat.le_of_ble_eq_true rfl⟩ (k' := 0) (z' := 0) (N' := N) rfl rfl rfl (fun r σ10775 hp => ?_)
            obtain ⟨rfl, rfl⟩ := hp
            refine Wm.topE (w := 101) (by decide) ?_
            refine m_bipush F (v := 32) (by decide) e_X10_wordHere_77 ?_
            refine m_icmp_ne F e_X10_wordHere_79 (fun _ => ?_) (fun q => absurd q (by decide))
            refine Wm.lvsub (lv' := [(1, .int 8), (2, .int 43), (0, .ref c)]) ?_ [1, 2, 3] rfl
            exact wk_8 F hQ h1 f20 hB hn7 hsa hpn hl hm (fun hz => by have z1 : P.a = st + 4 := hz.1; have z2 : t (st + 2) = 101 := hz.2 2 (by decide); omega)
          · have c38 : (st + 2) < P.a := by have hh := mt (nI_leI (a := P.a) (b := (st + 2)) (by omega) (by omega)).mpr q38; omega
            refine m_aload_n F rfl e_X10_wordHere_41 ?_
            refine r_getC F e_X10_wordHere_42 fl_X10_7 h1 (f10759) ?_
            refine m_aload_n F rfl e_X10_wordHere_45 ?_
            refine r_getC F e_X10_wordHere_46 fl_X10_107 h1 (f20) ?_
            refine m_iload_n F rfl e_X10_wordHere_49 ?_
            refine m_iadd F e_X10_wordHere_50 ?_
            refine Wm.topE (w := nI (st + 2)) (nI_add st 2) ?_
            have hb10776 := (hB (st + 2) (by omega)).1
            refine r_iald F (len := 700) (j := st + 2) e_X10_wordHere_51 h1 (fun _ h => h) (by decide) (nI_clamp (by omega)) (vp_in_nI (by omega) (by decide)) (fun x10777 h10778 f10779 => ?_)
            obtain rfl := Option.some.inj ((f10779).symm.trans ((hB (st + 2) (by omega)).2))
            refine m_ldcS F e_X10_wordHere_52 F.sw.1.2.2 ?_
            refine m_iload_n F rfl e_X10_wordHere_54 ?_
            refine m_iload_n F rfl e_X10_wordHere_55 ?_
            refine m_iadd F e_X10_wordHere_56 ?_
            refine Wm.topE (w := 45) (by decide) ?_
            refine m_callO F e_X10_wordHere_57 (q_charAt (x_l X) V _ _ 45 (by omega)) cb_J0_charAt_5068e ml_X10_137 im_J0_charAt_5068e se_J0_charAt_5068e F.sw.2.2.2.2.2.2.1 rfl (rest := [.int (nI (t (st + 2)))]) rfl (Nat.le_of_ble_eq_true rfl) ⟨Nat.le_of_ble_eq_true rfl, Nat.le_of_ble_eq_true rfl⟩ ⟨Nat.le_of_ble_eq_true rfl, Nat.le_of_ble_eq_true rfl⟩ (k' := 0) (z' := 0) (N' := N) rfl rfl rfl (fun r σ10780 hp => ?_)
            obtain ⟨rfl, rfl⟩ := hp
            refine Wm.topE (w := 101) (by decide) ?_
            refine m_icmp_ne F e_X10_wordHere_60 (fun q60 => ?_) (fun q60 => ?_)
            · have c60 : (t (st + 2)) ≠ 101 := by have hh := mt (nI_eq (a := (t (st + 2))) (b := 101) (by omega) (by omega)).mpr q60; omega
              refine m_ldcS F e_X10_wordHere_69 F.sw.1.2.2 ?_
              refine m_iload_n F rfl e_X10_wordHere_71 ?_
              refine m_iload_n F rfl e_X10_wordHere_72 ?_
              refine m_iadd F e_X10_wordHere_73 ?_
              refine Wm.topE (w := 45) (by decide) ?_
              refine m_callO F e_X10_wordHere_74 (q_charAt (x_l X) V _ _ 45 (by omega)) cb_J0_charAt_5068e ml_X10_137 im_J0_charAt_5068e se_J0_charAt_5068e F.sw.2.2.2.2.2.2.1 rfl (rest := []) rfl (Nat.le_of_ble_eq_true rfl) ⟨Nat.le_of_ble_eq_true rfl, Nat.le_of_ble_eq_true rfl⟩ ⟨Nat.le_of_ble_eq_true rfl, Nat.le_of_ble_eq_true rfl⟩ (k' := 0) (z' := 0) (N' := N) rfl rfl rfl (fun r σ10781 hp => ?_)
              obtain ⟨rfl, rfl⟩ := hp
              refine Wm.topE (w := 101) (by decide) ?_
              refine m_bipush F (v := 32) (by decide) e_X10_wordHere_77 ?_
              refine m_icmp_ne F e_X10_wordHere_79 (fun _ => ?_) (fun q => absurd q (by decide))
              refine Wm.lvsub (lv' := [(1, .int 8), (2, .int 43), (0, .ref c)]) ?_ [1, 2, 3] rfl
              exact wk_8 F hQ h1 f20 hB hn7 hsa hpn hl hm (fun hz => by have z1 : P.a = st + 4 := hz.1; have z2 : t (st + 2) = 101 := hz.2 2 (by decide); omega)
            · have c60 : (t (st + 2)) = 101 := (nI_eq (a := (t (st + 2))) (b := 101) (by omega) (by omega)).mp q60
              refine m_iinc F (v := 3) (lv' := [(3, .int 3), (1, .int 8), (2, .int 43), (0, .ref c)]) e_X10_wordHere_63 rfl (by decide) (by decide) rfl ?_
              refine m_goto F e_X10_wordHere_66 ?_
              refine m_ldcS F e_X10_wordHere_15 F.sw.1.2.2 ?_
              refine m_iload_n F rfl e_X10_wordHere_17 ?_
              refine m_iload_n F rfl e_X10_wordHere_18 ?_
              refine m_iadd F e_X10_wordHere_19 ?_
              refine Wm.topE (w := 46) (by decide) ?_
              refine m_callO F e_X10_wordHere_20 (q_charAt (x_l X) V _ _ 46 (by omega)) cb_J0_charAt_5068e ml_X10_137 im_J0_charAt_5068e se_J0_charAt_5068e F.sw.2.2.2.2.2.2.1 rfl (rest := []) rfl (Nat.le_of_ble_eq_true rfl) ⟨Nat.le_of_ble_eq_true rfl, Nat.le_of_ble_eq_true rfl⟩ ⟨Nat.le_of_ble_eq_true rfl, Nat.le_of_ble_eq_true rfl⟩ (k' := 0) (z' := 0) (N' := N) rfl rfl rfl (fun r σ10782 hp => ?_)
              obtain ⟨rfl, rfl⟩ := hp
              refine Wm.topE (w := 100) (by decide) ?_
              refine m_bipush F (v := 32) (by decide) e_X10_wordHere_23 ?_
              refine m_icmp_eq F e_X10_wordHere_25 (fun q => absurd q (by decide)) (fun _ => ?_)
              refine m_aload_n F rfl e_X10_wordHere_28 ?_
              refine r_getC F e_X10_wordHere_29 fl_X10_107 h1 (f20) ?_
              refine m_iload_n F rfl e_X10_wordHere_32 ?_
              refine m_iadd F e_X10_wordHere_33 ?_
              refine Wm.topE (w := nI (st + 3)) (nI_add st 3) ?_
              refine m_aload_n F rfl e_X10_wordHere_34 ?_
              refine r_getC F e_X10_wordHere_35 fl_X10_97 h1 (f10757) ?_
              refine m_icmp_ge F e_X10_wordHere_38 (fun q38 => ?_) (fun q38 => ?_)
              · have c38 : (st + 3) ≥ P.a := (nI_leI (a := P.a) (b := (st + 3)) (by omega) (by omega)).mp q38
                refine m_ldcS F e_X10_wordHere_69 F.sw.1.2.2 ?_
                refine m_iload_n F rfl e_X10_wordHere_71 ?_
                refine m_iload_n F rfl e_X10_wordHere_72 ?_
                refine m_iadd F e_X10_wordHere_73 ?_
                refine Wm.topE (w := 46) (by decide) ?_
                refine m_callO F e_X10_wordHere_74 (q_charAt (x_l X) V _ _ 46 (by omega)) cb_J0_charAt_5068e ml_X10_137 im_J0_charAt_5068e se_J0_charAt_5068e F.sw.2.2.2.2.2.2.1 rfl (rest := []) rfl (Nat.le_of_ble_eq_true rfl) ⟨Nat.le_of_ble_eq_true rfl, Nat.le_of_ble_eq_true rfl⟩ ⟨Nat.le_of_ble_eq_true rfl, Nat.le_of_ble_eq_true rfl⟩ (k' := 0) (z' := 0) (N' := N) rfl rfl rfl (fun r σ10783 hp => ?_)
                obtain ⟨rfl, rfl⟩ := hp
                refine Wm.topE (w := 100) (by decide) ?_
                refine m_bipush F (v := 32) (by decide) e_X10_wordHere_77 ?_
                refine m_icmp_ne F e_X10_wordHere_79 (fun _ => ?_) (fun q => absurd q (by decide))
                refine Wm.lvsub (lv' := [(1, .int 8), (2, .int 43), (0, .ref c)]) ?_ [1, 2, 3] rfl
                exact wk_8 F hQ h1 f20 hB hn7 hsa hpn hl hm (fun hz => by have z1 : P.a = st + 4 := hz.1; have z2 : t (st + 3) = 100 := hz.2 3 (by decide); omega)
              · have c38 : (st + 3) < P.a := by have hh := mt (nI_leI (a := P.a) (b := (st + 3)) (by omega) (by omega)).mpr q38; omega
                refine m_aload_n F rfl e_X10_wordHere_41 ?_
                refine r_getC F e_X10_wordHere_42 fl_X10_7 h1 (f10759) ?_
                refine m_aload_n F rfl e_X10_wordHere_45 ?_
                refine r_getC F e_X10_wordHere_46 fl_X10_107 h1 (f20) ?_
                refine m_iload_n F rfl e_X10_wordHere_49 ?_
                refine m_iadd F e_X10_wordHere_50 ?_
                refine Wm.topE (w := nI (st + 3)) (nI_add st 3) ?_
                have hb10784 := (hB (st + 3) (by omega)).1
                refine r_iald F (len := 700) (j := st + 3) e_X10_wordHere_51 h1 (fun _ h => h) (by decide) (nI_clamp (by omega)) (vp_in_nI (by omega) (by decide)) (fun x10785 h10786 f10787 => ?_)
                obtain rfl := Option.some.inj ((f10787).symm.trans ((hB (st + 3) (by omega)).2))
                refine m_ldcS F e_X10_wordHere_52 F.sw.1.2.2 ?_
                refine m_iload_n F rfl e_X10_wordHere_54 ?_
                refine m_iload_n F rfl e_X10_wordHere_55 ?_
                refine m_iadd F e_X10_wordHere_56 ?_
                refine Wm.topE (w := 46) (by decide) ?_
                refine m_callO F e_X10_wordHere_57 (q_charAt (x_l X) V _ _ 46 (by omega)) cb_J0_charAt_5068e ml_X10_137 im_J0_charAt_5068e se_J0_charAt_5068e F.sw.2.2.2.2.2.2.1 rfl (rest := [.int (nI (t (st + 3)))]) rfl (Nat.le_of_ble_eq_true rfl) ⟨Nat.le_of_ble_eq_true rfl, Nat.le_of_ble_eq_true rfl⟩ ⟨Nat.le_of_ble_eq_true rfl, Nat.le_of_ble_eq_true rfl⟩ (k' := 0) (z' := 0) (N' := N) rfl rfl rfl (fun r σ10788 hp => ?_)
                obtain ⟨rfl, rfl⟩ := hp
                refine Wm.topE (w := 100) (by decide) ?_
                refine m_icmp_ne F e_X10_wordHere_60 (fun q60 => ?_) (fun q60 => ?_)
                · have c60 : (t (st + 3)) ≠ 100 := by have hh := mt (nI_eq (a := (t (st + 3))) (b := 100) (by omega) (by omega)).mpr q60; omega
                  refine m_ldcS F e_X10_wordHere_69 F.sw.1.2.2 ?_
                  refine m_iload_n F rfl e_X10_wordHere_71 ?_
                  refine m_iload_n F rfl e_X10_wordHere_72 ?_
                  refine m_iadd F e_X10_wordHere_73 ?_
                  refine Wm.topE (w := 46) (by decide) ?_
                  refine m_callO F e_X10_wordHere_74 (q_charAt (x_l X) V _ _ 46 (by omega)) cb_J0_charAt_5068e ml_X10_137 im_J0_charAt_5068e se_J0_charAt_5068e F.sw.2.2.2.2.2.2.1 rfl (rest := []) rfl (Nat.le_of_ble_eq_true rfl) ⟨Nat.le_of_ble_eq_true rfl, Nat.le_of_ble_eq_true rfl⟩ ⟨Nat.le_of_ble_eq_true rfl, Nat.le_of_ble_eq_true rfl⟩ (k' := 0) (z' := 0) (N' := N) rfl rfl rfl (fun r σ10789 hp => ?_)
                  obtain ⟨rfl, rfl⟩ := hp
                  refine Wm.topE (w := 100) (by decide) ?_
                  refine m_bipush F (v := 32) (by decide) e_X10_wordHere_77 ?_
                  refine m_icmp_ne F e_X10_wordHere_79 (fun _ => ?_) (fun q => absurd q (by decide))
                  refine Wm.lvsub (lv' := [(1, .int 8), (2, .int 43), (0, .ref c)]) ?_ [1, 2, 3] rfl
                  exact wk_8 F hQ h1 f20 hB hn7 hsa hpn hl hm (fun hz => by have z1 : P.a = st + 4 := hz.1; have z2 : t (st + 3) = 100 := hz.2 3 (by decide); omega)
                · have c60 : (t (st + 3)) = 100 := (nI_eq (a := (t (st + 3))) (b := 100) (by omega) (by omega)).mp q60
                  refine m_iinc F (v := 4) (lv' := [(3, .int 4), (1, .int 8), (2, .int 43), (0, .ref c)]) e_X10_wordHere_63 rfl (by decide) (by decide) rfl ?_
                  refine m_goto F e_X10_wordHere_66 ?_
                  refine m_ldcS F e_X10_wordHere_15 F.sw.1.2.2 ?_
                  refine m_iload_n F rfl e_X10_wordHere_17 ?_
                  refine m_iload_n F rfl e_X10_wordHere_18 ?_
                  refine m_iadd F e_X10_wordHere_19 ?_
                  refine Wm.topE (w := 47) (by decide) ?_
                  refine m_callO F e_X10_wordHere_20 (q_charAt (x_l X) V _ _ 47 (by omega)) cb_J0_charAt_5068e ml_X10_137 im_J0_charAt_5068e se_J0_charAt_5068e F.sw.2.2.2.2.2.2.1 rfl (rest := []) rfl (Nat.le_of_ble_eq_true rfl) ⟨Nat.le_of_ble_eq_true rfl, Nat.le_of_ble_eq_true rfl⟩ ⟨Nat.le_of_ble_eq_true rfl, Nat.le_of_ble_eq_true rfl⟩ (k' := 0) (z' := 0) (N' := N) rfl rfl rfl (fun r σ10790 hp => ?_)
                  obtain ⟨rfl, rfl⟩ := hp
                  refine Wm.topE (w := 32) (by decide) ?_
                  refine m_bipush F (v := 32) (by decide) e_X10_wordHere_23 ?_
                  refine m_icmp_eq F e_X10_wordHere_25 (fun _ => ?_) (fun q => absurd (by decide) q)
                  refine m_ldcS F e_X10_wordHere_69 F.sw.1.2.2 ?_
                  refine m_iload_n F rfl e_X10_wordHere_71 ?_
                  refine m_iload_n F rfl e_X10_wordHere_72 ?_
                  refine m_iadd F e_X10_wordHere_73 ?_
                  refine Wm.topE (w := 47) (by decide) ?_
                  refine m_callO F e_X10_wordHere_74 (q_charAt (x_l X) V _ _ 47 (by omega)) cb_J0_charAt_5068e ml_X10_137 im_J0_charAt_5068e se_J0_charAt_5068e F.sw.2.2.2.2.2.2.1 rfl (rest := []) rfl (Nat.le_of_ble_eq_true rfl) ⟨Nat.le_of_ble_eq_true rfl, Nat.le_of_ble_eq_true rfl⟩ ⟨Nat.le_of_ble_eq_true rfl, Nat.le_of_ble_eq_true rfl⟩ (k' := 0) (z' := 0) (N' := N) rfl rfl rfl (fun r σ10791 hp => ?_)
                  obtain ⟨rfl, rfl⟩ := hp
                  refine Wm.topE (w := 32) (by decide) ?_
                  refine m_bipush F (v := 32) (by decide) e_X10_wordHere_77 ?_
                  refine m_icmp_ne F e_X10_wordHere_79 (fun q => absurd (by decide) q) (fun _ => ?_)
                  refine m_aload_n F rfl e_X10_wordHere_82 ?_
                  refine r_getC F e_X10_wordHere_83 fl_X10_107 h1 (f20) ?_
                  refine m_iload_n F rfl e_X10_wordHere_86 ?_
                  refine m_iadd F e_X10_wordHere_87 ?_
                  refine Wm.topE (w := nI (st + 4)) (nI_add st 4) ?_
                  refine m_aload_n F rfl e_X10_wordHere_88 ?_
                  refine r_getC F e_X10_wordHere_89 fl_X10_97 h1 (f10757) ?_
                  refine m_icmp_ne F e_X10_wordHere_92 (fun q92 => ?_) (fun q92 => ?_)
                  · have c92 : (st + 4) ≠ P.a := by have hh := mt (nI_eq (a := (st + 4)) (b := P.a) (by omega) (by omega)).mpr q92; omega
                    refine Wm.lvsub (lv' := [(1, .int 8), (2, .int 43), (0, .ref c)]) ?_ [1, 2, 3] rfl
                    exact wk_8 F hQ h1 f20 hB hn7 hsa hpn hl hm (fun hz => by have z1 : P.a = st + 4 := hz.1; omega)
                  · have c92 : (st + 4) = P.a := (nI_eq (a := (st + 4)) (b := P.a) (by omega) (by omega)).mp q92
                    refine m_iload_n F rfl e_X10_wordHere_95 ?_
                    have hz : mw t st P.a 8 := by
                      refine ⟨(show P.a = st + 4 by omega), fun i hi => ?_⟩
                      have hi2 : i = 0 ∨ i = 1 ∨ i = 2 ∨ i = 3 := by have hi3 : i < 4 := hi; omega
                      rcases hi2 with rfl | rfl | rfl | rfl
                      · show t (st + 0) = 115; first | assumption | omega
                      · show t (st + 1) = 101; first | assumption | omega
                      · show t (st + 2) = 101; first | assumption | omega
                      · show t (st + 3) = 100; first | assumption | omega
                    have hy := kix_mw hsa hl (by decide) hz
                    exact m_iret F hQ e_X10_wordHere_96 ⟨h1, Or.inl ⟨hy.1, by rw [hy.2]; decide, by rw [hy.2]; rfl⟩⟩
set_option maxRecDepth 20000 in
theorem wk_7 {V : VX} {X : MX} {N : Nat} {σ : Mem} {c T Z u h : Nat} {P : NP} {L : Nat → LQ} {n st : Nat} {t : Nat → Nat} (F : Fx V X yX10_wordHere cX10_wordHere 4 (some .int) (rmd 4 0 0)) (hQ : Rt V X 0 0 N (fun r τ => HS V c (⟨T, Z, u, h, P, L⟩ : RG) [0, 1, 2, 3, 4, 5, 6, 7, 8, 9, 10, 11, 12, 13, 14, 15, 16, 17, 18, 19, 20, 21, 22, 23] σ τ ∧ ((P.a - st ≤ 6 ∧ kix (nmc t st P.a 6) < 9 ∧ r = some (.int (nI (kix (nmc t st P.a 6))))) ∨ (¬ (P.a - st ≤ 6 ∧ kix (nmc t st P.a 6) < 9) ∧ r = some (.int (-1)))))) (h1 : HS V c ⟨T, Z, u, h, P, L⟩ [0, 1, 2, 3, 4, 5, 6, 7, 8, 9, 10, 11, 12, 13, 14, 15, 16, 17, 18, 19, 20, 21, 22, 23] σ σ) (f20 : fld σ c 20 = some (.int (nI st))) (hB : BR σ c n t) (hn7 : n ≤ 700) (hsa : st < P.a) (hpn : P.a ≤ n) (hl : ∀ i, st ≤ i → i < P.a → isL (t i) = true) (hm : ∀ m, m < 7 → ¬ mw t st P.a m) (hz : ¬ mw t st P.a 7) : Wm V X 4 N σ 0 0 97 [(1, .int 7), (2, .int 36), (0, .ref c)] [] := by
  refine m_ldcS F e_X10_wordHere_97 F.sw.1.2.2 ?_
  refine m_iload_n F rfl e_X10_wordHere_99 ?_
  refine m_callO F e_X10_wordHere_100 (q_charAt (x_l X) V _ _ 36 (by omega)) cb_J0_charAt_5068e ml_X10_137 im_J0_charAt_5068e se_J0_charAt_5068e F.sw.2.2.2.2.2.2.1 rfl (rest := []) rfl (Nat.le_of_ble_eq_true rfl) ⟨Nat.le_of_ble_eq_true rfl, Nat.le_of_ble_eq_true rfl⟩ ⟨Nat.le_of_ble_eq_true rfl, Nat.le_of_ble_eq_true rfl⟩ (k' := 0) (z' := 0) (N' := N) rfl rfl rfl (fun r σ10792 hp => ?_)
  obtain ⟨rfl, rfl⟩ := hp
  refine Wm.topE (w := 111) (by decide) ?_
  refine m_bipush F (v := 32) (by decide) e_X10_wordHere_103 ?_
  refine m_icmp_eq F e_X10_wordHere_105 (fun q => absurd q (by decide)) (fun _ => ?_)
  refine m_iinc F (v := 37) (lv' := [(2, .int 37), (1, .int 7), (0, .ref c)]) e_X10_wordHere_108 rfl (by decide) (by decide) rfl ?_
  refine m_goto F e_X10_wordHere_111 ?_
  refine m_ldcS F e_X10_wordHere_97 F.sw.1.2.2 ?_
  refine m_iload_n F rfl e_X10_wordHere_99 ?_
  refine m_callO F e_X10_wordHere_100 (q_charAt (x_l X) V _ _ 37 (by omega)) cb_J0_charAt_5068e ml_X10_137 im_J0_charAt_5068e se_J0_charAt_5068e F.sw.2.2.2.2.2.2.1 rfl (rest := []) rfl (Nat.le_of_ble_eq_true rfl) ⟨Nat.le_of_ble_eq_true rfl, Nat.le_of_ble_eq_true rfl⟩ ⟨Nat.le_of_ble_eq_true rfl, Nat.le_of_ble_eq_true rfl⟩ (k' := 0) (z' := 0) (N' := N) rfl rfl rfl (fun r σ10793 hp => ?_)
  obtain ⟨rfl, rfl⟩ := hp
  refine Wm.topE (w := 112) (by decide) ?_
  refine m_bipush F (v := 32) (by decide) e_X10_wordHere_103 ?_
  refine m_icmp_eq F e_X10_wordHere_105 (fun q => absurd q (by decide)) (fun _ => ?_)
  refine m_iinc F (v := 38) (lv' := [(2, .int 38), (1, .int 7), (0, .ref c)]) e_X10_wordHere_108 rfl (by decide) (by decide) rfl ?_
  refine m_goto F e_X10_wordHere_111 ?_
  refine m_ldcS F e_X10_wordHere_97 F.sw.1.2.2 ?_
  refine m_iload_n F rfl e_X10_wordHere_99 ?_
  refine m_callO F e_X10_wordHere_100 (q_charAt (x_l X) V _ _ 38 (by omega)) cb_J0_charAt_5068e ml_X10_137 im_J0_charAt_5068e se_J0_charAt_5068e F.sw.2.2.2.2.2.2.1 rfl (rest := []) rfl (Nat.le_of_ble_eq_true rfl) ⟨Nat.le_of_ble_eq_true rfl, Nat.le_of_ble_eq_true rfl⟩ ⟨Nat.le_of_ble_eq_true rfl, Nat.le_of_ble_eq_true rfl⟩ (k' := 0) (z' := 0) (N' := N) rfl rfl rfl (fun r σ10794 hp => ?_)
  obtain ⟨rfl, rfl⟩ := hp
  refine Wm.topE (w := 116) (by decide) ?_
  refine m_bipush F (v := 32) (by decide) e_X10_wordHere_103 ?_
  refine m_icmp_eq F e_X10_wordHere_105 (fun q => absurd q (by decide)) (fun _ => ?_)
  refine m_iinc F (v := 39) (lv' := [(2, .int 39), (1, .int 7), (0, .ref c)]) e_X10_wordHere_108 rfl (by decide) (by decide) rfl ?_
  refine m_goto F e_X10_wordHere_111 ?_
  refine m_ldcS F e_X10_wordHere_97 F.sw.1.2.2 ?_
  refine m_iload_n F rfl e_X10_wordHere_99 ?_
  refine m_callO F e_X10_wordHere_100 (q_charAt (x_l X) V _ _ 39 (by omega)) cb_J0_charAt_5068e ml_X10_137 im_J0_charAt_5068e se_J0_charAt_5068e F.sw.2.2.2.2.2.2.1 rfl (rest := []) rfl (Nat.le_of_ble_eq_true rfl) ⟨Nat.le_of_ble_eq_true rfl, Nat.le_of_ble_eq_true rfl⟩ ⟨Nat.le_of_ble_eq_true rfl, Nat.le_of_ble_eq_true rfl⟩ (k' := 0) (z' := 0) (N' := N) rfl rfl rfl (fun r σ10795 hp => ?_)
  obtain ⟨rfl, rfl⟩ := hp
  refine Wm.topE (w := 105) (by decide) ?_
  refine m_bipush F (v := 32) (by decide) e_X10_wordHere_103 ?_
  refine m_icmp_eq F e_X10_wordHere_105 (fun q => absurd q (by decide)) (fun _ => ?_)
  refine m_iinc F (v := 40) (lv' := [(2, .int 40), (1, .int 7), (0, .ref c)]) e_X10_wordHere_108 rfl (by decide) (by decide) rfl ?_
  refine m_goto F e_X10_wordHere_111 ?_
  refine m_ldcS F e_X10_wordHere_97 F.sw.1.2.2 ?_
  refine m_iload_n F rfl e_X10_wordHere_99 ?_
  refine m_callO F e_X10_wordHere_100 (q_charAt (x_l X) V _ _ 40 (by omega)) cb_J0_charAt_5068e ml_X10_137 im_J0_charAt_5068e se_J0_charAt_5068e F.sw.2.2.2.2.2.2.1 rfl (rest := []) rfl (Nat.le_of_ble_eq_true rfl) ⟨Nat.le_of_ble_eq_true rfl, Nat.le_of_ble_eq_true rfl⟩ ⟨Nat.le_of_ble_eq_true rfl, Nat.le_of_ble_eq_true rfl⟩ (k' := 0) (z' := 0) (N' := N) rfl rfl rfl (fun r σ10796 hp => ?_)
  obtain ⟨rfl, rfl⟩ := hp
  refine Wm.topE (w := 111) (by decide) ?_
  refine m_bipush F (v := 32) (by decide) e_X10_wordHere_103 ?_
  refine m_icmp_eq F e_X10_wordHere_105 (fun q => absurd q (by decide)) (fun _ => ?_)
  refine m_iinc F (v := 41) (lv' := [(2, .int 41), (1, .int 7), (0, .ref c)]) e_X10_wordHere_108 rfl (by decide) (by decide) rfl ?_
  refine m_goto F e_X10_wordHere_111 ?_
  refine m_ldcS F e_X10_wordHere_97 F.sw.1.2.2 ?_
  refine m_iload_n F rfl e_X10_wordHere_99 ?_
  refine m_callO F e_X10_wordHere_100 (q_charAt (x_l X) V _ _ 41 (by omega)) cb_J0_charAt_5068e ml_X10_137 im_J0_charAt_5068e se_J0_charAt_5068e F.sw.2.2.2.2.2.2.1 rfl (rest := []) rfl (Nat.le_of_ble_eq_true rfl) ⟨Nat.le_of_ble_eq_true rfl, Nat.le_of_ble_eq_true rfl⟩ ⟨Nat.le_of_ble_eq_true rfl, Nat.le_of_ble_eq_true rfl⟩ (k' := 0) (z' := 0) (N' := N) rfl rfl rfl (fun r σ10797 hp => ?_)
  obtain ⟨rfl, rfl⟩ := hp
  refine Wm.topE (w := 110) (by decide) ?_
  refine m_bipush F (v := 32) (by decide) e_X10_wordHere_103 ?_
  refine m_icmp_eq F e_X10_wordHere_105 (fun q => absurd q (by decide)) (fun _ => ?_)
  refine m_iinc F (v := 42) (lv' := [(2, .int 42), (1, .int 7), (0, .ref c)]) e_X10_wordHere_108 rfl (by decide) (by decide) rfl ?_
  refine m_goto F e_X10_wordHere_111 ?_
  refine m_ldcS F e_X10_wordHere_97 F.sw.1.2.2 ?_
  refine m_iload_n F rfl e_X10_wordHere_99 ?_
  refine m_callO F e_X10_wordHere_100 (q_charAt (x_l X) V _ _ 42 (by omega)) cb_J0_charAt_5068e ml_X10_137 im_J0_charAt_5068e se_J0_charAt_5068e F.sw.2.2.2.2.2.2.1 rfl (rest := []) rfl (Nat.le_of_ble_eq_true rfl) ⟨Nat.le_of_ble_eq_true rfl, Nat.le_of_ble_eq_true rfl⟩ ⟨Nat.le_of_ble_eq_true rfl, Nat.le_of_ble_eq_true rfl⟩ (k' := 0) (z' := 0) (N' := N) rfl rfl rfl (fun r σ10798 hp => ?_)
  obtain ⟨rfl, rfl⟩ := hp
  refine Wm.topE (w := 32) (by decide) ?_
  refine m_bipush F (v := 32) (by decide) e_X10_wordHere_103 ?_
  refine m_icmp_eq F e_X10_wordHere_105 (fun _ => ?_) (fun q => absurd (by decide) q)
  refine m_iinc F (v := 43) (lv' := [(2, .int 43), (1, .int 7), (0, .ref c)]) e_X10_wordHere_114 rfl (by decide) (by decide) rfl ?_
  refine m_iinc F (v := 8) (lv' := [(1, .int 8), (2, .int 43), (0, .ref c)]) e_X10_wordHere_117 rfl (by decide) (by decide) rfl ?_
  refine m_goto F e_X10_wordHere_120 ?_
  exact wh_8 F hQ h1 f20 hB hn7 hsa hpn hl (fun m9 h9 => if e9 : m9 = 7 then e9 ▸ hz else hm m9 (by omega))
set_option maxRecDepth 20000 in
theorem wh_7 {V : VX} {X : MX} {N : Nat} {σ : Mem} {c T Z u h : Nat} {P : NP} {L : Nat → LQ} {n st : Nat} {t : Nat → Nat} (F : Fx V X yX10_wordHere cX10_wordHere 4 (some .int) (rmd 4 0 0)) (hQ : Rt V X 0 0 N (fun r τ => HS V c (⟨T, Z, u, h, P, L⟩ : RG) [0, 1, 2, 3, 4, 5, 6, 7, 8, 9, 10, 11, 12, 13, 14, 15, 16, 17, 18, 19, 20, 21, 22, 23] σ τ ∧ ((P.a - st ≤ 6 ∧ kix (nmc t st P.a 6) < 9 ∧ r = some (.int (nI (kix (nmc t st P.a 6))))) ∨ (¬ (P.a - st ≤ 6 ∧ kix (nmc t st P.a 6) < 9) ∧ r = some (.int (-1)))))) (h1 : HS V c ⟨T, Z, u, h, P, L⟩ [0, 1, 2, 3, 4, 5, 6, 7, 8, 9, 10, 11, 12, 13, 14, 15, 16, 17, 18, 19, 20, 21, 22, 23] σ σ) (f20 : fld σ c 20 = some (.int (nI st))) (hB : BR σ c n t) (hn7 : n ≤ 700) (hsa : st < P.a) (hpn : P.a ≤ n) (hl : ∀ i, st ≤ i → i < P.a → isL (t i) = true) (hm : ∀ m, m < 7 → ¬ mw t st P.a m) : Wm V X 4 N σ 0 0 4 [(1, .int 7), (2, .int 36), (0, .ref c)] [] := by
  refine m_iload_n F rfl e_X10_wordHere_4 ?_
  refine m_ldcS F e_X10_wordHere_5 F.sw.1.2.2 ?_
  refine m_callO F e_X10_wordHere_7 (q_length (x_l X) V _ _) cb_J0_length_8abf5 ml_X10_132 im_J0_length_8abf5 se_J0_length_8abf5 F.sw.2.2.2.2.2.2.1 rfl (rest := [.int 36]) rfl (Nat.le_of_ble_eq_true rfl) ⟨Nat.le_of_ble_eq_true rfl, Nat.le_of_ble_eq_true rfl⟩ ⟨Nat.le_of_ble_eq_true rfl, Nat.le_of_ble_eq_true rfl⟩ (k' := 0) (z' := 0) (N' := N) rfl rfl rfl (fun r σ10799 hp => ?_)
  obtain ⟨rfl, rfl⟩ := hp
  refine m_icmp_ge F e_X10_wordHere_10 (fun q => absurd q (by decide)) (fun _ => ?_)
  refine m_iconst F (v := 0) (by decide) e_X10_wordHere_13 ?_
  refine m_istore_n F (lv' := [(3, .int 0), (1, .int 7), (2, .int 36), (0, .ref c)]) e_X10_wordHere_14 (by decide) rfl ?_
  refine m_ldcS F e_X10_wordHere_15 F.sw.1.2.2 ?_
  refine m_iload_n F rfl e_X10_wordHere_17 ?_
  refine m_iload_n F rfl e_X10_wordHere_18 ?_
  refine m_iadd F e_X10_wordHere_19 ?_
  refine Wm.topE (w := 36) (by decide) ?_
  refine m_callO F e_X10_wordHere_20 (q_charAt (x_l X) V _ _ 36 (by omega)) cb_J0_charAt_5068e ml_X10_137 im_J0_charAt_5068e se_J0_charAt_5068e F.sw.2.2.2.2.2.2.1 rfl (rest := []) rfl (Nat.le_of_ble_eq_true rfl) ⟨Nat.le_of_ble_eq_true rfl, Nat.le_of_ble_eq_true rfl⟩ ⟨Nat.le_of_ble_eq_true rfl, Nat.le_of_ble_eq_true rfl⟩ (k' := 0) (z' := 0) (N' := N) rfl rfl rfl (fun r σ10800 hp => ?_)
  obtain ⟨rfl, rfl⟩ := hp
  refine Wm.topE (w := 111) (by decide) ?_
  refine m_bipush F (v := 32) (by decide) e_X10_wordHere_23 ?_
  refine m_icmp_eq F e_X10_wordHere_25 (fun q => absurd q (by decide)) (fun _ => ?_)
  refine m_aload_n F rfl e_X10_wordHere_28 ?_
  refine r_getC F e_X10_wordHere_29 fl_X10_107 h1 (f20) ?_
  refine m_iload_n F rfl e_X10_wordHere_32 ?_
  refine m_iadd F e_X10_wordHere_33 ?_
  refine Wm.topE (w := nI st) (nI_add st 0) ?_
  refine m_aload_n F rfl e_X10_wordHere_34 ?_
  refine r_get F e_X10_wordHere_35 fl_X10_97 h1 rfl (fun v hv f10801 => ?_)
  obtain rfl : v = .int (nI (P.a)) := hv
  refine m_icmp_ge F e_X10_wordHere_38 (fun q38 => ?_) (fun q38 => ?_)
  · have c38 : st ≥ P.a := (nI_leI (a := P.a) (b := st) (by omega) (by omega)).mp q38
    refine m_ldcS F e_X10_wordHere_69 F.sw.1.2.2 ?_
    refine m_iload_n F rfl e_X10_wordHere_71 ?_
    refine m_iload_n F rfl e_X10_wordHere_72 ?_
    refine m_iadd F e_X10_wordHere_73 ?_
    refine Wm.topE (w := 36) (by decide) ?_
    refine m_callO F e_X10_wordHere_74 (q_charAt (x_l X) V _ _ 36 (by omega)) cb_J0_charAt_5068e ml_X10_137 im_J0_charAt_5068e se_J0_charAt_5068e F.sw.2.2.2.2.2.2.1 rfl (rest := []) rfl (Nat.le_of_ble_eq_true rfl) ⟨Nat.le_of_ble_eq_true rfl, Nat.le_of_ble_eq_true rfl⟩ ⟨Nat.le_of_ble_eq_true rfl, Nat.le_of_ble_eq_true rfl⟩ (k' := 0) (z' := 0) (N' := N) rfl rfl rfl (fun r σ10802 hp => ?_)
    obtain ⟨rfl, rfl⟩ := hp
    refine Wm.topE (w := 111) (by decide) ?_
    refine m_bipush F (v := 32) (by decide) e_X10_wordHere_77 ?_
    refine m_icmp_ne F e_X10_wordHere_79 (fun _ => ?_) (fun q => absurd q (by decide))
    refine Wm.lvsub (lv' := [(1, .int 7), (2, .int 36), (0, .ref c)]) ?_ [1, 2, 3] rfl
    exact wk_7 F hQ h1 f20 hB hn7 hsa hpn hl hm (fun hz => by have z1 : P.a = st + 6 := hz.1; have z2 : t (st) = 111 := hz.2 0 (by decide); omega)
  · have c38 : st < P.a := by have hh := mt (nI_leI (a := P.a) (b := st) (by omega) (by omega)).mpr q38; omega
    refine m_aload_n F rfl e_X10_wordHere_41 ?_
    refine r_get F e_X10_wordHere_42 fl_X10_7 h1 rfl (fun v hv f10803 => ?_)
    obtain rfl : v = .ref (c + 1) := hv
    refine m_aload_n F rfl e_X10_wordHere_45 ?_
    refine r_getC F e_X10_wordHere_46 fl_X10_107 h1 (f20) ?_
    refine m_iload_n F rfl e_X10_wordHere_49 ?_
    refine m_iadd F e_X10_wordHere_50 ?_
    refine Wm.topE (w := nI st) (nI_add st 0) ?_
    have hb10804 := (hB st (by omega)).1
    refine r_iald F (len := 700) (j := st) e_X10_wordHere_51 h1 (fun _ h => h) (by decide) (nI_clamp (by omega)) (vp_in_nI (by omega) (by decide)) (fun x10805 h10806 f10807 => ?_)
    obtain rfl := Option.some.inj ((f10807).symm.trans ((hB st (by omega)).2))
    refine m_ldcS F e_X10_wordHere_52 F.sw.1.2.2 ?_
    refine m_iload_n F rfl e_X10_wordHere_54 ?_
    refine m_iload_n F rfl e_X10_wordHere_55 ?_
    refine m_iadd F e_X10_wordHere_56 ?_
    refine Wm.topE (w := 36) (by decide) ?_
    refine m_callO F e_X10_wordHere_57 (q_charAt (x_l X) V _ _ 36 (by omega)) cb_J0_charAt_5068e ml_X10_137 im_J0_charAt_5068e se_J0_charAt_5068e F.sw.2.2.2.2.2.2.1 rfl (rest := [.int (nI (t st))]) rfl (Nat.le_of_ble_eq_true rfl) ⟨Nat.le_of_ble_eq_true rfl, Nat.le_of_ble_eq_true rfl⟩ ⟨Nat.le_of_ble_eq_true rfl, Nat.le_of_ble_eq_true rfl⟩ (k' := 0) (z' := 0) (N' := N) rfl rfl rfl (fun r σ10808 hp => ?_)
    obtain ⟨rfl, rfl⟩ := hp
    refine Wm.topE (w := 111) (by decide) ?_
    refine m_icmp_ne F e_X10_wordHere_60 (fun q60 => ?_) (fun q60 => ?_)
    · have c60 : (t st) ≠ 111 := by have hh := mt (nI_eq (a := (t st)) (b := 111) (by omega) (by omega)).mpr q60; omega
      refine m_ldcS F e_X10_wordHere_69 F.sw.1.2.2 ?_
      refine m_iload_n F rfl e_X10_wordHere_71 ?_
      refine m_iload_n F rfl e_X10_wordHere_72 ?_
      refine m_iadd F e_X10_wordHere_73 ?_
      refine Wm.topE (w := 36) (by decide) ?_
      refine m_callO F e_X10_wordHere_74 (q_charAt (x_l X) V _ _ 36 (by omega)) cb_J0_charAt_5068e ml_X10_137 im_J0_charAt_5068e se_J0_charAt_5068e F.sw.2.2.2.2.2.2.1 rfl (rest := []) rfl (Nat.le_of_ble_eq_true rfl) ⟨Nat.le_of_ble_eq_true rfl, Nat.le_of_ble_eq_true rfl⟩ ⟨Nat.le_of_ble_eq_true rfl, Nat.le_of_ble_eq_true rfl⟩ (k' := 0) (z' := 0) (N' := N) rfl rfl rfl (fun r σ10809 hp => ?_)
      obtain ⟨rfl, rfl⟩ := hp
      refine Wm.topE (w := 111) (by decide) ?_
      refine m_bipush F (v := 32) (by decide) e_X10_wordHere_77 ?_
      refine m_icmp_ne F e_X10_wordHere_79 (fun _ => ?_) (fun q => absurd q (by decide))
      refine Wm.lvsub (lv' := [(1, .int 7), (2, .int 36), (0, .ref c)]) ?_ [1, 2, 3] rfl
      exact wk_7 F hQ h1 f20 hB hn7 hsa hpn hl hm (fun hz => by have z1 : P.a = st + 6 := hz.1; have z2 : t (st) = 111 := hz.2 0 (by decide); omega)
    · have c60 : (t st) = 111 := (nI_eq (a := (t st)) (b := 111) (by omega) (by omega)).mp q60
      refine m_iinc F (v := 1) (lv' := [(3, .int 1), (1, .int 7), (2, .int 36), (0, .ref c)]) e_X10_wordHere_63 rfl (by decide) (by decide) rfl ?_
      refine m_goto F e_X10_wordHere_66 ?_
      refine m_ldcS F e_X10_wordHere_15 F.sw.1.2.2 ?_
      refine m_iload_n F rfl e_X10_wordHere_17 ?_
      refine m_iload_n F rfl e_X10_wordHere_18 ?_
      refine m_iadd F e_X10_wordHere_19 ?_
      refine Wm.topE (w := 37) (by decide) ?_
      refine m_callO F e_X10_wordHere_20 (q_charAt (x_l X) V _ _ 37 (by omega)) cb_J0_charAt_5068e ml_X10_137 im_J0_charAt_5068e se_J0_charAt_5068e F.sw.2.2.2.2.2.2.1 rfl (rest := []) rfl (Nat.le_of_ble_eq_true rfl) ⟨Nat.le_of_ble_eq_true rfl, Nat.le_of_ble_eq_true rfl⟩ ⟨Nat.le_of_ble_eq_true rfl, Nat.le_of_ble_eq_true rfl⟩ (k' := 0) (z' := 0) (N' := N) rfl rfl rfl (fun r σ10810 hp => ?_)
      obtain ⟨rfl, rfl⟩ := hp
      refine Wm.topE (w := 112) (by decide) ?_
      refine m_bipush F (v := 32) (by decide) e_X10_wordHere_23 ?_
      refine m_icmp_eq F e_X10_wordHere_25 (fun q => absurd q (by decide)) (fun _ => ?_)
      refine m_aload_n F rfl e_X10_wordHere_28 ?_
      refine r_getC F e_X10_wordHere_29 fl_X10_107 h1 (f20) ?_
      refine m_iload_n F rfl e_X10_wordHere_32 ?_
      refine m_iadd F e_X10_wordHere_33 ?_
      refine Wm.topE (w := nI (st + 1)) (nI_add st 1) ?_
      refine m_aload_n F rfl e_X10_wordHere_34 ?_
      refine r_getC F e_X10_wordHere_35 fl_X10_97 h1 (f10801) ?_
      refine m_icmp_ge F e_X10_wordHere_38 (fun q38 => ?_) (fun q38 => ?_)
      · have c38 : (st + 1) ≥ P.a := (nI_leI (a := P.a) (b := (st + 1)) (by omega) (by omega)).mp q38
        refine m_ldcS F e_X10_wordHere_69 F.sw.1.2.2 ?_
        refine m_iload_n F rfl e_X10_wordHere_71 ?_
        refine m_iload_n F rfl e_X10_wordHere_72 ?_
        refine m_iadd F e_X10_wordHere_73 ?_
        refine Wm.topE (w := 37) (by decide) ?_
        refine m_callO F e_X10_wordHere_74 (q_charAt (x_l X) V _ _ 37 (by omega)) cb_J0_charAt_5068e ml_X10_137 im_J0_charAt_5068e se_J0_charAt_5068e F.sw.2.2.2.2.2.2.1 rfl (rest := []) rfl (Nat.le_of_ble_eq_true rfl) ⟨Nat.le_of_ble_eq_true rfl, Nat.le_of_ble_eq_true rfl⟩ ⟨Nat.le_of_ble_eq_true rfl, Nat.le_of_ble_eq_true rfl⟩ (k' := 0) (z' := 0) (N' := N) rfl rfl rfl (fun r σ10811 hp => ?_)
        obtain ⟨rfl, rfl⟩ := hp
        refine Wm.topE (w := 112) (by decide) ?_
        refine m_bipush F (v := 32) (by decide) e_X10_wordHere_77 ?_
        refine m_icmp_ne F e_X10_wordHere_79 (fun _ => ?_) (fun q => absurd q (by decide))
        refine Wm.lvsub (lv' := [(1, .int 7), (2, .int 36), (0, .ref c)]) ?_ [1, 2, 3] rfl
        exact wk_7 F hQ h1 f20 hB hn7 hsa hpn hl hm (fun hz => by have z1 : P.a = st + 6 := hz.1; have z2 : t (st + 1) = 112 := hz.2 1 (by decide); omega)
      · have c38 : (st + 1) < P.a := by have hh := mt (nI_leI (a := P.a) (b := (st + 1)) (by omega) (by omega)).mpr q38; omega
        refine m_aload_n F rfl e_X10_wordHere_41 ?_
        refine r_getC F e_X10_wordHere_42 fl_X10_7 h1 (f10803) ?_
        refine m_aload_n F rfl e_X10_wordHere_45 ?_
        refine r_getC F e_X10_wordHere_46 fl_X10_107 h1 (f20) ?_
        refine m_iload_n F rfl e_X10_wordHere_49 ?_
        refine m_iadd F e_X10_wordHere_50 ?_
        refine Wm.topE (w := nI (st + 1)) (nI_add st 1) ?_
        have hb10812 := (hB (st + 1) (by omega)).1
        refine r_iald F (len := 700) (j := st + 1) e_X10_wordHere_51 h1 (fun _ h => h) (by decide) (nI_clamp (by omega)) (vp_in_nI (by omega) (by decide)) (fun x10813 h10814 f10815 => ?_)
        obtain rfl := Option.some.inj ((f10815).symm.trans ((hB (st + 1) (by omega)).2))
        refine m_ldcS F e_X10_wordHere_52 F.sw.1.2.2 ?_
        refine m_iload_n F rfl e_X10_wordHere_54 ?_
        refine m_iload_n F rfl e_X10_wordHere_55 ?_
        refine m_iadd F e_X10_wordHere_56 ?_
        refine Wm.topE (w := 37) (by decide) ?_
        refine m_callO F e_X10_wordHere_57 (q_charAt (x_l X) V _ _ 37 (by omega)) cb_J0_charAt_5068e ml_X10_137 im_J0_charAt_5068e se_J0_charAt_5068e F.sw.2.2.2.2.2.2.1 rfl (rest := [.int (nI (t (st + 1)))]) rfl (Nat.le_of_ble_eq_true rfl) ⟨Nat.le_of_ble_eq_true rfl, Nat.le_of_ble_eq_true rfl⟩ ⟨Nat.le_of_ble_eq_true rfl, Nat.le_of_ble_eq_true rfl⟩ (k' := 0) (z' := 0) (N' := N) rfl rfl rfl (fun r σ10816 hp => ?_)
        obtain ⟨rfl, rfl⟩ := hp
        refine Wm.topE (w := 112) (by decide) ?_
        refine m_icmp_ne F e_X10_wordHere_60 (fun q60 => ?_) (fun q60 => ?_)
        · have c60 : (t (st + 1)) ≠ 112 := by have hh := mt (nI_eq (a := (t (st + 1))) (b := 112) (by omega) (by omega)).mpr q60; omega
          refine m_ldcS F e_X10_wordHere_69 F.sw.1.2.2 ?_
          refine m_iload_n F rfl e_X10_wordHere_71 ?_
          refine m_iload_n F rfl e_X10_wordHere_72 ?_
          refine m_iadd F e_X10_wordHere_73 ?_
          refine Wm.topE (w := 37) (by decide) ?_
          refine m_callO F e_X10_wordHere_74 (q_charAt (x_l X) V _ _ 37 (by omega)) cb_J0_charAt_5068e ml_X10_137 im_J0_charAt_5068e se_J0_charAt_5068e F.sw.2.2.2.2.2.2.1 rfl (rest := []) rfl (Nat.le_of_ble_eq_true rfl) ⟨Nat.le_of_ble_eq_true rfl, Nat.le_of_ble_eq_true rfl⟩ ⟨Nat.le_of_ble_eq_true rfl, Nat.le_of_ble_eq_true rfl⟩ (k' := 0) (z' := 0) (N' := N) rfl rfl rfl (fun r σ10817 hp => ?_)
          obtain ⟨rfl, rfl⟩ := hp
          refine Wm.topE (w := 112) (by decide) ?_
          refine m_bipush F (v := 32) (by decide) e_X10_wordHere_77 ?_
          refine m_icmp_ne F e_X10_wordHere_79 (fun _ => ?_) (fun q => absurd q (by decide))
          refine Wm.lvsub (lv' := [(1, .int 7), (2, .int 36), (0, .ref c)]) ?_ [1, 2, 3] rfl
          exact wk_7 F hQ h1 f20 hB hn7 hsa hpn hl hm (fun hz => by have z1 : P.a = st + 6 := hz.1; have z2 : t (st + 1) = 112 := hz.2 1 (by decide); omega)
        · have c60 : (t (st + 1)) = 112 := (nI_eq (a := (t (st + 1))) (b := 112) (by omega) (by omega)).mp q60
          refine m_iinc F (v := 2) (lv' := [(3, .int 2), (1, .int 7), (2, .int 36), (0, .ref c)]) e_X10_wordHere_63 rfl (by decide) (by decide) rfl ?_
          refine m_goto F e_X10_wordHere_66 ?_
          refine m_ldcS F e_X10_wordHere_15 F.sw.1.2.2 ?_
          refine m_iload_n F rfl e_X10_wordHere_17 ?_
          refine m_iload_n F rfl e_X10_wordHere_18 ?_
          refine m_iadd F e_X10_wordHere_19 ?_
          refine Wm.topE (w := 38) (by decide) ?_
          refine m_callO F e_X10_wordHere_20 (q_charAt (x_l X) V _ _ 38 (by omega)) cb_J0_charAt_5068e ml_X10_137 im_J0_charAt_5068e se_J0_charAt_5068e F.sw.2.2.2.2.2.2.1 rfl (rest := []) rfl (Nat.le_of_ble_eq_true rfl) ⟨Nat.le_of_ble_eq_true rfl, Nat.le_of_ble_eq_true rfl⟩ ⟨Nat.le_of_ble_eq_true rfl, Nat.le_of_ble_eq_true rfl⟩ (k' := 0) (z' := 0) (N' := N) rfl rfl rfl (fun r σ10818 hp => ?_)
          obtain ⟨rfl, rfl⟩ := hp
          refine Wm.topE (w := 116) (by decide) ?_
          refine m_bipush F (v := 32) (by decide) e_X10_wordHere_23 ?_
          refine m_icmp_eq F e_X10_wordHere_25 (fun q => absurd q (by decide)) (fun _ => ?_)
          refine m_aload_n F rfl e_X10_wordHere_28 ?_
          refine r_getC F e_X10_wordHere_29 fl_X10_107 h1 (f20) ?_
          refine m_iload_n F rfl e_X10_wordHere_32 ?_
          refine m_iadd F e_X10_wordHere_33 ?_
          refine Wm.topE (w := nI (st + 2)) (nI_add st 2) ?_
          refine m_aload_n F rfl e_X10_wordHere_34 ?_
          refine r_getC F e_X10_wordHere_35 fl_X10_97 h1 (f10801) ?_
          refine m_icmp_ge F e_X10_wordHere_38 (fun q38 => ?_) (fun q38 => ?_)
          · have c38 : (st + 2) ≥ P.a := (nI_leI (a := P.a) (b := (st + 2)) (by omega) (by omega)).mp q38
            refine m_ldcS F e_X10_wordHere_69 F.sw.1.2.2 ?_
            refine m_iload_n F rfl e_X10_wordHere_71 ?_
            refine m_iload_n F rfl e_X10_wordHere_72 ?_
            refine m_iadd F e_X10_wordHere_73 ?_
            refine Wm.topE (w := 38) (by decide) ?_
            refine m_callO F e_X10_wordHere_74 (q_charAt (x_l X) V _ _ 38 (by omega)) cb_J0_charAt_5068e ml_X10_137 im_J0_charAt_5068e se_J0_charAt_5068e F.sw.2.2.2.2.2.2.1 rfl (rest := []) rfl (Nat.le_of_ble_eq_true rfl) ⟨Nat.le_of_ble_eq_true rfl, Nat.le_of_ble_eq_true rfl⟩ ⟨Nat.le_of_ble_eq_true rfl, Nat.le_of_ble_eq_true rfl⟩ (k' := 0) (z' := 0) (N' := N) rfl rfl rfl (fun r σ10819 hp => ?_)
            obtain ⟨rfl, rfl⟩ := hp
            refine Wm.topE (w := 116) (by decide) ?_
            refine m_bipush F (v := 32) (by decide) e_X10_wordHere_77 ?_
            refine m_icmp_ne F e_X10_wordHere_79 (fun _ => ?_) (fun q => absurd q (by decide))
            refine Wm.lvsub (lv' := [(1, .int 7), (2, .int 36), (0, .ref c)]) ?_ [1, 2, 3] rfl
            exact wk_7 F hQ h1 f20 hB hn7 hsa hpn hl hm (fun hz => by have z1 : P.a = st + 6 := hz.1; have z2 : t (st + 2) = 116 := hz.2 2 (by decide); omega)
          · have c38 : (st + 2) < P.a := by have hh := mt (nI_leI (a := P.a) (b := (st + 2)) (by omega) (by omega)).mpr q38; omega
            refine m_aload_n F rfl e_X10_wordHere_41 ?_
            refine r_getC F e_X10_wordHere_42 fl_X10_7 h1 (f10803) ?_
            refine m_aload_n F rfl e_X10_wordHere_45 ?_
            refine r_getC F e_X10_wordHere_46 fl_X10_107 h1 (f20) ?_
            refine m_iload_n F rfl e_X10_wordHere_49 ?_
            refine m_iadd F e_X10_wordHere_50 ?_
            refine Wm.topE (w := nI (st + 2)) (nI_add st 2) ?_
            have hb10820 := (hB (st + 2) (by omega)).1
            refine r_iald F (len := 700) (j := st + 2) e_X10_wordHere_51 h1 (fun _ h => h) (by decide) (nI_clamp (by omega)) (vp_in_nI (by omega) (by decide)) (fun x10821 h10822 f10823 => ?_)
            obtain rfl := Option.some.inj ((f10823).symm.trans ((hB (st + 2) (by omega)).2))
            refine m_ldcS F e_X10_wordHere_52 F.sw.1.2.2 ?_
            refine m_iload_n F rfl e_X10_wordHere_54 ?_
            refine m_iload_n F rfl e_X10_wordHere_55 ?_
            refine m_iadd F e_X10_wordHere_56 ?_
            refine Wm.topE (w := 38) (by decide) ?_
            refine m_callO F e_X10_wordHere_57 (q_charAt (x_l X) V _ _ 38 (by omega)) cb_J0_charAt_5068e ml_X10_137 im_J0_charAt_5068e se_J0_charAt_5068e F.sw.2.2.2.2.2.2.1 rfl (rest := [.int (nI (t (st + 2)))]) rfl (Nat.le_of_ble_eq_true rfl) ⟨Nat.le_of_ble_eq_true rfl, Nat.le_of_ble_eq_true rfl⟩ ⟨Nat.le_of_ble_eq_true rfl, Nat.le_of_ble_eq_true rfl⟩ (k' := 0) (z' := 0) (N' := N) rfl rfl rfl (fun r σ10824 hp => ?_)
            obtain ⟨rfl, rfl⟩ := hp
            refine Wm.topE (w := 116) (by decide) ?_
            refine m_icmp_ne F e_X10_wordHere_60 (fun q60 => ?_) (fun q60 => ?_)
            · have c60 : (t (st + 2)) ≠ 116 := by have hh := mt (nI_eq (a := (t (st + 2))) (b := 116) (by omega) (by omega)).mpr q60; omega
              refine m_ldcS F e_X10_wordHere_69 F.sw.1.2.2 ?_
              refine m_iload_n F rfl e_X10_wordHere_71 ?_
              refine m_iload_n F rfl e_X10_wordHere_72 ?_
              refine m_iadd F e_X10_wordHere_73 ?_
              refine Wm.topE (w := 38) (by decide) ?_
              refine m_callO F e_X10_wordHere_74 (q_charAt (x_l X) V _ _ 38 (by omega)) cb_J0_charAt_5068e ml_X10_137 im_J0_charAt_5068e se_J0_charAt_5068e F.sw.2.2.2.2.2.2.1 rfl (rest := []) rfl (Nat.le_of_ble_eq_true rfl) ⟨Nat.le_of_ble_eq_true rfl, Nat.le_of_ble_eq_true rfl⟩ ⟨Nat.le_of_ble_eq_true rfl, Nat.le_of_ble_eq_true rfl⟩ (k' := 0) (z' := 0) (N' := N) rfl rfl rfl (fun r σ10825 hp => ?_)
              obtain ⟨rfl, rfl⟩ := hp
              refine Wm.topE (w := 116) (by decide) ?_
              refine m_bipush F (v := 32) (by decide) e_X10_wordHere_77 ?_
              refine m_icmp_ne F e_X10_wordHere_79 (fun _ => ?_) (fun q => absurd q (by decide))
              refine Wm.lvsub (lv' := [(1, .int 7), (2, .int 36), (0, .ref c)]) ?_ [1, 2, 3] rfl
              exact wk_7 F hQ h1 f20 hB hn7 hsa hpn hl hm (fun hz => by have z1 : P.a = st + 6 := hz.1; have z2 : t (st + 2) = 116 := hz.2 2 (by decide); omega)
            · have c60 : (t (st + 2)) = 116 := (nI_eq (a := (t (st + 2))) (b := 116) (by omega) (by omega)).mp q60
              refine m_iinc F (v := 3) (lv' := [(3, .int 3), (1, .int 7), (2, .int 36), (0, .ref c)]) e_X10_wordHere_63 rfl (by decide) (by decide) rfl ?_
              refine m_goto F e_X10_wordHere_66 ?_
              refine m_ldcS F e_X10_wordHere_15 F.sw.1.2.2 ?_
              refine m_iload_n F rfl e_X10_wordHere_17 ?_
              refine m_iload_n F rfl e_X10_wordHere_18 ?_
              refine m_iadd F e_X10_wordHere_19 ?_
              refine Wm.topE (w := 39) (by decide) ?_
              refine m_callO F e_X10_wordHere_20 (q_charAt (x_l X) V _ _ 39 (by omega)) cb_J0_charAt_5068e ml_X10_137 im_J0_charAt_5068e se_J0_charAt_5068e F.sw.2.2.2.2.2.2.1 rfl (rest := []) rfl (Nat.le_of_ble_eq_true rfl) ⟨Nat.le_of_ble_eq_true rfl, Nat.le_of_ble_eq_true rfl⟩ ⟨Nat.le_of_ble_eq_true rfl, Nat.le_of_ble_eq_true rfl⟩ (k' := 0) (z' := 0) (N' := N) rfl rfl rfl (fun r σ10826 hp => ?_)
              obtain ⟨rfl, rfl⟩ := hp
              refine Wm.topE (w := 105) (by decide) ?_
              refine m_bipush F (v := 32) (by decide) e_X10_wordHere_23 ?_
              refine m_icmp_eq F e_X10_wordHere_25 (fun q => absurd q (by decide)) (fun _ => ?_)
              refine m_aload_n F rfl e_X10_wordHere_28 ?_
              refine r_getC F e_X10_wordHere_29 fl_X10_107 h1 (f20) ?_
              refine m_iload_n F rfl e_X10_wordHere_32 ?_
              refine m_iadd F e_X10_wordHere_33 ?_
              refine Wm.topE (w := nI (st + 3)) (nI_add st 3) ?_
              refine m_aload_n F rfl e_X10_wordHere_34 ?_
              refine r_getC F e_X10_wordHere_35 fl_X10_97 h1 (f10801) ?_
              refine m_icmp_ge F e_X10_wordHere_38 (fun q38 => ?_) (fun q38 => ?_)
              · have c38 : (st + 3) ≥ P.a := (nI_leI (a := P.a) (b := (st + 3)) (by omega) (by omega)).mp q38
                refine m_ldcS F e_X10_wordHere_69 F.sw.1.2.2 ?_
                refine m_iload_n F rfl e_X10_wordHere_71 ?_
                refine m_iload_n F rfl e_X10_wordHere_72 ?_
                refine m_iadd F e_X10_wordHere_73 ?_
                refine Wm.topE (w := 39) (by decide) ?_
                refine m_callO F e_X10_wordHere_74 (q_charAt (x_l X) V _ _ 39 (by omega)) cb_J0_charAt_5068e ml_X10_137 im_J0_charAt_5068e se_J0_charAt_5068e F.sw.2.2.2.2.2.2.1 rfl (rest := []) rfl (Nat.le_of_ble_eq_true rfl) ⟨Nat.le_of_ble_eq_true rfl, Nat.le_of_ble_eq_true rfl⟩ ⟨Nat.le_of_ble_eq_true rfl, Nat.le_of_ble_eq_true rfl⟩ (k' := 0) (z' := 0) (N' := N) rfl rfl rfl (fun r σ10827 hp => ?_)
                obtain ⟨rfl, rfl⟩ := hp
                refine Wm.topE (w := 105) (by decide) ?_
                refine m_bipush F (v := 32) (by decide) e_X10_wordHere_77 ?_
                refine m_icmp_ne F e_X10_wordHere_79 (fun _ => ?_) (fun q => absurd q (by decide))
                refine Wm.lvsub (lv' := [(1, .int 7), (2, .int 36), (0, .ref c)]) ?_ [1, 2, 3] rfl
                exact wk_7 F hQ h1 f20 hB hn7 hsa hpn hl hm (fun hz => by have z1 : P.a = st + 6 := hz.1; have z2 : t (st + 3) = 105 := hz.2 3 (by decide); omega)
              · have c38 : (st + 3) < P.a := by have hh := mt (nI_leI (a := P.a) (b := (st + 3)) (by omega) (by omega)).mpr q38; omega
                refine m_aload_n F rfl e_X10_wordHere_41 ?_
                refine r_getC F e_X10_wordHere_42 fl_X10_7 h1 (f10803) ?_
                refine m_aload_n F rfl e_X10_wordHere_45 ?_
                refine r_getC F e_X10_wordHere_46 fl_X10_107 h1 (f20) ?_
                refine m_iload_n F rfl e_X10_wordHere_49 ?_
                refine m_iadd F e_X10_wordHere_50 ?_
                refine Wm.topE (w := nI (st + 3)) (nI_add st 3) ?_
                have hb10828 := (hB (st + 3) (by omega)).1
                refine r_iald F (len := 700) (j := st + 3) e_X10_wordHere_51 h1 (fun _ h => h) (by decide) (nI_clamp (by omega)) (vp_in_nI (by omega) (by decide)) (fun x10829 h10830 f10831 => ?_)
                obtain rfl := Option.some.inj ((f10831).symm.trans ((hB (st + 3) (by omega)).2))
                refine m_ldcS F e_X10_wordHere_52 F.sw.1.2.2 ?_
                refine m_iload_n F rfl e_X10_wordHere_54 ?_
                refine m_iload_n F rfl e_X10_wordHere_55 ?_
                refine m_iadd F e_X10_wordHere_56 ?_
                refine Wm.topE (w := 39) (by decide) ?_
                refine m_callO F e_X10_wordHere_57 (q_charAt (x_l X) V _ _ 39 (by omega)) cb_J0_charAt_5068e ml_X10_137 im_J0_charAt_5068e se_J0_charAt_5068e F.sw.2.2.2.2.2.2.1 rfl (rest := [.int (nI (t (st + 3)))]) rfl (Nat.le_of_ble_eq_true rfl) ⟨Nat.le_of_ble_eq_true rfl, Nat.le_of_ble_eq_true rfl⟩ ⟨Nat.le_of_ble_eq_true rfl, Nat.le_of_ble_eq_true rfl⟩ (k' := 0) (z' := 0) (N' := N) rfl rfl rfl (fun r σ10832 hp => ?_)
                obtain ⟨rfl, rfl⟩ := hp
                refine Wm.topE (w := 105) (by decide) ?_
                refine m_icmp_ne F e_X10_wordHere_60 (fun q60 => ?_) (fun q60 => ?_)
                · have c60 : (t (st + 3)) ≠ 105 := by have hh := mt (nI_eq (a := (t (st + 3))) (b := 105) (by omega) (by omega)).mpr q60; omega
                  refine m_ldcS F e_X10_wordHere_69 F.sw.1.2.2 ?_
                  refine m_iload_n F rfl e_X10_wordHere_71 ?_
                  refine m_iload_n F rfl e_X10_wordHere_72 ?_
                  refine m_iadd F e_X10_wordHere_73 ?_
                  refine Wm.topE (w := 39) (by decide) ?_
                  refine m_callO F e_X10_wordHere_74 (q_charAt (x_l X) V _ _ 39 (by omega)) cb_J0_charAt_5068e ml_X10_137 im_J0_charAt_5068e se_J0_charAt_5068e F.sw.2.2.2.2.2.2.1 rfl (rest := []) rfl (Nat.le_of_ble_eq_true rfl) ⟨Nat.le_of_ble_eq_true rfl, Nat.le_of_ble_eq_true rfl⟩ ⟨Nat.le_of_ble_eq_true rfl, Nat.le_of_ble_eq_true rfl⟩ (k' := 0) (z' := 0) (N' := N) rfl rfl rfl (fun r σ10833 hp => ?_)
                  obtain ⟨rfl, rfl⟩ := hp
                  refine Wm.topE (w := 105) (by decide) ?_
                  refine m_bipush F (v := 32) (by decide) e_X10_wordHere_77 ?_
                  refine m_icmp_ne F e_X10_wordHere_79 (fun _ => ?_) (fun q => absurd q (by decide))
                  refine Wm.lvsub (lv' := [(1, .int 7), (2, .int 36), (0, .ref c)]) ?_ [1, 2, 3] rfl
                  exact wk_7 F hQ h1 f20 hB hn7 hsa hpn hl hm (fun hz => by have z1 : P.a = st + 6 := hz.1; have z2 : t (st + 3) = 105 := hz.2 3 (by decide); omega)
                · have c60 : (t (st + 3)) = 105 := (nI_eq (a := (t (st + 3))) (b := 105) (by omega) (by omega)).mp q60
                  refine m_iinc F (v := 4) (lv' := [(3, .int 4), (1, .int 7), (2, .int 36), (0, .ref c)]) e_X10_wordHere_63 rfl (by decide) (by decide) rfl ?_
                  refine m_goto F e_X10_wordHere_66 ?_
                  refine m_ldcS F e_X10_wordHere_15 F.sw.1.2.2 ?_
                  refine m_iload_n F rfl e_X10_wordHere_17 ?_
                  refine m_iload_n F rfl e_X10_wordHere_18 ?_
                  refine m_iadd F e_X10_wordHere_19 ?_
                  refine Wm.topE (w := 40) (by decide) ?_
                  refine m_callO F e_X10_wordHere_20 (q_charAt (x_l X) V _ _ 40 (by omega)) cb_J0_charAt_5068e ml_X10_137 im_J0_charAt_5068e se_J0_charAt_5068e F.sw.2.2.2.2.2.2.1 rfl (rest := []) rfl (Nat.le_of_ble_eq_true rfl) ⟨Nat.le_of_ble_eq_true rfl, Nat.le_of_ble_eq_true rfl⟩ ⟨Nat.le_of_ble_eq_true rfl, Nat.le_of_ble_eq_true rfl⟩ (k' := 0) (z' := 0) (N' := N) rfl rfl rfl (fun r σ10834 hp => ?_)
                  obtain ⟨rfl, rfl⟩ := hp
                  refine Wm.topE (w := 111) (by decide) ?_
                  refine m_bipush F (v := 32) (by decide) e_X10_wordHere_23 ?_
                  refine m_icmp_eq F e_X10_wordHere_25 (fun q => absurd q (by decide)) (fun _ => ?_)
                  refine m_aload_n F rfl e_X10_wordHere_28 ?_
                  refine r_getC F e_X10_wordHere_29 fl_X10_107 h1 (f20) ?_
                  refine m_iload_n F rfl e_X10_wordHere_32 ?_
                  refine m_iadd F e_X10_wordHere_33 ?_
                  refine Wm.topE (w := nI (st + 4)) (nI_add st 4) ?_
                  refine m_aload_n F rfl e_X10_wordHere_34 ?_
                  refine r_getC F e_X10_wordHere_35 fl_X10_97 h1 (f10801) ?_
                  refine m_icmp_ge F e_X10_wordHere_38 (fun q38 => ?_) (fun q38 => ?_)
                  · have c38 : (st + 4) ≥ P.a := (nI_leI (a := P.a) (b := (st + 4)) (by omega) (by omega)).mp q38
                    refine m_ldcS F e_X10_wordHere_69 F.sw.1.2.2 ?_
                    refine m_iload_n F rfl e_X10_wordHere_71 ?_
                    refine m_iload_n F rfl e_X10_wordHere_72 ?_
                    refine m_iadd F e_X10_wordHere_73 ?_
                    refine Wm.topE (w := 40) (by decide) ?_
                    refine m_callO F e_X10_wordHere_74 (q_charAt (x_l X) V _ _ 40 (by omega)) cb_J0_charAt_5068e ml_X10_137 im_J0_charAt_5068e se_J0_charAt_5068e F.sw.2.2.2.2.2.2.1 rfl (rest := []) rfl (Nat.le_of_ble_eq_true rfl) ⟨Nat.le_of_ble_eq_true rfl, Nat.le_of_ble_eq_true rfl⟩ ⟨Nat.le_of_ble_eq_true rfl, Nat.le_of_ble_eq_true rfl⟩ (k' := 0) (z' := 0) (N' := N) rfl rfl rfl (fun r σ10835 hp => ?_)
                    obtain ⟨rfl, rfl⟩ := hp
                    refine Wm.topE (w := 111) (by decide) ?_
                    refine m_bipush F (v := 32) (by decide) e_X10_wordHere_77 ?_
                    refine m_icmp_ne F e_X10_wordHere_79 (fun _ => ?_) (fun q => absurd q (by decide))
                    refine Wm.lvsub (lv' := [(1, .int 7), (2, .int 36), (0, .ref c)]) ?_ [1, 2, 3] rfl
                    exact wk_7 F hQ h1 f20 hB hn7 hsa hpn hl hm (fun hz => by have z1 : P.a = st + 6 := hz.1; have z2 : t (st + 4) = 111 := hz.2 4 (by decide); omega)
                  · have c38 : (st + 4) < P.a := by have hh := mt (nI_leI (a := P.a) (b := (st + 4)) (by omega) (by omega)).mpr q38; omega
                    refine m_aload_n F rfl e_X10_wordHere_41 ?_
                    refine r_getC F e_X10_wordHere_42 fl_X10_7 h1 (f10803) ?_
                    refine m_aload_n F rfl e_X10_wordHere_45 ?_
                    refine r_getC F e_X10_wordHere_46 fl_X10_107 h1 (f20) ?_
                    refine m_iload_n F rfl e_X10_wordHere_49 ?_
                    refine m_iadd F e_X10_wordHere_50 ?_
                    refine Wm.topE (w := nI (st + 4)) (nI_add st 4) ?_
                    have hb10836 := (hB (st + 4) (by omega)).1
                    refine r_iald F (len := 700) (j := st + 4) e_X10_wordHere_51 h1 (fun _ h => h) (by decide) (nI_clamp (by omega)) (vp_in_nI (by omega) (by decide)) (fun x10837 h10838 f10839 => ?_)
                    obtain rfl := Option.some.inj ((f10839).symm.trans ((hB (st + 4) (by omega)).2))
                    refine m_ldcS F e_X10_wordHere_52 F.sw.1.2.2 ?_
                    refine m_iload_n F rfl e_X10_wordHere_54 ?_
                    refine m_iload_n F rfl e_X10_wordHere_55 ?_
                    refine m_iadd F e_X10_wordHere_56 ?_
                    refine Wm.topE (w := 40) (by decide) ?_
                    refine m_callO F e_X10_wordHere_57 (q_charAt (x_l X) V _ _ 40 (by omega)) cb_J0_charAt_5068e ml_X10_137 im_J0_charAt_5068e se_J0_charAt_5068e F.sw.2.2.2.2.2.2.1 rfl (rest := [.int (nI (t (st + 4)))]) rfl (Nat.le_of_ble_eq_true rfl) ⟨Nat.le_of_ble_eq_true rfl, Nat.le_of_ble_eq_true rfl⟩ ⟨Nat.le_of_ble_eq_true rfl, Nat.le_of_ble_eq_true rfl⟩ (k' := 0) (z' := 0) (N' := N) rfl rfl rfl (fun r σ10840 hp => ?_)
                    obtain ⟨rfl, rfl⟩ := hp
                    refine Wm.topE (w := 111) (by decide) ?_
                    refine m_icmp_ne F e_X10_wordHere_60 (fun q60 => ?_) (fun q60 => ?_)
                    · have c60 : (t (st + 4)) ≠ 111 := by have hh := mt (nI_eq (a := (t (st + 4))) (b := 111) (by omega) (by omega)).mpr q60; omega
                      refine m_ldcS F e_X10_wordHere_69 F.sw.1.2.2 ?_
                      refine m_iload_n F rfl e_X10_wordHere_71 ?_
                      refine m_iload_n F rfl e_X10_wordHere_72 ?_
                      refine m_iadd F e_X10_wordHere_73 ?_
                      refine Wm.topE (w := 40) (by decide) ?_
                      refine m_callO F e_X10_wordHere_74 (q_charAt (x_l X) V _ _ 40 (by omega)) cb_J0_charAt_5068e ml_X10_137 im_J0_charAt_5068e se_J0_charAt_5068e F.sw.2.2.2.2.2.2.1 rfl (rest := []) rfl (Nat.le_of_ble_eq_true rfl) ⟨Nat.le_of_ble_eq_true rfl, Nat.le_of_ble_eq_true rfl⟩ ⟨Nat.le_of_ble_eq_true rfl, Nat.le_of_ble_eq_true rfl⟩ (k' := 0) (z' := 0) (N' := N) rfl rfl rfl (fun r σ10841 hp => ?_)
                      obtain ⟨rfl, rfl⟩ := hp
                      refine Wm.topE (w := 111) (by decide) ?_
                      refine m_bipush F (v := 32) (by decide) e_X10_wordHere_77 ?_
                      refine m_icmp_ne F e_X10_wordHere_79 (fun _ => ?_) (fun q => absurd q (by decide))
                      refine Wm.lvsub (lv' := [(1, .int 7), (2, .int 36), (0, .ref c)]) ?_ [1, 2, 3] rfl
                      exact wk_7 F hQ h1 f20 hB hn7 hsa hpn hl hm (fun hz => by have z1 : P.a = st + 6 := hz.1; have z2 : t (st + 4) = 111 := hz.2 4 (by decide); omega)
                    · have c60 : (t (st + 4)) = 111 := (nI_eq (a := (t (st + 4))) (b := 111) (by omega) (by omega)).mp q60
                      refine m_iinc F (v := 5) (lv' := [(3, .int 5), (1, .int 7), (2, .int 36), (0, .ref c)]) e_X10_wordHere_63 rfl (by decide) (by decide) rfl ?_
                      refine m_goto F e_X10_wordHere_66 ?_
                      refine m_ldcS F e_X10_wordHere_15 F.sw.1.2.2 ?_
                      refine m_iload_n F rfl e_X10_wordHere_17 ?_
                      refine m_iload_n F rfl e_X10_wordHere_18 ?_
                      refine m_iadd F e_X10_wordHere_19 ?_
                      refine Wm.topE (w := 41) (by decide) ?_
                      refine m_callO F e_X10_wordHere_20 (q_charAt (x_l X) V _ _ 41 (by omega)) cb_J0_charAt_5068e ml_X10_137 im_J0_charAt_5068e se_J0_charAt_5068e F.sw.2.2.2.2.2.2.1 rfl (rest := []) rfl (Nat.le_of_ble_eq_true rfl) ⟨Nat.le_of_ble_eq_true rfl, Nat.le_of_ble_eq_true rfl⟩ ⟨Nat.le_of_ble_eq_true rfl, Nat.le_of_ble_eq_true rfl⟩ (k' := 0) (z' := 0) (N' := N) rfl rfl rfl (fun r σ10842 hp => ?_)
                      obtain ⟨rfl, rfl⟩ := hp
                      refine Wm.topE (w := 110) (by decide) ?_
                      refine m_bipush F (v := 32) (by decide) e_X10_wordHere_23 ?_
                      refine m_icmp_eq F e_X10_wordHere_25 (fun q => absurd q (by decide)) (fun _ => ?_)
                      refine m_aload_n F rfl e_X10_wordHere_28 ?_
                      refine r_getC F e_X10_wordHere_29 fl_X10_107 h1 (f20) ?_
                      refine m_iload_n F rfl e_X10_wordHere_32 ?_
                      refine m_iadd F e_X10_wordHere_33 ?_
                      refine Wm.topE (w := nI (st + 5)) (nI_add st 5) ?_
                      refine m_aload_n F rfl e_X10_wordHere_34 ?_
                      refine r_getC F e_X10_wordHere_35 fl_X10_97 h1 (f10801) ?_
                      refine m_icmp_ge F e_X10_wordHere_38 (fun q38 => ?_) (fun q38 => ?_)
                      · have c38 : (st + 5) ≥ P.a := (nI_leI (a := P.a) (b := (st + 5)) (by omega) (by omega)).mp q38
                        refine m_ldcS F e_X10_wordHere_69 F.sw.1.2.2 ?_
                        refine m_iload_n F rfl e_X10_wordHere_71 ?_
                        refine m_iload_n F rfl e_X10_wordHere_72 ?_
                        refine m_iadd F e_X10_wordHere_73 ?_
                        refine Wm.topE (w := 41) (by decide) ?_
                        refine m_callO F e_X10_wordHere_74 (q_charAt (x_l X) V _ _ 41 (by omega)) cb_J0_charAt_5068e ml_X10_137 im_J0_charAt_5068e se_J0_charAt_5068e F.sw.2.2.2.2.2.2.1 rfl (rest := []) rfl (Nat.le_of_ble_eq_true rfl) ⟨Nat.le_of_ble_eq_true rfl, Nat.le_of_ble_eq_true rfl⟩ ⟨Nat.le_of_ble_eq_true rfl, Nat.le_of_ble_eq_true rfl⟩ (k' := 0) (z' := 0) (N' := N) rfl rfl rfl (fun r σ10843 hp => ?_)
                        obtain ⟨rfl, rfl⟩ := hp
                        refine Wm.topE (w := 110) (by decide) ?_
                        refine m_bipush F (v := 32) (by decide) e_X10_wordHere_77 ?_
                        refine m_icmp_ne F e_X10_wordHere_79 (fun _ => ?_) (fun q => absurd q (by decide))
                        refine Wm.lvsub (lv' := [(1, .int 7), (2, .int 36), (0, .ref c)]) ?_ [1, 2, 3] rfl
                        exact wk_7 F hQ h1 f20 hB hn7 hsa hpn hl hm (fun hz => by have z1 : P.a = st + 6 := hz.1; have z2 : t (st + 5) = 110 := hz.2 5 (by decide); omega)
                      · have c38 : (st + 5) < P.a := by have hh := mt (nI_leI (a := P.a) (b := (st + 5)) (by omega) (by omega)).mpr q38; omega
                        refine m_aload_n F rfl e_X10_wordHere_41 ?_
                        refine r_getC F e_X10_wordHere_42 fl_X10_7 h1 (f10803) ?_
                        refine m_aload_n F rfl e_X10_wordHere_45 ?_
                        refine r_getC F e_X10_wordHere_46 fl_X10_107 h1 (f20) ?_
                        refine m_iload_n F rfl e_X10_wordHere_49 ?_
                        refine m_iadd F e_X10_wordHere_50 ?_
                        refine Wm.topE (w := nI (st + 5)) (nI_add st 5) ?_
                        have hb10844 := (hB (st + 5) (by omega)).1
                        refine r_iald F (len := 700) (j := st + 5) e_X10_wordHere_51 h1 (fun _ h => h) (by decide) (nI_clamp (by omega)) (vp_in_nI (by omega) (by decide)) (fun x10845 h10846 f10847 => ?_)
                        obtain rfl := Option.some.inj ((f10847).symm.trans ((hB (st + 5) (by omega)).2))
                        refine m_ldcS F e_X10_wordHere_52 F.sw.1.2.2 ?_
                        refine m_iload_n F rfl e_X10_wordHere_54 ?_
                        refine m_iload_n F rfl e_X10_wordHere_55 ?_
                        refine m_iadd F e_X10_wordHere_56 ?_
                        refine Wm.topE (w := 41) (by decide) ?_
                        refine m_callO F e_X10_wordHere_57 (q_charAt (x_l X) V _ _ 41 (by omega)) cb_J0_charAt_5068e ml_X10_137 im_J0_charAt_5068e se_J0_charAt_5068e F.sw.2.2.2.2.2.2.1 rfl (rest := [.int (nI (t (st + 5)))]) rfl (Nat.le_of_ble_eq_true rfl) ⟨Nat.le_of_ble_eq_true rfl, Nat.le_of_ble_eq_true rfl⟩ ⟨Nat.le_of_ble_eq_true rfl, Nat.le_of_ble_eq_true rfl⟩ (k' := 0) (z' := 0) (N' := N) rfl rfl rfl (fun r σ10848 hp => ?_)
                        obtain ⟨rfl, rfl⟩ := hp
                        refine Wm.topE (w := 110) (by decide) ?_
                        refine m_icmp_ne F e_X10_wordHere_60 (fun q60 => ?_) (fun q60 => ?_)
                        · have c60 : (t (st + 5)) ≠ 110 := by have hh := mt (nI_eq (a := (t (st + 5))) (b := 110) (by omega) (by omega)).mpr q60; omega
                          refine m_ldcS F e_X10_wordHere_69 F.sw.1.2.2 ?_
                          refine m_iload_n F rfl e_X10_wordHere_71 ?_
                          refine m_iload_n F rfl e_X10_wordHere_72 ?_
                          refine m_iadd F e_X10_wordHere_73 ?_
                          refine Wm.topE (w := 41) (by decide) ?_
                          refine m_callO F e_X10_wordHere_74 (q_charAt (x_l X) V _ _ 41 (by omega)) cb_J0_charAt_5068e ml_X10_137 im_J0_charAt_5068e se_J0_charAt_5068e F.sw.2.2.2.2.2.2.1 rfl (rest := []) rfl (Nat.le_of_ble_eq_true rfl) ⟨Nat.le_of_ble_eq_true rfl, Nat.le_of_ble_eq_true rfl⟩ ⟨Nat.le_of_ble_eq_true rfl, Nat.le_of_ble_eq_true rfl⟩ (k' := 0) (z' := 0) (N' := N) rfl rfl rfl (fun r σ10849 hp => ?_)
                          obtain ⟨rfl, rfl⟩ := hp
                          refine Wm.topE (w := 110) (by decide) ?_
                          refine m_bipush F (v := 32) (by decide) e_X10_wordHere_77 ?_
                          refine m_icmp_ne F e_X10_wordHere_79 (fun _ => ?_) (fun q => absurd q (by decide))
                          refine Wm.lvsub (lv' := [(1, .int 7), (2, .int 36), (0, .ref c)]) ?_ [1, 2, 3] rfl
                          exact wk_7 F hQ h1 f20 hB hn7 hsa hpn hl hm (fun hz => by have z1 : P.a = st + 6 := hz.1; have z2 : t (st + 5) = 110 := hz.2 5 (by decide); omega)
                        · have c60 : (t (st + 5)) = 110 := (nI_eq (a := (t (st + 5))) (b := 110) (by omega) (by omega)).mp q60
                          refine m_iinc F (v := 6) (lv' := [(3, .int 6), (1, .int 7), (2, .int 36), (0, .ref c)]) e_X10_wordHere_63 rfl (by decide) (by decide) rfl ?_
                          refine m_goto F e_X10_wordHere_66 ?_
                          refine m_ldcS F e_X10_wordHere_15 F.sw.1.2.2 ?_
                          refine m_iload_n F rfl e_X10_wordHere_17 ?_
                          refine m_iload_n F rfl e_X10_wordHere_18 ?_
                          refine m_iadd F e_X10_wordHere_19 ?_
                          refine Wm.topE (w := 42) (by decide) ?_
                          refine m_callO F e_X10_wordHere_20 (q_charAt (x_l X) V _ _ 42 (by omega)) cb_J0_charAt_5068e ml_X10_137 im_J0_charAt_5068e se_J0_charAt_5068e F.sw.2.2.2.2.2.2.1 rfl (rest := []) rfl (Nat.le_of_ble_eq_true rfl) ⟨Nat.le_of_ble_eq_true rfl, Nat.le_of_ble_eq_true rfl⟩ ⟨Nat.le_of_ble_eq_true rfl, Nat.le_of_ble_eq_true rfl⟩ (k' := 0) (z' := 0) (N' := N) rfl rfl rfl (fun r σ10850 hp => ?_)
                          obtain ⟨rfl, rfl⟩ := hp
                          refine Wm.topE (w := 32) (by decide) ?_
                          refine m_bipush F (v := 32) (by decide) e_X10_wordHere_23 ?_
                          refine m_icmp_eq F e_X10_wordHere_25 (fun _ => ?_) (fun q => absurd (by decide) q)
                          refine m_ldcS F e_X10_wordHere_69 F.sw.1.2.2 ?_
                          refine m_iload_n F rfl e_X10_wordHere_71 ?_
                          refine m_iload_n F rfl e_X10_wordHere_72 ?_
                          refine m_iadd F e_X10_wordHere_73 ?_
                          refine Wm.topE (w := 42) (by decide) ?_
                          refine m_callO F e_X10_wordHere_74 (q_charAt (x_l X) V _ _ 42 (by omega)) cb_J0_charAt_5068e ml_X10_137 im_J0_charAt_5068e se_J0_charAt_5068e F.sw.2.2.2.2.2.2.1 rfl (rest := []) rfl (Nat.le_of_ble_eq_true rfl) ⟨Nat.le_of_ble_eq_true rfl, Nat.le_of_ble_eq_true rfl⟩ ⟨Nat.le_of_ble_eq_true rfl, Nat.le_of_ble_eq_true rfl⟩ (k' := 0) (z' := 0) (N' := N) rfl rfl rfl (fun r σ10851 hp => ?_)
                          obtain ⟨rfl, rfl⟩ := hp
                          refine Wm.topE (w := 32) (by decide) ?_
                          refine m_bipush F (v := 32) (by decide) e_X10_wordHere_77 ?_
                          refine m_icmp_ne F e_X10_wordHere_79 (fun q => absurd (by decide) q) (fun _ => ?_)
                          refine m_aload_n F rfl e_X10_wordHere_82 ?_
                          refine r_getC F e_X10_wordHere_83 fl_X10_107 h1 (f20) ?_
                          refine m_iload_n F rfl e_X10_wordHere_86 ?_
                          refine m_iadd F e_X10_wordHere_87 ?_
                          refine Wm.topE (w := nI (st + 6)) (nI_add st 6) ?_
                          refine m_aload_n F rfl e_X10_wordHere_88 ?_
                          refine r_getC F e_X10_wordHere_89 fl_X10_97 h1 (f10801) ?_
                          refine m_icmp_ne F e_X10_wordHere_92 (fun q92 => ?_) (fun q92 => ?_)
                          · have c92 : (st + 6) ≠ P.a := by have hh := mt (nI_eq (a := (st + 6)) (b := P.a) (by omega) (by omega)).mpr q92; omega
                            refine Wm.lvsub (lv' := [(1, .int 7), (2, .int 36), (0, .ref c)]) ?_ [1, 2, 3] rfl
                            exact wk_7 F hQ h1 f20 hB hn7 hsa hpn hl hm (fun hz => by have z1 : P.a = st + 6 := hz.1; omega)
                          · have c92 : (st + 6) = P.a := (nI_eq (a := (st + 6)) (b := P.a) (by omega) (by omega)).mp q92
                            refine m_iload_n F rfl e_X10_wordHere_95 ?_
                            have hz : mw t st P.a 7 := by
                              refine ⟨(show P.a = st + 6 by omega), fun i hi => ?_⟩
                              have hi2 : i = 0 ∨ i = 1 ∨ i = 2 ∨ i = 3 ∨ i = 4 ∨ i = 5 := by have hi3 : i < 6 := hi; omega
                              rcases hi2 with rfl | rfl | rfl | rfl | rfl | rfl
                              · show t (st + 0) = 111; first | assumption | omega
                              · show t (st + 1) = 112; first | assumption | omega
                              · show t (st + 2) = 116; first | assumption | omega
                              · show t (st + 3) = 105; first | assumption | omega
                              · show t (st + 4) = 111; first | assumption | omega
                              · show t (st + 5) = 110; first | assumption | omega
                            have hy := kix_mw hsa hl (by decide) hz
                            exact m_iret F hQ e_X10_wordHere_96 ⟨h1, Or.inl ⟨hy.1, by rw [hy.2]; decide, by rw [hy.2]; rfl⟩⟩
set_option maxRecDepth 20000 in
theorem wk_6 {V : VX} {X : MX} {N : Nat} {σ : Mem} {c T Z u h : Nat} {P : NP} {L : Nat → LQ} {n st : Nat} {t : Nat → Nat} (F : Fx V X yX10_wordHere cX10_wordHere 4 (some .int) (rmd 4 0 0)) (hQ : Rt V X 0 0 N (fun r τ => HS V c (⟨T, Z, u, h, P, L⟩ : RG) [0, 1, 2, 3, 4, 5, 6, 7, 8, 9, 10, 11, 12, 13, 14, 15, 16, 17, 18, 19, 20, 21, 22, 23] σ τ ∧ ((P.a - st ≤ 6 ∧ kix (nmc t st P.a 6) < 9 ∧ r = some (.int (nI (kix (nmc t st P.a 6))))) ∨ (¬ (P.a - st ≤ 6 ∧ kix (nmc t st P.a 6) < 9) ∧ r = some (.int (-1)))))) (h1 : HS V c ⟨T, Z, u, h, P, L⟩ [0, 1, 2, 3, 4, 5, 6, 7, 8, 9, 10, 11, 12, 13, 14, 15, 16, 17, 18, 19, 20, 21, 22, 23] σ σ) (f20 : fld σ c 20 = some (.int (nI st))) (hB : BR σ c n t) (hn7 : n ≤ 700) (hsa : st < P.a) (hpn : P.a ≤ n) (hl : ∀ i, st ≤ i → i < P.a → isL (t i) = true) (hm : ∀ m, m < 6 → ¬ mw t st P.a m) (hz : ¬ mw t st P.a 6) : Wm V X 4 N σ 0 0 97 [(1, .int 6), (2, .int 30), (0, .ref c)] [] := by
  refine m_ldcS F e_X10_wordHere_97 F.sw.1.2.2 ?_
  refine m_iload_n F rfl e_X10_wordHere_99 ?_
  refine m_callO F e_X10_wordHere_100 (q_charAt (x_l X) V _ _ 30 (by omega)) cb_J0_charAt_5068e ml_X10_137 im_J0_charAt_5068e se_J0_charAt_5068e F.sw.2.2.2.2.2.2.1 rfl (rest := []) rfl (Nat.le_of_ble_eq_true rfl) ⟨Nat.le_of_ble_eq_true rfl, Nat.le_of_ble_eq_true rfl⟩ ⟨Nat.le_of_ble_eq_true rfl, Nat.le_of_ble_eq_true rfl⟩ (k' := 0) (z' := 0) (N' := N) rfl rfl rfl (fun r σ10852 hp => ?_)
  obtain ⟨rfl, rfl⟩ := hp
  refine Wm.topE (w := 105) (by decide) ?_
  refine m_bipush F (v := 32) (by decide) e_X10_wordHere_103 ?_
  refine m_icmp_eq F e_X10_wordHere_105 (fun q => absurd q (by decide)) (fun _ => ?_)
  refine m_iinc F (v := 31) (lv' := [(2, .int 31), (1, .int 6), (0, .ref c)]) e_X10_wordHere_108 rfl (by decide) (by decide) rfl ?_
  refine m_goto F e_X10_wordHere_111 ?_
  refine m_ldcS F e_X10_wordHere_97 F.sw.1.2.2 ?_
  refine m_iload_n F rfl e_X10_wordHere_99 ?_
  refine m_callO F e_X10_wordHere_100 (q_charAt (x_l X) V _ _ 31 (by omega)) cb_J0_charAt_5068e ml_X10_137 im_J0_charAt_5068e se_J0_charAt_5068e F.sw.2.2.2.2.2.2.1 rfl (rest := []) rfl (Nat.le_of_ble_eq_true rfl) ⟨Nat.le_of_ble_eq_true rfl, Nat.le_of_ble_eq_true rfl⟩ ⟨Nat.le_of_ble_eq_true rfl, Nat.le_of_ble_eq_true rfl⟩ (k' := 0) (z' := 0) (N' := N) rfl rfl rfl (fun r σ10853 hp => ?_)
  obtain ⟨rfl, rfl⟩ := hp
  refine Wm.topE (w := 110) (by decide) ?_
  refine m_bipush F (v := 32) (by decide) e_X10_wordHere_103 ?_
  refine m_icmp_eq F e_X10_wordHere_105 (fun q => absurd q (by decide)) (fun _ => ?_)
  refine m_iinc F (v := 32) (lv' := [(2, .int 32), (1, .int 6), (0, .ref c)]) e_X10_wordHere_108 rfl (by decide) (by decide) rfl ?_
  refine m_goto F e_X10_wordHere_111 ?_
  refine m_ldcS F e_X10_wordHere_97 F.sw.1.2.2 ?_
  refine m_iload_n F rfl e_X10_wordHere_99 ?_
  refine m_callO F e_X10_wordHere_100 (q_charAt (x_l X) V _ _ 32 (by omega)) cb_J0_charAt_5068e ml_X10_137 im_J0_charAt_5068e se_J0_charAt_5068e F.sw.2.2.2.2.2.2.1 rfl (rest := []) rfl (Nat.le_of_ble_eq_true rfl) ⟨Nat.le_of_ble_eq_true rfl, Nat.le_of_ble_eq_true rfl⟩ ⟨Nat.le_of_ble_eq_true rfl, Nat.le_of_ble_eq_true rfl⟩ (k' := 0) (z' := 0) (N' := N) rfl rfl rfl (fun r σ10854 hp => ?_)
  obtain ⟨rfl, rfl⟩ := hp
  refine Wm.topE (w := 100) (by decide) ?_
  refine m_bipush F (v := 32) (by decide) e_X10_wordHere_103 ?_
  refine m_icmp_eq F e_X10_wordHere_105 (fun q => absurd q (by decide)) (fun _ => ?_)
  refine m_iinc F (v := 33) (lv' := [(2, .int 33), (1, .int 6), (0, .ref c)]) e_X10_wordHere_108 rfl (by decide) (by decide) rfl ?_
  refine m_goto F e_X10_wordHere_111 ?_
  refine m_ldcS F e_X10_wordHere_97 F.sw.1.2.2 ?_
  refine m_iload_n F rfl e_X10_wordHere_99 ?_
  refine m_callO F e_X10_wordHere_100 (q_charAt (x_l X) V _ _ 33 (by omega)) cb_J0_charAt_5068e ml_X10_137 im_J0_charAt_5068e se_J0_charAt_5068e F.sw.2.2.2.2.2.2.1 rfl (rest := []) rfl (Nat.le_of_ble_eq_true rfl) ⟨Nat.le_of_ble_eq_true rfl, Nat.le_of_ble_eq_true rfl⟩ ⟨Nat.le_of_ble_eq_true rfl, Nat.le_of_ble_eq_true rfl⟩ (k' := 0) (z' := 0) (N' := N) rfl rfl rfl (fun r σ10855 hp => ?_)
  obtain ⟨rfl, rfl⟩ := hp
  refine Wm.topE (w := 101) (by decide) ?_
  refine m_bipush F (v := 32) (by decide) e_X10_wordHere_103 ?_
  refine m_icmp_eq F e_X10_wordHere_105 (fun q => absurd q (by decide)) (fun _ => ?_)
  refine m_iinc F (v := 34) (lv' := [(2, .int 34), (1, .int 6), (0, .ref c)]) e_X10_wordHere_108 rfl (by decide) (by decide) rfl ?_
  refine m_goto F e_X10_wordHere_111 ?_
  refine m_ldcS F e_X10_wordHere_97 F.sw.1.2.2 ?_
  refine m_iload_n F rfl e_X10_wordHere_99 ?_
  refine m_callO F e_X10_wordHere_100 (q_charAt (x_l X) V _ _ 34 (by omega)) cb_J0_charAt_5068e ml_X10_137 im_J0_charAt_5068e se_J0_charAt_5068e F.sw.2.2.2.2.2.2.1 rfl (rest := []) rfl (Nat.le_of_ble_eq_true rfl) ⟨Nat.le_of_ble_eq_true rfl, Nat.le_of_ble_eq_true rfl⟩ ⟨Nat.le_of_ble_eq_true rfl, Nat.le_of_ble_eq_true rfl⟩ (k' := 0) (z' := 0) (N' := N) rfl rfl rfl (fun r σ10856 hp => ?_)
  obtain ⟨rfl, rfl⟩ := hp
  refine Wm.topE (w := 120) (by decide) ?_
  refine m_bipush F (v := 32) (by decide) e_X10_wordHere_103 ?_
  refine m_icmp_eq F e_X10_wordHere_105 (fun q => absurd q (by decide)) (fun _ => ?_)
  refine m_iinc F (v := 35) (lv' := [(2, .int 35), (1, .int 6), (0, .ref c)]) e_X10_wordHere_108 rfl (by decide) (by decide) rfl ?_
  refine m_goto F e_X10_wordHere_111 ?_
  refine m_ldcS F e_X10_wordHere_97 F.sw.1.2.2 ?_
  refine m_iload_n F rfl e_X10_wordHere_99 ?_
  refine m_callO F e_X10_wordHere_100 (q_charAt (x_l X) V _ _ 35 (by omega)) cb_J0_charAt_5068e ml_X10_137 im_J0_charAt_5068e se_J0_charAt_5068e F.sw.2.2.2.2.2.2.1 rfl (rest := []) rfl (Nat.le_of_ble_eq_true rfl) ⟨Nat.le_of_ble_eq_true rfl, Nat.le_of_ble_eq_true rfl⟩ ⟨Nat.le_of_ble_eq_true rfl, Nat.le_of_ble_eq_true rfl⟩ (k' := 0) (z' := 0) (N' := N) rfl rfl rfl (fun r σ10857 hp => ?_)
  obtain ⟨rfl, rfl⟩ := hp
  refine Wm.topE (w := 32) (by decide) ?_
  refine m_bipush F (v := 32) (by decide) e_X10_wordHere_103 ?_
  refine m_icmp_eq F e_X10_wordHere_105 (fun _ => ?_) (fun q => absurd (by decide) q)
  refine m_iinc F (v := 36) (lv' := [(2, .int 36), (1, .int 6), (0, .ref c)]) e_X10_wordHere_114 rfl (by decide) (by decide) rfl ?_
  refine m_iinc F (v := 7) (lv' := [(1, .int 7), (2, .int 36), (0, .ref c)]) e_X10_wordHere_117 rfl (by decide) (by decide) rfl ?_
  refine m_goto F e_X10_wordHere_120 ?_
  exact wh_7 F hQ h1 f20 hB hn7 hsa hpn hl (fun m9 h9 => if e9 : m9 = 6 then e9 ▸ hz else hm m9 (by omega))
set_option maxRecDepth 20000 in
theorem wh_6 {V : VX} {X : MX} {N : Nat} {σ : Mem} {c T Z u h : Nat} {P : NP} {L : Nat → LQ} {n st : Nat} {t : Nat → Nat} (F : Fx V X yX10_wordHere cX10_wordHere 4 (some .int) (rmd 4 0 0)) (hQ : Rt V X 0 0 N (fun r τ => HS V c (⟨T, Z, u, h, P, L⟩ : RG) [0, 1, 2, 3, 4, 5, 6, 7, 8, 9, 10, 11, 12, 13, 14, 15, 16, 17, 18, 19, 20, 21, 22, 23] σ τ ∧ ((P.a - st ≤ 6 ∧ kix (nmc t st P.a 6) < 9 ∧ r = some (.int (nI (kix (nmc t st P.a 6))))) ∨ (¬ (P.a - st ≤ 6 ∧ kix (nmc t st P.a 6) < 9) ∧ r = some (.int (-1)))))) (h1 : HS V c ⟨T, Z, u, h, P, L⟩ [0, 1, 2, 3, 4, 5, 6, 7, 8, 9, 10, 11, 12, 13, 14, 15, 16, 17, 18, 19, 20, 21, 22, 23] σ σ) (f20 : fld σ c 20 = some (.int (nI st))) (hB : BR σ c n t) (hn7 : n ≤ 700) (hsa : st < P.a) (hpn : P.a ≤ n) (hl : ∀ i, st ≤ i → i < P.a → isL (t i) = true) (hm : ∀ m, m < 6 → ¬ mw t st P.a m) : Wm V X 4 N σ 0 0 4 [(1, .int 6), (2, .int 30), (0, .ref c)] [] := by
  refine m_iload_n F rfl e_X10_wordHere_4 ?_
  refine m_ldcS F e_X10_wordHere_5 F.sw.1.2.2 ?_
  refine m_callO F e_X10_wordHere_7 (q_length (x_l X) V _ _) cb_J0_length_8abf5 ml_X10_132 im_J0_length_8abf5 se_J0_length_8abf5 F.sw.2.2.2.2.2.2.1 rfl (rest := [.int 30]) rfl (Nat.le_of_ble_eq_true rfl) ⟨Nat.le_of_ble_eq_true rfl, Nat.le_of_ble_eq_true rfl⟩ ⟨Nat.le_of_ble_eq_true rfl, Nat.le_of_ble_eq_true rfl⟩ (k' := 0) (z' := 0) (N' := N) rfl rfl rfl (fun r σ10858 hp => ?_)
  obtain ⟨rfl, rfl⟩ := hp
  refine m_icmp_ge F e_X10_wordHere_10 (fun q => absurd q (by decide)) (fun _ => ?_)
  refine m_iconst F (v := 0) (by decide) e_X10_wordHere_13 ?_
  refine m_istore_n F (lv' := [(3, .int 0), (1, .int 6), (2, .int 30), (0, .ref c)]) e_X10_wordHere_14 (by decide) rfl ?_
  refine m_ldcS F e_X10_wordHere_15 F.sw.1.2.2 ?_
  refine m_iload_n F rfl e_X10_wordHere_17 ?_
  refine m_iload_n F rfl e_X10_wordHere_18 ?_
  refine m_iadd F e_X10_wordHere_19 ?_
  refine Wm.topE (w := 30) (by decide) ?_
  refine m_callO F e_X10_wordHere_20 (q_charAt (x_l X) V _ _ 30 (by omega)) cb_J0_charAt_5068e ml_X10_137 im_J0_charAt_5068e se_J0_charAt_5068e F.sw.2.2.2.2.2.2.1 rfl (rest := []) rfl (Nat.le_of_ble_eq_true rfl) ⟨Nat.le_of_ble_eq_true rfl, Nat.le_of_ble_eq_true rfl⟩ ⟨Nat.le_of_ble_eq_true rfl, Nat.le_of_ble_eq_true rfl⟩ (k' := 0) (z' := 0) (N' := N) rfl rfl rfl (fun r σ10859 hp => ?_)
  obtain ⟨rfl, rfl⟩ := hp
  refine Wm.topE (w := 105) (by decide) ?_
  refine m_bipush F (v := 32) (by decide) e_X10_wordHere_23 ?_
  refine m_icmp_eq F e_X10_wordHere_25 (fun q => absurd q (by decide)) (fun _ => ?_)
  refine m_aload_n F rfl e_X10_wordHere_28 ?_
  refine r_getC F e_X10_wordHere_29 fl_X10_107 h1 (f20) ?_
  refine m_iload_n F rfl e_X10_wordHere_32 ?_
  refine m_iadd F e_X10_wordHere_33 ?_
  refine Wm.topE (w := nI st) (nI_add st 0) ?_
  refine m_aload_n F rfl e_X10_wordHere_34 ?_
  refine r_get F e_X10_wordHere_35 fl_X10_97 h1 rfl (fun v hv f10860 => ?_)
  obtain rfl : v = .int (nI (P.a)) := hv
  refine m_icmp_ge F e_X10_wordHere_38 (fun q38 => ?_) (fun q38 => ?_)
  · have c38 : st ≥ P.a := (nI_leI (a := P.a) (b := st) (by omega) (by omega)).mp q38
    refine m_ldcS F e_X10_wordHere_69 F.sw.1.2.2 ?_
    refine m_iload_n F rfl e_X10_wordHere_71 ?_
    refine m_iload_n F rfl e_X10_wordHere_72 ?_
    refine m_iadd F e_X10_wordHere_73 ?_
    refine Wm.topE (w := 30) (by decide) ?_
    refine m_callO F e_X10_wordHere_74 (q_charAt (x_l X) V _ _ 30 (by omega)) cb_J0_charAt_5068e ml_X10_137 im_J0_charAt_5068e se_J0_charAt_5068e F.sw.2.2.2.2.2.2.1 rfl (rest := []) rfl (Nat.le_of_ble_eq_true rfl) ⟨Nat.le_of_ble_eq_true rfl, Nat.le_of_ble_eq_true rfl⟩ ⟨Nat.le_of_ble_eq_true rfl, Nat.le_of_ble_eq_true rfl⟩ (k' := 0) (z' := 0) (N' := N) rfl rfl rfl (fun r σ10861 hp => ?_)
    obtain ⟨rfl, rfl⟩ := hp
    refine Wm.topE (w := 105) (by decide) ?_
    refine m_bipush F (v := 32) (by decide) e_X10_wordHere_77 ?_
    refine m_icmp_ne F e_X10_wordHere_79 (fun _ => ?_) (fun q => absurd q (by decide))
    refine Wm.lvsub (lv' := [(1, .int 6), (2, .int 30), (0, .ref c)]) ?_ [1, 2, 3] rfl
    exact wk_6 F hQ h1 f20 hB hn7 hsa hpn hl hm (fun hz => by have z1 : P.a = st + 5 := hz.1; have z2 : t (st) = 105 := hz.2 0 (by decide); omega)
  · have c38 : st < P.a := by have hh := mt (nI_leI (a := P.a) (b := st) (by omega) (by omega)).mpr q38; omega
    refine m_aload_n F rfl e_X10_wordHere_41 ?_
    refine r_get F e_X10_wordHere_42 fl_X10_7 h1 rfl (fun v hv f10862 => ?_)
    obtain rfl : v = .ref (c + 1) := hv
    refine m_aload_n F rfl e_X10_wordHere_45 ?_
    refine r_getC F e_X10_wordHere_46 fl_X10_107 h1 (f20) ?_
    refine m_iload_n F rfl e_X10_wordHere_49 ?_
    refine m_iadd F e_X10_wordHere_50 ?_
    refine Wm.topE (w := nI st) (nI_add st 0) ?_
    have hb10863 := (hB st (by omega)).1
    refine r_iald F (len := 700) (j := st) e_X10_wordHere_51 h1 (fun _ h => h) (by decide) (nI_clamp (by omega)) (vp_in_nI (by omega) (by decide)) (fun x10864 h10865 f10866 => ?_)
    obtain rfl := Option.some.inj ((f10866).symm.trans ((hB st (by omega)).2))
    refine m_ldcS F e_X10_wordHere_52 F.sw.1.2.2 ?_
    refine m_iload_n F rfl e_X10_wordHere_54 ?_
    refine m_iload_n F rfl e_X10_wordHere_55 ?_
    refine m_iadd F e_X10_wordHere_56 ?_
    refine Wm.topE (w := 30) (by decide) ?_
    refine m_callO F e_X10_wordHere_57 (q_charAt (x_l X) V _ _ 30 (by omega)) cb_J0_charAt_5068e ml_X10_137 im_J0_charAt_5068e se_J0_charAt_5068e F.sw.2.2.2.2.2.2.1 rfl (rest := [.int (nI (t st))]) rfl (Nat.le_of_ble_eq_true rfl) ⟨Nat.le_of_ble_eq_true rfl, Nat.le_of_ble_eq_true rfl⟩ ⟨Nat.le_of_ble_eq_true rfl, Nat.le_of_ble_eq_true rfl⟩ (k' := 0) (z' := 0) (N' := N) rfl rfl rfl (fun r σ10867 hp => ?_)
    obtain ⟨rfl, rfl⟩ := hp
    refine Wm.topE (w := 105) (by decide) ?_
    refine m_icmp_ne F e_X10_wordHere_60 (fun q60 => ?_) (fun q60 => ?_)
    · have c60 : (t st) ≠ 105 := by have hh := mt (nI_eq (a := (t st)) (b := 105) (by omega) (by omega)).mpr q60; omega
      refine m_ldcS F e_X10_wordHere_69 F.sw.1.2.2 ?_
      refine m_iload_n F rfl e_X10_wordHere_71 ?_
      refine m_iload_n F rfl e_X10_wordHere_72 ?_
      refine m_iadd F e_X10_wordHere_73 ?_
      refine Wm.topE (w := 30) (by decide) ?_
      refine m_callO F e_X10_wordHere_74 (q_charAt (x_l X) V _ _ 30 (by omega)) cb_J0_charAt_5068e ml_X10_137 im_J0_charAt_5068e se_J0_charAt_5068e F.sw.2.2.2.2.2.2.1 rfl (rest := []) rfl (Nat.le_of_ble_eq_true rfl) ⟨Nat.le_of_ble_eq_true rfl, Nat.le_of_ble_eq_true rfl⟩ ⟨Nat.le_of_ble_eq_true rfl, Nat.le_of_ble_eq_true rfl⟩ (k' := 0) (z' := 0) (N' := N) rfl rfl rfl (fun r σ10868 hp => ?_)
      obtain ⟨rfl, rfl⟩ := hp
      refine Wm.topE (w := 105) (by decide) ?_
      refine m_bipush F (v := 32) (by decide) e_X10_wordHere_77 ?_
      refine m_icmp_ne F e_X10_wordHere_79 (fun _ => ?_) (fun q => absurd q (by decide))
      refine Wm.lvsub (lv' := [(1, .int 6), (2, .int 30), (0, .ref c)]) ?_ [1, 2, 3] rfl
      exact wk_6 F hQ h1 f20 hB hn7 hsa hpn hl hm (fun hz => by have z1 : P.a = st + 5 := hz.1; have z2 : t (st) = 105 := hz.2 0 (by decide); omega)
    · have c60 : (t st) = 105 := (nI_eq (a := (t st)) (b := 105) (by omega) (by omega)).mp q60
      refine m_iinc F (v := 1) (lv' := [(3, .int 1), (1, .int 6), (2, .int 30), (0, .ref c)]) e_X10_wordHere_63 rfl (by decide) (by decide) rfl ?_
      refine m_goto F e_X10_wordHere_66 ?_
      refine m_ldcS F e_X10_wordHere_15 F.sw.1.2.2 ?_
      refine m_iload_n F rfl e_X10_wordHere_17 ?_
      refine m_iload_n F rfl e_X10_wordHere_18 ?_
      refine m_iadd F e_X10_wordHere_19 ?_
      refine Wm.topE (w := 31) (by decide) ?_
      refine m_callO F e_X10_wordHere_20 (q_charAt (x_l X) V _ _ 31 (by omega)) cb_J0_charAt_5068e ml_X10_137 im_J0_charAt_5068e se_J0_charAt_5068e F.sw.2.2.2.2.2.2.1 rfl (rest := []) rfl (Nat.le_of_ble_eq_true rfl) ⟨Nat.le_of_ble_eq_true rfl, Nat.le_of_ble_eq_true rfl⟩ ⟨Nat.le_of_ble_eq_true rfl, Nat.le_of_ble_eq_true rfl⟩ (k' := 0) (z' := 0) (N' := N) rfl rfl rfl (fun r σ10869 hp => ?_)
      obtain ⟨rfl, rfl⟩ := hp
      refine Wm.topE (w := 110) (by decide) ?_
      refine m_bipush F (v := 32) (by decide) e_X10_wordHere_23 ?_
      refine m_icmp_eq F e_X10_wordHere_25 (fun q => absurd q (by decide)) (fun _ => ?_)
      refine m_aload_n F rfl e_X10_wordHere_28 ?_
      refine r_getC F e_X10_wordHere_29 fl_X10_107 h1 (f20) ?_
      refine m_iload_n F rfl e_X10_wordHere_32 ?_
      refine m_iadd F e_X10_wordHere_33 ?_
      refine Wm.topE (w := nI (st + 1)) (nI_add st 1) ?_
      refine m_aload_n F rfl e_X10_wordHere_34 ?_
      refine r_getC F e_X10_wordHere_35 fl_X10_97 h1 (f10860) ?_
      refine m_icmp_ge F e_X10_wordHere_38 (fun q38 => ?_) (fun q38 => ?_)
      · have c38 : (st + 1) ≥ P.a := (nI_leI (a := P.a) (b := (st + 1)) (by omega) (by omega)).mp q38
        refine m_ldcS F e_X10_wordHere_69 F.sw.1.2.2 ?_
        refine m_iload_n F rfl e_X10_wordHere_71 ?_
        refine m_iload_n F rfl e_X10_wordHere_72 ?_
        refine m_iadd F e_X10_wordHere_73 ?_
        refine Wm.topE (w := 31) (by decide) ?_
        refine m_callO F e_X10_wordHere_74 (q_charAt (x_l X) V _ _ 31 (by omega)) cb_J0_charAt_5068e ml_X10_137 im_J0_charAt_5068e se_J0_charAt_5068e F.sw.2.2.2.2.2.2.1 rfl (rest := []) rfl (Nat.le_of_ble_eq_true rfl) ⟨Nat.le_of_ble_eq_true rfl, Nat.le_of_ble_eq_true rfl⟩ ⟨Nat.le_of_ble_eq_true rfl, Nat.le_of_ble_eq_true rfl⟩ (k' := 0) (z' := 0) (N' := N) rfl rfl rfl (fun r σ10870 hp => ?_)
        obtain ⟨rfl, rfl⟩ := hp
        refine Wm.topE (w := 110) (by decide) ?_
        refine m_bipush F (v := 32) (by decide) e_X10_wordHere_77 ?_
        refine m_icmp_ne F e_X10_wordHere_79 (fun _ => ?_) (fun q => absurd q (by decide))
        refine Wm.lvsub (lv' := [(1, .int 6), (2, .int 30), (0, .ref c)]) ?_ [1, 2, 3] rfl
        exact wk_6 F hQ h1 f20 hB hn7 hsa hpn hl hm (fun hz => by have z1 : P.a = st + 5 := hz.1; have z2 : t (st + 1) = 110 := hz.2 1 (by decide); omega)
      · have c38 : (st + 1) < P.a := by have hh := mt (nI_leI (a := P.a) (b := (st + 1)) (by omega) (by omega)).mpr q38; omega
        refine m_aload_n F rfl e_X10_wordHere_41 ?_
        refine r_getC F e_X10_wordHere_42 fl_X10_7 h1 (f10862) ?_
        refine m_aload_n F rfl e_X10_wordHere_45 ?_
        refine r_getC F e_X10_wordHere_46 fl_X10_107 h1 (f20) ?_
        refine m_iload_n F rfl e_X10_wordHere_49 ?_
        refine m_iadd F e_X10_wordHere_50 ?_
        refine Wm.topE (w := nI (st + 1)) (nI_add st 1) ?_
        have hb10871 := (hB (st + 1) (by omega)).1
        refine r_iald F (len := 700) (j := st + 1) e_X10_wordHere_51 h1 (fun _ h => h) (by decide) (nI_clamp (by omega)) (vp_in_nI (by omega) (by decide)) (fun x10872 h10873 f10874 => ?_)
        obtain rfl := Option.some.inj ((f10874).symm.trans ((hB (st + 1) (by omega)).2))
        refine m_ldcS F e_X10_wordHere_52 F.sw.1.2.2 ?_
        refine m_iload_n F rfl e_X10_wordHere_54 ?_
        refine m_iload_n F rfl e_X10_wordHere_55 ?_
        refine m_iadd F e_X10_wordHere_56 ?_
        refine Wm.topE (w := 31) (by decide) ?_
        refine m_callO F e_X10_wordHere_57 (q_charAt (x_l X) V _ _ 31 (by omega)) cb_J0_charAt_5068e ml_X10_137 im_J0_charAt_5068e se_J0_charAt_5068e F.sw.2.2.2.2.2.2.1 rfl (rest := [.int (nI (t (st + 1)))]) rfl (Nat.le_of_ble_eq_true rfl) ⟨Nat.le_of_ble_eq_true rfl, Nat.le_of_ble_eq_true rfl⟩ ⟨Nat.le_of_ble_eq_true rfl, Nat.le_of_ble_eq_true rfl⟩ (k' := 0) (z' := 0) (N' := N) rfl rfl rfl (fun r σ10875 hp => ?_)
        obtain ⟨rfl, rfl⟩ := hp
        refine Wm.topE (w := 110) (by decide) ?_
        refine m_icmp_ne F e_X10_wordHere_60 (fun q60 => ?_) (fun q60 => ?_)
        · have c60 : (t (st + 1)) ≠ 110 := by have hh := mt (nI_eq (a := (t (st + 1))) (b := 110) (by omega) (by omega)).mpr q60; omega
          refine m_ldcS F e_X10_wordHere_69 F.sw.1.2.2 ?_
          refine m_iload_n F rfl e_X10_wordHere_71 ?_
          refine m_iload_n F rfl e_X10_wordHere_72 ?_
          refine m_iadd F e_X10_wordHere_73 ?_
          refine Wm.topE (w := 31) (by decide) ?_
          refine m_callO F e_X10_wordHere_74 (q_charAt (x_l X) V _ _ 31 (by omega)) cb_J0_charAt_5068e ml_X10_137 im_J0_charAt_5068e se_J0_charAt_5068e F.sw.2.2.2.2.2.2.1 rfl (rest := []) rfl (Nat.le_of_ble_eq_true rfl) ⟨Nat.le_of_ble_eq_true rfl, Nat.le_of_ble_eq_true rfl⟩ ⟨Nat.le_of_ble_eq_true rfl, Nat.le_of_ble_eq_true rfl⟩ (k' := 0) (z' := 0) (N' := N) rfl rfl rfl (fun r σ10876 hp => ?_)
          obtain ⟨rfl, rfl⟩ := hp
          refine Wm.topE (w := 110) (by decide) ?_
          refine m_bipush F (v := 32) (by decide) e_X10_wordHere_77 ?_
          refine m_icmp_ne F e_X10_wordHere_79 (fun _ => ?_) (fun q => absurd q (by decide))
          refine Wm.lvsub (lv' := [(1, .int 6), (2, .int 30), (0, .ref c)]) ?_ [1, 2, 3] rfl
          exact wk_6 F hQ h1 f20 hB hn7 hsa hpn hl hm (fun hz => by have z1 : P.a = st + 5 := hz.1; have z2 : t (st + 1) = 110 := hz.2 1 (by decide); omega)
        · have c60 : (t (st + 1)) = 110 := (nI_eq (a := (t (st + 1))) (b := 110) (by omega) (by omega)).mp q60
          refine m_iinc F (v := 2) (lv' := [(3, .int 2), (1, .int 6), (2, .int 30), (0, .ref c)]) e_X10_wordHere_63 rfl (by decide) (by decide) rfl ?_
          refine m_goto F e_X10_wordHere_66 ?_
          refine m_ldcS F e_X10_wordHere_15 F.sw.1.2.2 ?_
          refine m_iload_n F rfl e_X10_wordHere_17 ?_
          refine m_iload_n F rfl e_X10_wordHere_18 ?_
          refine m_iadd F e_X10_wordHere_19 ?_
          refine Wm.topE (w := 32) (by decide) ?_
          refine m_callO F e_X10_wordHere_20 (q_charAt (x_l X) V _ _ 32 (by omega)) cb_J0_charAt_5068e ml_X10_137 im_J0_charAt_5068e se_J0_charAt_5068e F.sw.2.2.2.2.2.2.1 rfl (rest := []) rfl (Nat.le_of_ble_eq_true rfl) ⟨Nat.le_of_ble_eq_true rfl, Nat.le_of_ble_eq_true rfl⟩ ⟨Nat.le_of_ble_eq_true rfl, Nat.le_of_ble_eq_true rfl⟩ (k' := 0) (z' := 0) (N' := N) rfl rfl rfl (fun r σ10877 hp => ?_)
          obtain ⟨rfl, rfl⟩ := hp
          refine Wm.topE (w := 100) (by decide) ?_
          refine m_bipush F (v := 32) (by decide) e_X10_wordHere_23 ?_
          refine m_icmp_eq F e_X10_wordHere_25 (fun q => absurd q (by decide)) (fun _ => ?_)
          refine m_aload_n F rfl e_X10_wordHere_28 ?_
          refine r_getC F e_X10_wordHere_29 fl_X10_107 h1 (f20) ?_
          refine m_iload_n F rfl e_X10_wordHere_32 ?_
          refine m_iadd F e_X10_wordHere_33 ?_
          refine Wm.topE (w := nI (st + 2)) (nI_add st 2) ?_
          refine m_aload_n F rfl e_X10_wordHere_34 ?_
          refine r_getC F e_X10_wordHere_35 fl_X10_97 h1 (f10860) ?_
          refine m_icmp_ge F e_X10_wordHere_38 (fun q38 => ?_) (fun q38 => ?_)
          · have c38 : (st + 2) ≥ P.a := (nI_leI (a := P.a) (b := (st + 2)) (by omega) (by omega)).mp q38
            refine m_ldcS F e_X10_wordHere_69 F.sw.1.2.2 ?_
            refine m_iload_n F rfl e_X10_wordHere_71 ?_
            refine m_iload_n F rfl e_X10_wordHere_72 ?_
            refine m_iadd F e_X10_wordHere_73 ?_
            refine Wm.topE (w := 32) (by decide) ?_
            refine m_callO F e_X10_wordHere_74 (q_charAt (x_l X) V _ _ 32 (by omega)) cb_J0_charAt_5068e ml_X10_137 im_J0_charAt_5068e se_J0_charAt_5068e F.sw.2.2.2.2.2.2.1 rfl (rest := []) rfl (Nat.le_of_ble_eq_true rfl) ⟨Nat.le_of_ble_eq_true rfl, Nat.le_of_ble_eq_true rfl⟩ ⟨Nat.le_of_ble_eq_true rfl, Nat.le_of_ble_eq_true rfl⟩ (k' := 0) (z' := 0) (N' := N) rfl rfl rfl (fun r σ10878 hp => ?_)
            obtain ⟨rfl, rfl⟩ := hp
            refine Wm.topE (w := 100) (by decide) ?_
            refine m_bipush F (v := 32) (by decide) e_X10_wordHere_77 ?_
            refine m_icmp_ne F e_X10_wordHere_79 (fun _ => ?_) (fun q => absurd q (by decide))
            refine Wm.lvsub (lv' := [(1, .int 6), (2, .int 30), (0, .ref c)]) ?_ [1, 2, 3] rfl
            exact wk_6 F hQ h1 f20 hB hn7 hsa hpn hl hm (fun hz => by have z1 : P.a = st + 5 := hz.1; have z2 : t (st + 2) = 100 := hz.2 2 (by decide); omega)
          · have c38 : (st + 2) < P.a := by have hh := mt (nI_leI (a := P.a) (b := (st + 2)) (by omega) (by omega)).mpr q38; omega
            refine m_aload_n F rfl e_X10_wordHere_41 ?_
            refine r_getC F e_X10_wordHere_42 fl_X10_7 h1 (f10862) ?_
            refine m_aload_n F rfl e_X10_wordHere_45 ?_
            refine r_getC F e_X10_wordHere_46 fl_X10_107 h1 (f20) ?_
            refine m_iload_n F rfl e_X10_wordHere_49 ?_
            refine m_iadd F e_X10_wordHere_50 ?_
            refine Wm.topE (w := nI (st + 2)) (nI_add st 2) ?_
            have hb10879 := (hB (st + 2) (by omega)).1
            refine r_iald F (len := 700) (j := st + 2) e_X10_wordHere_51 h1 (fun _ h => h) (by decide) (nI_clamp (by omega)) (vp_in_nI (by omega) (by decide)) (fun x10880 h10881 f10882 => ?_)
            obtain rfl := Option.some.inj ((f10882).symm.trans ((hB (st + 2) (by omega)).2))
            refine m_ldcS F e_X10_wordHere_52 F.sw.1.2.2 ?_
            refine m_iload_n F rfl e_X10_wordHere_54 ?_
            refine m_iload_n F rfl e_X10_wordHere_55 ?_
            refine m_iadd F e_X10_wordHere_56 ?_
            refine Wm.topE (w := 32) (by decide) ?_
            refine m_callO F e_X10_wordHere_57 (q_charAt (x_l X) V _ _ 32 (by omega)) cb_J0_charAt_5068e ml_X10_137 im_J0_charAt_5068e se_J0_charAt_5068e F.sw.2.2.2.2.2.2.1 rfl (rest := [.int (nI (t (st + 2)))]) rfl (Nat.le_of_ble_eq_true rfl) ⟨Nat.le_of_ble_eq_true rfl, Nat.le_of_ble_eq_true rfl⟩ ⟨Nat.le_of_ble_eq_true rfl, Nat.le_of_ble_eq_true rfl⟩ (k' := 0) (z' := 0) (N' := N) rfl rfl rfl (fun r σ10883 hp => ?_)
            obtain ⟨rfl, rfl⟩ := hp
            refine Wm.topE (w := 100) (by decide) ?_
            refine m_icmp_ne F e_X10_wordHere_60 (fun q60 => ?_) (fun q60 => ?_)
            · have c60 : (t (st + 2)) ≠ 100 := by have hh := mt (nI_eq (a := (t (st + 2))) (b := 100) (by omega) (by omega)).mpr q60; omega
              refine m_ldcS F e_X10_wordHere_69 F.sw.1.2.2 ?_
              refine m_iload_n F rfl e_X10_wordHere_71 ?_
              refine m_iload_n F rfl e_X10_wordHere_72 ?_
              refine m_iadd F e_X10_wordHere_73 ?_
              refine Wm.topE (w := 32) (by decide) ?_
              refine m_callO F e_X10_wordHere_74 (q_charAt (x_l X) V _ _ 32 (by omega)) cb_J0_charAt_5068e ml_X10_137 im_J0_charAt_5068e se_J0_charAt_5068e F.sw.2.2.2.2.2.2.1 rfl (rest := []) rfl (Nat.le_of_ble_eq_true rfl) ⟨Nat.le_of_ble_eq_true rfl, Nat.le_of_ble_eq_true rfl⟩ ⟨Nat.le_of_ble_eq_true rfl, Nat.le_of_ble_eq_true rfl⟩ (k' := 0) (z' := 0) (N' := N) rfl rfl rfl (fun r σ10884 hp => ?_)
              obtain ⟨rfl, rfl⟩ := hp
              refine Wm.topE (w := 100) (by decide) ?_
              refine m_bipush F (v := 32) (by decide) e_X10_wordHere_77 ?_
              refine m_icmp_ne F e_X10_wordHere_79 (fun _ => ?_) (fun q => absurd q (by decide))
              refine Wm.lvsub (lv' := [(1, .int 6), (2, .int 30), (0, .ref c)]) ?_ [1, 2, 3] rfl
              exact wk_6 F hQ h1 f20 hB hn7 hsa hpn hl hm (fun hz => by have z1 : P.a = st + 5 := hz.1; have z2 : t (st + 2) = 100 := hz.2 2 (by decide); omega)
            · have c60 : (t (st + 2)) = 100 := (nI_eq (a := (t (st + 2))) (b := 100) (by omega) (by omega)).mp q60
              refine m_iinc F (v := 3) (lv' := [(3, .int 3), (1, .int 6), (2, .int 30), (0, .ref c)]) e_X10_wordHere_63 rfl (by decide) (by decide) rfl ?_
              refine m_goto F e_X10_wordHere_66 ?_
              refine m_ldcS F e_X10_wordHere_15 F.sw.1.2.2 ?_
              refine m_iload_n F rfl e_X10_wordHere_17 ?_
              refine m_iload_n F rfl e_X10_wordHere_18 ?_
              refine m_iadd F e_X10_wordHere_19 ?_
              refine Wm.topE (w := 33) (by decide) ?_
              refine m_callO F e_X10_wordHere_20 (q_charAt (x_l X) V _ _ 33 (by omega)) cb_J0_charAt_5068e ml_X10_137 im_J0_charAt_5068e se_J0_charAt_5068e F.sw.2.2.2.2.2.2.1 rfl (rest := []) rfl (Nat.le_of_ble_eq_true rfl) ⟨Nat.le_of_ble_eq_true rfl, Nat.le_of_ble_eq_true rfl⟩ ⟨Nat.le_of_ble_eq_true rfl, Nat.le_of_ble_eq_true rfl⟩ (k' := 0) (z' := 0) (N' := N) rfl rfl rfl (fun r σ10885 hp => ?_)
              obtain ⟨rfl, rfl⟩ := hp
              refine Wm.topE (w := 101) (by decide) ?_
              refine m_bipush F (v := 32) (by decide) e_X10_wordHere_23 ?_
              refine m_icmp_eq F e_X10_wordHere_25 (fun q => absurd q (by decide)) (fun _ => ?_)
              refine m_aload_n F rfl e_X10_wordHere_28 ?_
              refine r_getC F e_X10_wordHere_29 fl_X10_107 h1 (f20) ?_
              refine m_iload_n F rfl e_X10_wordHere_32 ?_
              refine m_iadd F e_X10_wordHere_33 ?_
              refine Wm.topE (w := nI (st + 3)) (nI_add st 3) ?_
              refine m_aload_n F rfl e_X10_wordHere_34 ?_
              refine r_getC F e_X10_wordHere_35 fl_X10_97 h1 (f10860) ?_
              refine m_icmp_ge F e_X10_wordHere_38 (fun q38 => ?_) (fun q38 => ?_)
              · have c38 : (st + 3) ≥ P.a := (nI_leI (a := P.a) (b := (st + 3)) (by omega) (by omega)).mp q38
                refine m_ldcS F e_X10_wordHere_69 F.sw.1.2.2 ?_
                refine m_iload_n F rfl e_X10_wordHere_71 ?_
                refine m_iload_n F rfl e_X10_wordHere_72 ?_
                refine m_iadd F e_X10_wordHere_73 ?_
                refine Wm.topE (w := 33) (by decide) ?_
                refine m_callO F e_X10_wordHere_74 (q_charAt (x_l X) V _ _ 33 (by omega)) cb_J0_charAt_5068e ml_X10_137 im_J0_charAt_5068e se_J0_charAt_5068e F.sw.2.2.2.2.2.2.1 rfl (rest := []) rfl (Nat.le_of_ble_eq_true rfl) ⟨Nat.le_of_ble_eq_true rfl, Nat.le_of_ble_eq_true rfl⟩ ⟨Nat.le_of_ble_eq_true rfl, Nat.le_of_ble_eq_true rfl⟩ (k' := 0) (z' := 0) (N' := N) rfl rfl rfl (fun r σ10886 hp => ?_)
                obtain ⟨rfl, rfl⟩ := hp
                refine Wm.topE (w := 101) (by decide) ?_
                refine m_bipush F (v := 32) (by decide) e_X10_wordHere_77 ?_
                refine m_icmp_ne F e_X10_wordHere_79 (fun _ => ?_) (fun q => absurd q (by decide))
                refine Wm.lvsub (lv' := [(1, .int 6), (2, .int 30), (0, .ref c)]) ?_ [1, 2, 3] rfl
                exact wk_6 F hQ h1 f20 hB hn7 hsa hpn hl hm (fun hz => by have z1 : P.a = st + 5 := hz.1; have z2 : t (st + 3) = 101 := hz.2 3 (by decide); omega)
              · have c38 : (st + 3) < P.a := by have hh := mt (nI_leI (a := P.a) (b := (st + 3)) (by omega) (by omega)).mpr q38; omega
                refine m_aload_n F rfl e_X10_wordHere_41 ?_
                refine r_getC F e_X10_wordHere_42 fl_X10_7 h1 (f10862) ?_
                refine m_aload_n F rfl e_X10_wordHere_45 ?_
                refine r_getC F e_X10_wordHere_46 fl_X10_107 h1 (f20) ?_
                refine m_iload_n F rfl e_X10_wordHere_49 ?_
                refine m_iadd F e_X10_wordHere_50 ?_
                refine Wm.topE (w := nI (st + 3)) (nI_add st 3) ?_
                have hb10887 := (hB (st + 3) (by omega)).1
                refine r_iald F (len := 700) (j := st + 3) e_X10_wordHere_51 h1 (fun _ h => h) (by decide) (nI_clamp (by omega)) (vp_in_nI (by omega) (by decide)) (fun x10888 h10889 f10890 => ?_)
                obtain rfl := Option.some.inj ((f10890).symm.trans ((hB (st + 3) (by omega)).2))
                refine m_ldcS F e_X10_wordHere_52 F.sw.1.2.2 ?_
                refine m_iload_n F rfl e_X10_wordHere_54 ?_
                refine m_iload_n F rfl e_X10_wordHere_55 ?_
                refine m_iadd F e_X10_wordHere_56 ?_
                refine Wm.topE (w := 33) (by decide) ?_
                refine m_callO F e_X10_wordHere_57 (q_charAt (x_l X) V _ _ 33 (by omega)) cb_J0_charAt_5068e ml_X10_137 im_J0_charAt_5068e se_J0_charAt_5068e F.sw.2.2.2.2.2.2.1 rfl (rest := [.int (nI (t (st + 3)))]) rfl (Nat.le_of_ble_eq_true rfl) ⟨Nat.le_of_ble_eq_true rfl, Nat.le_of_ble_eq_true rfl⟩ ⟨Nat.le_of_ble_eq_true rfl, Nat.le_of_ble_eq_true rfl⟩ (k' := 0) (z' := 0) (N' := N) rfl rfl rfl (fun r σ10891 hp => ?_)
                obtain ⟨rfl, rfl⟩ := hp
                refine Wm.topE (w := 101) (by decide) ?_
                refine m_icmp_ne F e_X10_wordHere_60 (fun q60 => ?_) (fun q60 => ?_)
                · have c60 : (t (st + 3)) ≠ 101 := by have hh := mt (nI_eq (a := (t (st + 3))) (b := 101) (by omega) (by omega)).mpr q60; omega
                  refine m_ldcS F e_X10_wordHere_69 F.sw.1.2.2 ?_
                  refine m_iload_n F rfl e_X10_wordHere_71 ?_
                  refine m_iload_n F rfl e_X10_wordHere_72 ?_
                  refine m_iadd F e_X10_wordHere_73 ?_
                  refine Wm.topE (w := 33) (by decide) ?_
                  refine m_callO F e_X10_wordHere_74 (q_charAt (x_l X) V _ _ 33 (by omega)) cb_J0_charAt_5068e ml_X10_137 im_J0_charAt_5068e se_J0_charAt_5068e F.sw.2.2.2.2.2.2.1 rfl (rest := []) rfl (Nat.le_of_ble_eq_true rfl) ⟨Nat.le_of_ble_eq_true rfl, Nat.le_of_ble_eq_true rfl⟩ ⟨Nat.le_of_ble_eq_true rfl, Nat.le_of_ble_eq_true rfl⟩ (k' := 0) (z' := 0) (N' := N) rfl rfl rfl (fun r σ10892 hp => ?_)
                  obtain ⟨rfl, rfl⟩ := hp
                  refine Wm.topE (w := 101) (by decide) ?_
                  refine m_bipush F (v := 32) (by decide) e_X10_wordHere_77 ?_
                  refine m_icmp_ne F e_X10_wordHere_79 (fun _ => ?_) (fun q => absurd q (by decide))
                  refine Wm.lvsub (lv' := [(1, .int 6), (2, .int 30), (0, .ref c)]) ?_ [1, 2, 3] rfl
                  exact wk_6 F hQ h1 f20 hB hn7 hsa hpn hl hm (fun hz => by have z1 : P.a = st + 5 := hz.1; have z2 : t (st + 3) = 101 := hz.2 3 (by decide); omega)
                · have c60 : (t (st + 3)) = 101 := (nI_eq (a := (t (st + 3))) (b := 101) (by omega) (by omega)).mp q60
                  refine m_iinc F (v := 4) (lv' := [(3, .int 4), (1, .int 6), (2, .int 30), (0, .ref c)]) e_X10_wordHere_63 rfl (by decide) (by decide) rfl ?_
                  refine m_goto F e_X10_wordHere_66 ?_
                  refine m_ldcS F e_X10_wordHere_15 F.sw.1.2.2 ?_
                  refine m_iload_n F rfl e_X10_wordHere_17 ?_
                  refine m_iload_n F rfl e_X10_wordHere_18 ?_
                  refine m_iadd F e_X10_wordHere_19 ?_
                  refine Wm.topE (w := 34) (by decide) ?_
                  refine m_callO F e_X10_wordHere_20 (q_charAt (x_l X) V _ _ 34 (by omega)) cb_J0_charAt_5068e ml_X10_137 im_J0_charAt_5068e se_J0_charAt_5068e F.sw.2.2.2.2.2.2.1 rfl (rest := []) rfl (Nat.le_of_ble_eq_true rfl) ⟨Nat.le_of_ble_eq_true rfl, Nat.le_of_ble_eq_true rfl⟩ ⟨Nat.le_of_ble_eq_true rfl, Nat.le_of_ble_eq_true rfl⟩ (k' := 0) (z' := 0) (N' := N) rfl rfl rfl (fun r σ10893 hp => ?_)
                  obtain ⟨rfl, rfl⟩ := hp
                  refine Wm.topE (w := 120) (by decide) ?_
                  refine m_bipush F (v := 32) (by decide) e_X10_wordHere_23 ?_
                  refine m_icmp_eq F e_X10_wordHere_25 (fun q => absurd q (by decide)) (fun _ => ?_)
                  refine m_aload_n F rfl e_X10_wordHere_28 ?_
                  refine r_getC F e_X10_wordHere_29 fl_X10_107 h1 (f20) ?_
                  refine m_iload_n F rfl e_X10_wordHere_32 ?_
                  refine m_iadd F e_X10_wordHere_33 ?_
                  refine Wm.topE (w := nI (st + 4)) (nI_add st 4) ?_
                  refine m_aload_n F rfl e_X10_wordHere_34 ?_
                  refine r_getC F e_X10_wordHere_35 fl_X10_97 h1 (f10860) ?_
                  refine m_icmp_ge F e_X10_wordHere_38 (fun q38 => ?_) (fun q38 => ?_)
                  · have c38 : (st + 4) ≥ P.a := (nI_leI (a := P.a) (b := (st + 4)) (by omega) (by omega)).mp q38
                    refine m_ldcS F e_X10_wordHere_69 F.sw.1.2.2 ?_
                    refine m_iload_n F rfl e_X10_wordHere_71 ?_
                    refine m_iload_n F rfl e_X10_wordHere_72 ?_
                    refine m_iadd F e_X10_wordHere_73 ?_
                    refine Wm.topE (w := 34) (by decide) ?_
                    refine m_callO F e_X10_wordHere_74 (q_charAt (x_l X) V _ _ 34 (by omega)) cb_J0_charAt_5068e ml_X10_137 im_J0_charAt_5068e se_J0_charAt_5068e F.sw.2.2.2.2.2.2.1 rfl (rest := []) rfl (Nat.le_of_ble_eq_true rfl) ⟨Nat.le_of_ble_eq_true rfl, Nat.le_of_ble_eq_true rfl⟩ ⟨Nat.le_of_ble_eq_true rfl, Nat.le_of_ble_eq_true rfl⟩ (k' := 0) (z' := 0) (N' := N) rfl rfl rfl (fun r σ10894 hp => ?_)
                    obtain ⟨rfl, rfl⟩ := hp
                    refine Wm.topE (w := 120) (by decide) ?_
                    refine m_bipush F (v := 32) (by decide) e_X10_wordHere_77 ?_
                    refine m_icmp_ne F e_X10_wordHere_79 (fun _ => ?_) (fun q => absurd q (by decide))
                    refine Wm.lvsub (lv' := [(1, .int 6), (2, .int 30), (0, .ref c)]) ?_ [1, 2, 3] rfl
                    exact wk_6 F hQ h1 f20 hB hn7 hsa hpn hl hm (fun hz => by have z1 : P.a = st + 5 := hz.1; have z2 : t (st + 4) = 120 := hz.2 4 (by decide); omega)
                  · have c38 : (st + 4) < P.a := by have hh := mt (nI_leI (a := P.a) (b := (st + 4)) (by omega) (by omega)).mpr q38; omega
                    refine m_aload_n F rfl e_X10_wordHere_41 ?_
                    refine r_getC F e_X10_wordHere_42 fl_X10_7 h1 (f10862) ?_
                    refine m_aload_n F rfl e_X10_wordHere_45 ?_
                    refine r_getC F e_X10_wordHere_46 fl_X10_107 h1 (f20) ?_
                    refine m_iload_n F rfl e_X10_wordHere_49 ?_
                    refine m_iadd F e_X10_wordHere_50 ?_
                    refine Wm.topE (w := nI (st + 4)) (nI_add st 4) ?_
                    have hb10895 := (hB (st + 4) (by omega)).1
                    refine r_iald F (len := 700) (j := st + 4) e_X10_wordHere_51 h1 (fun _ h => h) (by decide) (nI_clamp (by omega)) (vp_in_nI (by omega) (by decide)) (fun x10896 h10897 f10898 => ?_)
                    obtain rfl := Option.some.inj ((f10898).symm.trans ((hB (st + 4) (by omega)).2))
                    refine m_ldcS F e_X10_wordHere_52 F.sw.1.2.2 ?_
                    refine m_iload_n F rfl e_X10_wordHere_54 ?_
                    refine m_iload_n F rfl e_X10_wordHere_55 ?_
                    refine m_iadd F e_X10_wordHere_56 ?_
                    refine Wm.topE (w := 34) (by decide) ?_
                    refine m_callO F e_X10_wordHere_57 (q_charAt (x_l X) V _ _ 34 (by omega)) cb_J0_charAt_5068e ml_X10_137 im_J0_charAt_5068e se_J0_charAt_5068e F.sw.2.2.2.2.2.2.1 rfl (rest := [.int (nI (t (st + 4)))]) rfl (Nat.le_of_ble_eq_true rfl) ⟨Nat.le_of_ble_eq_true rfl, Nat.le_of_ble_eq_true rfl⟩ ⟨Nat.le_of_ble_eq_true rfl, Nat.le_of_ble_eq_true rfl⟩ (k' := 0) (z' := 0) (N' := N) rfl rfl rfl (fun r σ10899 hp => ?_)
                    obtain ⟨rfl, rfl⟩ := hp
                    refine Wm.topE (w := 120) (by decide) ?_
                    refine m_icmp_ne F e_X10_wordHere_60 (fun q60 => ?_) (fun q60 => ?_)
                    · have c60 : (t (st + 4)) ≠ 120 := by have hh := mt (nI_eq (a := (t (st + 4))) (b := 120) (by omega) (by omega)).mpr q60; omega
                      refine m_ldcS F e_X10_wordHere_69 F.sw.1.2.2 ?_
                      refine m_iload_n F rfl e_X10_wordHere_71 ?_
                      refine m_iload_n F rfl e_X10_wordHere_72 ?_
                      refine m_iadd F e_X10_wordHere_73 ?_
                      refine Wm.topE (w := 34) (by decide) ?_
                      refine m_callO F e_X10_wordHere_74 (q_charAt (x_l X) V _ _ 34 (by omega)) cb_J0_charAt_5068e ml_X10_137 im_J0_charAt_5068e se_J0_charAt_5068e F.sw.2.2.2.2.2.2.1 rfl (rest := []) rfl (Nat.le_of_ble_eq_true rfl) ⟨Nat.le_of_ble_eq_true rfl, Nat.le_of_ble_eq_true rfl⟩ ⟨Nat.le_of_ble_eq_true rfl, Nat.le_of_ble_eq_true rfl⟩ (k' := 0) (z' := 0) (N' := N) rfl rfl rfl (fun r σ10900 hp => ?_)
                      obtain ⟨rfl, rfl⟩ := hp
                      refine Wm.topE (w := 120) (by decide) ?_
                      refine m_bipush F (v := 32) (by decide) e_X10_wordHere_77 ?_
                      refine m_icmp_ne F e_X10_wordHere_79 (fun _ => ?_) (fun q => absurd q (by decide))
                      refine Wm.lvsub (lv' := [(1, .int 6), (2, .int 30), (0, .ref c)]) ?_ [1, 2, 3] rfl
                      exact wk_6 F hQ h1 f20 hB hn7 hsa hpn hl hm (fun hz => by have z1 : P.a = st + 5 := hz.1; have z2 : t (st + 4) = 120 := hz.2 4 (by decide); omega)
                    · have c60 : (t (st + 4)) = 120 := (nI_eq (a := (t (st + 4))) (b := 120) (by omega) (by omega)).mp q60
                      refine m_iinc F (v := 5) (lv' := [(3, .int 5), (1, .int 6), (2, .int 30), (0, .ref c)]) e_X10_wordHere_63 rfl (by decide) (by decide) rfl ?_
                      refine m_goto F e_X10_wordHere_66 ?_
                      refine m_ldcS F e_X10_wordHere_15 F.sw.1.2.2 ?_
                      refine m_iload_n F rfl e_X10_wordHere_17 ?_
                      refine m_iload_n F rfl e_X10_wordHere_18 ?_
                      refine m_iadd F e_X10_wordHere_19 ?_
                      refine Wm.topE (w := 35) (by decide) ?_
                      refine m_callO F e_X10_wordHere_20 (q_charAt (x_l X) V _ _ 35 (by omega)) cb_J0_charAt_5068e ml_X10_137 im_J0_charAt_5068e se_J0_charAt_5068e F.sw.2.2.2.2.2.2.1 rfl (rest := []) rfl (Nat.le_of_ble_eq_true rfl) ⟨Nat.le_of_ble_eq_true rfl, Nat.le_of_ble_eq_true rfl⟩ ⟨Nat.le_of_ble_eq_true rfl, Nat.le_of_ble_eq_true rfl⟩ (k' := 0) (z' := 0) (N' := N) rfl rfl rfl (fun r σ10901 hp => ?_)
                      obtain ⟨rfl, rfl⟩ := hp
                      refine Wm.topE (w := 32) (by decide) ?_
                      refine m_bipush F (v := 32) (by decide) e_X10_wordHere_23 ?_
                      refine m_icmp_eq F e_X10_wordHere_25 (fun _ => ?_) (fun q => absurd (by decide) q)
                      refine m_ldcS F e_X10_wordHere_69 F.sw.1.2.2 ?_
                      refine m_iload_n F rfl e_X10_wordHere_71 ?_
                      refine m_iload_n F rfl e_X10_wordHere_72 ?_
                      refine m_iadd F e_X10_wordHere_73 ?_
                      refine Wm.topE (w := 35) (by decide) ?_
                      refine m_callO F e_X10_wordHere_74 (q_charAt (x_l X) V _ _ 35 (by omega)) cb_J0_charAt_5068e ml_X10_137 im_J0_charAt_5068e se_J0_charAt_5068e F.sw.2.2.2.2.2.2.1 rfl (rest := []) rfl (Nat.le_of_ble_eq_true rfl) ⟨Nat.le_of_ble_eq_true rfl, Nat.le_of_ble_eq_true rfl⟩ ⟨Nat.le_of_ble_eq_true rfl, Nat.le_of_ble_eq_true rfl⟩ (k' := 0) (z' := 0) (N' := N) rfl rfl rfl (fun r σ10902 hp => ?_)
                      obtain ⟨rfl, rfl⟩ := hp
                      refine Wm.topE (w := 32) (by decide) ?_
                      refine m_bipush F (v := 32) (by decide) e_X10_wordHere_77 ?_
                      refine m_icmp_ne F e_X10_wordHere_79 (fun q => absurd (by decide) q) (fun _ => ?_)
                      refine m_aload_n F rfl e_X10_wordHere_82 ?_
                      refine r_getC F e_X10_wordHere_83 fl_X10_107 h1 (f20) ?_
                      refine m_iload_n F rfl e_X10_wordHere_86 ?_
                      refine m_iadd F e_X10_wordHere_87 ?_
                      refine Wm.topE (w := nI (st + 5)) (nI_add st 5) ?_
                      refine m_aload_n F rfl e_X10_wordHere_88 ?_
                      refine r_getC F e_X10_wordHere_89 fl_X10_97 h1 (f10860) ?_
                      refine m_icmp_ne F e_X10_wordHere_92 (fun q92 => ?_) (fun q92 => ?_)
                      · have c92 : (st + 5) ≠ P.a := by have hh := mt (nI_eq (a := (st + 5)) (b := P.a) (by omega) (by omega)).mpr q92; omega
                        refine Wm.lvsub (lv' := [(1, .int 6), (2, .int 30), (0, .ref c)]) ?_ [1, 2, 3] rfl
                        exact wk_6 F hQ h1 f20 hB hn7 hsa hpn hl hm (fun hz => by have z1 : P.a = st + 5 := hz.1; omega)
                      · have c92 : (st + 5) = P.a := (nI_eq (a := (st + 5)) (b := P.a) (by omega) (by omega)).mp q92
                        refine m_iload_n F rfl e_X10_wordHere_95 ?_
                        have hz : mw t st P.a 6 := by
                          refine ⟨(show P.a = st + 5 by omega), fun i hi => ?_⟩
                          have hi2 : i = 0 ∨ i = 1 ∨ i = 2 ∨ i = 3 ∨ i = 4 := by have hi3 : i < 5 := hi; omega
                          rcases hi2 with rfl | rfl | rfl | rfl | rfl
                          · show t (st + 0) = 105; first | assumption | omega
                          · show t (st + 1) = 110; first | assumption | omega
                          · show t (st + 2) = 100; first | assumption | omega
                          · show t (st + 3) = 101; first | assumption | omega
                          · show t (st + 4) = 120; first | assumption | omega
                        have hy := kix_mw hsa hl (by decide) hz
                        exact m_iret F hQ e_X10_wordHere_96 ⟨h1, Or.inl ⟨hy.1, by rw [hy.2]; decide, by rw [hy.2]; rfl⟩⟩
set_option maxRecDepth 20000 in
theorem wk_5 {V : VX} {X : MX} {N : Nat} {σ : Mem} {c T Z u h : Nat} {P : NP} {L : Nat → LQ} {n st : Nat} {t : Nat → Nat} (F : Fx V X yX10_wordHere cX10_wordHere 4 (some .int) (rmd 4 0 0)) (hQ : Rt V X 0 0 N (fun r τ => HS V c (⟨T, Z, u, h, P, L⟩ : RG) [0, 1, 2, 3, 4, 5, 6, 7, 8, 9, 10, 11, 12, 13, 14, 15, 16, 17, 18, 19, 20, 21, 22, 23] σ τ ∧ ((P.a - st ≤ 6 ∧ kix (nmc t st P.a 6) < 9 ∧ r = some (.int (nI (kix (nmc t st P.a 6))))) ∨ (¬ (P.a - st ≤ 6 ∧ kix (nmc t st P.a 6) < 9) ∧ r = some (.int (-1)))))) (h1 : HS V c ⟨T, Z, u, h, P, L⟩ [0, 1, 2, 3, 4, 5, 6, 7, 8, 9, 10, 11, 12, 13, 14, 15, 16, 17, 18, 19, 20, 21, 22, 23] σ σ) (f20 : fld σ c 20 = some (.int (nI st))) (hB : BR σ c n t) (hn7 : n ≤ 700) (hsa : st < P.a) (hpn : P.a ≤ n) (hl : ∀ i, st ≤ i → i < P.a → isL (t i) = true) (hm : ∀ m, m < 5 → ¬ mw t st P.a m) (hz : ¬ mw t st P.a 5) : Wm V X 4 N σ 0 0 97 [(1, .int 5), (2, .int 25), (0, .ref c)] [] := by
  refine m_ldcS F e_X10_wordHere_97 F.sw.1.2.2 ?_
  refine m_iload_n F rfl e_X10_wordHere_99 ?_
  refine m_callO F e_X10_wordHere_100 (q_charAt (x_l X) V _ _ 25 (by omega)) cb_J0_charAt_5068e ml_X10_137 im_J0_charAt_5068e se_J0_charAt_5068e F.sw.2.2.2.2.2.2.1 rfl (rest := []) rfl (Nat.le_of_ble_eq_true rfl) ⟨Nat.le_of_ble_eq_true rfl, Nat.le_of_ble_eq_true rfl⟩ ⟨Nat.le_of_ble_eq_true rfl, Nat.le_of_ble_eq_true rfl⟩ (k' := 0) (z' := 0) (N' := N) rfl rfl rfl (fun r σ10903 hp => ?_)
  obtain ⟨rfl, rfl⟩ := hp
  refine Wm.topE (w := 116) (by decide) ?_
  refine m_bipush F (v := 32) (by decide) e_X10_wordHere_103 ?_
  refine m_icmp_eq F e_X10_wordHere_105 (fun q => absurd q (by decide)) (fun _ => ?_)
  refine m_iinc F (v := 26) (lv' := [(2, .int 26), (1, .int 5), (0, .ref c)]) e_X10_wordHere_108 rfl (by decide) (by decide) rfl ?_
  refine m_goto F e_X10_wordHere_111 ?_
  refine m_ldcS F e_X10_wordHere_97 F.sw.1.2.2 ?_
  refine m_iload_n F rfl e_X10_wordHere_99 ?_
  refine m_callO F e_X10_wordHere_100 (q_charAt (x_l X) V _ _ 26 (by omega)) cb_J0_charAt_5068e ml_X10_137 im_J0_charAt_5068e se_J0_charAt_5068e F.sw.2.2.2.2.2.2.1 rfl (rest := []) rfl (Nat.le_of_ble_eq_true rfl) ⟨Nat.le_of_ble_eq_true rfl, Nat.le_of_ble_eq_true rfl⟩ ⟨Nat.le_of_ble_eq_true rfl, Nat.le_of_ble_eq_true rfl⟩ (k' := 0) (z' := 0) (N' := N) rfl rfl rfl (fun r σ10904 hp => ?_)
  obtain ⟨rfl, rfl⟩ := hp
  refine Wm.topE (w := 105) (by decide) ?_
  refine m_bipush F (v := 32) (by decide) e_X10_wordHere_103 ?_
  refine m_icmp_eq F e_X10_wordHere_105 (fun q => absurd q (by decide)) (fun _ => ?_)
  refine m_iinc F (v := 27) (lv' := [(2, .int 27), (1, .int 5), (0, .ref c)]) e_X10_wordHere_108 rfl (by decide) (by decide) rfl ?_
  refine m_goto F e_X10_wordHere_111 ?_
  refine m_ldcS F e_X10_wordHere_97 F.sw.1.2.2 ?_
  refine m_iload_n F rfl e_X10_wordHere_99 ?_
  refine m_callO F e_X10_wordHere_100 (q_charAt (x_l X) V _ _ 27 (by omega)) cb_J0_charAt_5068e ml_X10_137 im_J0_charAt_5068e se_J0_charAt_5068e F.sw.2.2.2.2.2.2.1 rfl (rest := []) rfl (Nat.le_of_ble_eq_true rfl) ⟨Nat.le_of_ble_eq_true rfl, Nat.le_of_ble_eq_true rfl⟩ ⟨Nat.le_of_ble_eq_true rfl, Nat.le_of_ble_eq_true rfl⟩ (k' := 0) (z' := 0) (N' := N) rfl rfl rfl (fun r σ10905 hp => ?_)
  obtain ⟨rfl, rfl⟩ := hp
  refine Wm.topE (w := 101) (by decide) ?_
  refine m_bipush F (v := 32) (by decide) e_X10_wordHere_103 ?_
  refine m_icmp_eq F e_X10_wordHere_105 (fun q => absurd q (by decide)) (fun _ => ?_)
  refine m_iinc F (v := 28) (lv' := [(2, .int 28), (1, .int 5), (0, .ref c)]) e_X10_wordHere_108 rfl (by decide) (by decide) rfl ?_
  refine m_goto F e_X10_wordHere_111 ?_
  refine m_ldcS F e_X10_wordHere_97 F.sw.1.2.2 ?_
  refine m_iload_n F rfl e_X10_wordHere_99 ?_
  refine m_callO F e_X10_wordHere_100 (q_charAt (x_l X) V _ _ 28 (by omega)) cb_J0_charAt_5068e ml_X10_137 im_J0_charAt_5068e se_J0_charAt_5068e F.sw.2.2.2.2.2.2.1 rfl (rest := []) rfl (Nat.le_of_ble_eq_true rfl) ⟨Nat.le_of_ble_eq_true rfl, Nat.le_of_ble_eq_true rfl⟩ ⟨Nat.le_of_ble_eq_true rfl, Nat.le_of_ble_eq_true rfl⟩ (k' := 0) (z' := 0) (N' := N) rfl rfl rfl (fun r σ10906 hp => ?_)
  obtain ⟨rfl, rfl⟩ := hp
  refine Wm.topE (w := 100) (by decide) ?_
  refine m_bipush F (v := 32) (by decide) e_X10_wordHere_103 ?_
  refine m_icmp_eq F e_X10_wordHere_105 (fun q => absurd q (by decide)) (fun _ => ?_)
  refine m_iinc F (v := 29) (lv' := [(2, .int 29), (1, .int 5), (0, .ref c)]) e_X10_wordHere_108 rfl (by decide) (by decide) rfl ?_
  refine m_goto F e_X10_wordHere_111 ?_
  refine m_ldcS F e_X10_wordHere_97 F.sw.1.2.2 ?_
  refine m_iload_n F rfl e_X10_wordHere_99 ?_
  refine m_callO F e_X10_wordHere_100 (q_charAt (x_l X) V _ _ 29 (by omega)) cb_J0_charAt_5068e ml_X10_137 im_J0_charAt_5068e se_J0_charAt_5068e F.sw.2.2.2.2.2.2.1 rfl (rest := []) rfl (Nat.le_of_ble_eq_true rfl) ⟨Nat.le_of_ble_eq_true rfl, Nat.le_of_ble_eq_true rfl⟩ ⟨Nat.le_of_ble_eq_true rfl, Nat.le_of_ble_eq_true rfl⟩ (k' := 0) (z' := 0) (N' := N) rfl rfl rfl (fun r σ10907 hp => ?_)
  obtain ⟨rfl, rfl⟩ := hp
  refine Wm.topE (w := 32) (by decide) ?_
  refine m_bipush F (v := 32) (by decide) e_X10_wordHere_103 ?_
  refine m_icmp_eq F e_X10_wordHere_105 (fun _ => ?_) (fun q => absurd (by decide) q)
  refine m_iinc F (v := 30) (lv' := [(2, .int 30), (1, .int 5), (0, .ref c)]) e_X10_wordHere_114 rfl (by decide) (by decide) rfl ?_
  refine m_iinc F (v := 6) (lv' := [(1, .int 6), (2, .int 30), (0, .ref c)]) e_X10_wordHere_117 rfl (by decide) (by decide) rfl ?_
  refine m_goto F e_X10_wordHere_120 ?_
  exact wh_6 F hQ h1 f20 hB hn7 hsa hpn hl (fun m9 h9 => if e9 : m9 = 5 then e9 ▸ hz else hm m9 (by omega))
set_option maxRecDepth 20000 in
theorem wh_5 {V : VX} {X : MX} {N : Nat} {σ : Mem} {c T Z u h : Nat} {P : NP} {L : Nat → LQ} {n st : Nat} {t : Nat → Nat} (F : Fx V X yX10_wordHere cX10_wordHere 4 (some .int) (rmd 4 0 0)) (hQ : Rt V X 0 0 N (fun r τ => HS V c (⟨T, Z, u, h, P, L⟩ : RG) [0, 1, 2, 3, 4, 5, 6, 7, 8, 9, 10, 11, 12, 13, 14, 15, 16, 17, 18, 19, 20, 21, 22, 23] σ τ ∧ ((P.a - st ≤ 6 ∧ kix (nmc t st P.a 6) < 9 ∧ r = some (.int (nI (kix (nmc t st P.a 6))))) ∨ (¬ (P.a - st ≤ 6 ∧ kix (nmc t st P.a 6) < 9) ∧ r = some (.int (-1)))))) (h1 : HS V c ⟨T, Z, u, h, P, L⟩ [0, 1, 2, 3, 4, 5, 6, 7, 8, 9, 10, 11, 12, 13, 14, 15, 16, 17, 18, 19, 20, 21, 22, 23] σ σ) (f20 : fld σ c 20 = some (.int (nI st))) (hB : BR σ c n t) (hn7 : n ≤ 700) (hsa : st < P.a) (hpn : P.a ≤ n) (hl : ∀ i, st ≤ i → i < P.a → isL (t i) = true) (hm : ∀ m, m < 5 → ¬ mw t st P.a m) : Wm V X 4 N σ 0 0 4 [(1, .int 5), (2, .int 25), (0, .ref c)] [] := by
  refine m_iload_n F rfl e_X10_wordHere_4 ?_
  refine m_ldcS F e_X10_wordHere_5 F.sw.1.2.2 ?_
  refine m_callO F e_X10_wordHere_7 (q_length (x_l X) V _ _) cb_J0_length_8abf5 ml_X10_132 im_J0_length_8abf5 se_J0_length_8abf5 F.sw.2.2.2.2.2.2.1 rfl (rest := [.int 25]) rfl (Nat.le_of_ble_eq_true rfl) ⟨Nat.le_of_ble_eq_true rfl, Nat.le_of_ble_eq_true rfl⟩ ⟨Nat.le_of_ble_eq_true rfl, Nat.le_of_ble_eq_true rfl⟩ (k' := 0) (z' := 0) (N' := N) rfl rfl rfl (fun r σ10908 hp => ?_)
  obtain ⟨rfl, rfl⟩ := hp
  refine m_icmp_ge F e_X10_wordHere_10 (fun q => absurd q (by decide)) (fun _ => ?_)
  refine m_iconst F (v := 0) (by decide) e_X10_wordHere_13 ?_
  refine m_istore_n F (lv' := [(3, .int 0), (1, .int 5), (2, .int 25), (0, .ref c)]) e_X10_wordHere_14 (by decide) rfl ?_
  refine m_ldcS F e_X10_wordHere_15 F.sw.1.2.2 ?_
  refine m_iload_n F rfl e_X10_wordHere_17 ?_
  refine m_iload_n F rfl e_X10_wordHere_18 ?_
  refine m_iadd F e_X10_wordHere_19 ?_
  refine Wm.topE (w := 25) (by decide) ?_
  refine m_callO F e_X10_wordHere_20 (q_charAt (x_l X) V _ _ 25 (by omega)) cb_J0_charAt_5068e ml_X10_137 im_J0_charAt_5068e se_J0_charAt_5068e F.sw.2.2.2.2.2.2.1 rfl (rest := []) rfl (Nat.le_of_ble_eq_true rfl) ⟨Nat.le_of_ble_eq_true rfl, Nat.le_of_ble_eq_true rfl⟩ ⟨Nat.le_of_ble_eq_true rfl, Nat.le_of_ble_eq_true rfl⟩ (k' := 0) (z' := 0) (N' := N) rfl rfl rfl (fun r σ10909 hp => ?_)
  obtain ⟨rfl, rfl⟩ := hp
  refine Wm.topE (w := 116) (by decide) ?_
  refine m_bipush F (v := 32) (by decide) e_X10_wordHere_23 ?_
  refine m_icmp_eq F e_X10_wordHere_25 (fun q => absurd q (by decide)) (fun _ => ?_)
  refine m_aload_n F rfl e_X10_wordHere_28 ?_
  refine r_getC F e_X10_wordHere_29 fl_X10_107 h1 (f20) ?_
  refine m_iload_n F rfl e_X10_wordHere_32 ?_
  refine m_iadd F e_X10_wordHere_33 ?_
  refine Wm.topE (w := nI st) (nI_add st 0) ?_
  refine m_aload_n F rfl e_X10_wordHere_34 ?_
  refine r_get F e_X10_wordHere_35 fl_X10_97 h1 rfl (fun v hv f10910 => ?_)
  obtain rfl : v = .int (nI (P.a)) := hv
  refine m_icmp_ge F e_X10_wordHere_38 (fun q38 => ?_) (fun q38 => ?_)
  · have c38 : st ≥ P.a := (nI_leI (a := P.a) (b := st) (by omega) (by omega)).mp q38
    refine m_ldcS F e_X10_wordHere_69 F.sw.1.2.2 ?_
    refine m_iload_n F rfl e_X10_wordHere_71 ?_
    refine m_iload_n F rfl e_X10_wordHere_72 ?_
    refine m_iadd F e_X10_wordHere_73 ?_
    refine Wm.topE (w := 25) (by decide) ?_
    refine m_callO F e_X10_wordHere_74 (q_charAt (x_l X) V _ _ 25 (by omega)) cb_J0_charAt_5068e ml_X10_137 im_J0_charAt_5068e se_J0_charAt_5068e F.sw.2.2.2.2.2.2.1 rfl (rest := []) rfl (Nat.le_of_ble_eq_true rfl) ⟨Nat.le_of_ble_eq_true rfl, Nat.le_of_ble_eq_true rfl⟩ ⟨Nat.le_of_ble_eq_true rfl, Nat.le_of_ble_eq_true rfl⟩ (k' := 0) (z' := 0) (N' := N) rfl rfl rfl (fun r σ10911 hp => ?_)
    obtain ⟨rfl, rfl⟩ := hp
    refine Wm.topE (w := 116) (by decide) ?_
    refine m_bipush F (v := 32) (by decide) e_X10_wordHere_77 ?_
    refine m_icmp_ne F e_X10_wordHere_79 (fun _ => ?_) (fun q => absurd q (by decide))
    refine Wm.lvsub (lv' := [(1, .int 5), (2, .int 25), (0, .ref c)]) ?_ [1, 2, 3] rfl
    exact wk_5 F hQ h1 f20 hB hn7 hsa hpn hl hm (fun hz => by have z1 : P.a = st + 4 := hz.1; have z2 : t (st) = 116 := hz.2 0 (by decide); omega)
  · have c38 : st < P.a := by have hh := mt (nI_leI (a := P.a) (b := st) (by omega) (by omega)).mpr q38; omega
    refine m_aload_n F rfl e_X10_wordHere_41 ?_
    refine r_get F e_X10_wordHere_42 fl_X10_7 h1 rfl (fun v hv f10912 => ?_)
    obtain rfl : v = .ref (c + 1) := hv
    refine m_aload_n F rfl e_X10_wordHere_45 ?_
    refine r_getC F e_X10_wordHere_46 fl_X10_107 h1 (f20) ?_
    refine m_iload_n F rfl e_X10_wordHere_49 ?_
    refine m_iadd F e_X10_wordHere_50 ?_
    refine Wm.topE (w := nI st) (nI_add st 0) ?_
    have hb10913 := (hB st (by omega)).1
    refine r_iald F (len := 700) (j := st) e_X10_wordHere_51 h1 (fun _ h => h) (by decide) (nI_clamp (by omega)) (vp_in_nI (by omega) (by decide)) (fun x10914 h10915 f10916 => ?_)
    obtain rfl := Option.some.inj ((f10916).symm.trans ((hB st (by omega)).2))
    refine m_ldcS F e_X10_wordHere_52 F.sw.1.2.2 ?_
    refine m_iload_n F rfl e_X10_wordHere_54 ?_
    refine m_iload_n F rfl e_X10_wordHere_55 ?_
    refine m_iadd F e_X10_wordHere_56 ?_
    refine Wm.topE (w := 25) (by decide) ?_
    refine m_callO F e_X10_wordHere_57 (q_charAt (x_l X) V _ _ 25 (by omega)) cb_J0_charAt_5068e ml_X10_137 im_J0_charAt_5068e se_J0_charAt_5068e F.sw.2.2.2.2.2.2.1 rfl (rest := [.int (nI (t st))]) rfl (Nat.le_of_ble_eq_true rfl) ⟨Nat.le_of_ble_eq_true rfl, Nat.le_of_ble_eq_true rfl⟩ ⟨Nat.le_of_ble_eq_true rfl, Nat.le_of_ble_eq_true rfl⟩ (k' := 0) (z' := 0) (N' := N) rfl rfl rfl (fun r σ10917 hp => ?_)
    obtain ⟨rfl, rfl⟩ := hp
    refine Wm.topE (w := 116) (by decide) ?_
    refine m_icmp_ne F e_X10_wordHere_60 (fun q60 => ?_) (fun q60 => ?_)
    · have c60 : (t st) ≠ 116 := by have hh := mt (nI_eq (a := (t st)) (b := 116) (by omega) (by omega)).mpr q60; omega
      refine m_ldcS F e_X10_wordHere_69 F.sw.1.2.2 ?_
      refine m_iload_n F rfl e_X10_wordHere_71 ?_
      refine m_iload_n F rfl e_X10_wordHere_72 ?_
      refine m_iadd F e_X10_wordHere_73 ?_
      refine Wm.topE (w := 25) (by decide) ?_
      refine m_callO F e_X10_wordHere_74 (q_charAt (x_l X) V _ _ 25 (by omega)) cb_J0_charAt_5068e ml_X10_137 im_J0_charAt_5068e se_J0_charAt_5068e F.sw.2.2.2.2.2.2.1 rfl (rest := []) rfl (Nat.le_of_ble_eq_true rfl) ⟨Nat.le_of_ble_eq_true rfl, Nat.le_of_ble_eq_true rfl⟩ ⟨Nat.le_of_ble_eq_true rfl, Nat.le_of_ble_eq_true rfl⟩ (k' := 0) (z' := 0) (N' := N) rfl rfl rfl (fun r σ10918 hp => ?_)
      obtain ⟨rfl, rfl⟩ := hp
      refine Wm.topE (w := 116) (by decide) ?_
      refine m_bipush F (v := 32) (by decide) e_X10_wordHere_77 ?_
      refine m_icmp_ne F e_X10_wordHere_79 (fun _ => ?_) (fun q => absurd q (by decide))
      refine Wm.lvsub (lv' := [(1, .int 5), (2, .int 25), (0, .ref c)]) ?_ [1, 2, 3] rfl
      exact wk_5 F hQ h1 f20 hB hn7 hsa hpn hl hm (fun hz => by have z1 : P.a = st + 4 := hz.1; have z2 : t (st) = 116 := hz.2 0 (by decide); omega)
    · have c60 : (t st) = 116 := (nI_eq (a := (t st)) (b := 116) (by omega) (by omega)).mp q60
      refine m_iinc F (v := 1) (lv' := [(3, .int 1), (1, .int 5), (2, .int 25), (0, .ref c)]) e_X10_wordHere_63 rfl (by decide) (by decide) rfl ?_
      refine m_goto F e_X10_wordHere_66 ?_
      refine m_ldcS F e_X10_wordHere_15 F.sw.1.2.2 ?_
      refine m_iload_n F rfl e_X10_wordHere_17 ?_
      refine m_iload_n F rfl e_X10_wordHere_18 ?_
      refine m_iadd F e_X10_wordHere_19 ?_
      refine Wm.topE (w := 26) (by decide) ?_
      refine m_callO F e_X10_wordHere_20 (q_charAt (x_l X) V _ _ 26 (by omega)) cb_J0_charAt_5068e ml_X10_137 im_J0_charAt_5068e se_J0_charAt_5068e F.sw.2.2.2.2.2.2.1 rfl (rest := []) rfl (Nat.le_of_ble_eq_true rfl) ⟨Nat.le_of_ble_eq_true rfl, Nat.le_of_ble_eq_true rfl⟩ ⟨Nat.le_of_ble_eq_true rfl, Nat.le_of_ble_eq_true rfl⟩ (k' := 0) (z' := 0) (N' := N) rfl rfl rfl (fun r σ10919 hp => ?_)
      obtain ⟨rfl, rfl⟩ := hp
      refine Wm.topE (w := 105) (by decide) ?_
      refine m_bipush F (v := 32) (by decide) e_X10_wordHere_23 ?_
      refine m_icmp_eq F e_X10_wordHere_25 (fun q => absurd q (by decide)) (fun _ => ?_)
      refine m_aload_n F rfl e_X10_wordHere_28 ?_
      refine r_getC F e_X10_wordHere_29 fl_X10_107 h1 (f20) ?_
      refine m_iload_n F rfl e_X10_wordHere_32 ?_
      refine m_iadd F e_X10_wordHere_33 ?_
      refine Wm.topE (w := nI (st + 1)) (nI_add st 1) ?_
      refine m_aload_n F rfl e_X10_wordHere_34 ?_
      refine r_getC F e_X10_wordHere_35 fl_X10_97 h1 (f10910) ?_
      refine m_icmp_ge F e_X10_wordHere_38 (fun q38 => ?_) (fun q38 => ?_)
      · have c38 : (st + 1) ≥ P.a := (nI_leI (a := P.a) (b := (st + 1)) (by omega) (by omega)).mp q38
        refine m_ldcS F e_X10_wordHere_69 F.sw.1.2.2 ?_
        refine m_iload_n F rfl e_X10_wordHere_71 ?_
        refine m_iload_n F rfl e_X10_wordHere_72 ?_
        refine m_iadd F e_X10_wordHere_73 ?_
        refine Wm.topE (w := 26) (by decide) ?_
        refine m_callO F e_X10_wordHere_74 (q_charAt (x_l X) V _ _ 26 (by omega)) cb_J0_charAt_5068e ml_X10_137 im_J0_charAt_5068e se_J0_charAt_5068e F.sw.2.2.2.2.2.2.1 rfl (rest := []) rfl (Nat.le_of_ble_eq_true rfl) ⟨Nat.le_of_ble_eq_true rfl, Nat.le_of_ble_eq_true rfl⟩ ⟨Nat.le_of_ble_eq_true rfl, Nat.le_of_ble_eq_true rfl⟩ (k' := 0) (z' := 0) (N' := N) rfl rfl rfl (fun r σ10920 hp => ?_)
        obtain ⟨rfl, rfl⟩ := hp
        refine Wm.topE (w := 105) (by decide) ?_
        refine m_bipush F (v := 32) (by decide) e_X10_wordHere_77 ?_
        refine m_icmp_ne F e_X10_wordHere_79 (fun _ => ?_) (fun q => absurd q (by decide))
        refine Wm.lvsub (lv' := [(1, .int 5), (2, .int 25), (0, .ref c)]) ?_ [1, 2, 3] rfl
        exact wk_5 F hQ h1 f20 hB hn7 hsa hpn hl hm (fun hz => by have z1 : P.a = st + 4 := hz.1; have z2 : t (st + 1) = 105 := hz.2 1 (by decide); omega)
      · have c38 : (st + 1) < P.a := by have hh := mt (nI_leI (a := P.a) (b := (st + 1)) (by omega) (by omega)).mpr q38; omega
        refine m_aload_n F rfl e_X10_wordHere_41 ?_
        refine r_getC F e_X10_wordHere_42 fl_X10_7 h1 (f10912) ?_
        refine m_aload_n F rfl e_X10_wordHere_45 ?_
        refine r_getC F e_X10_wordHere_46 fl_X10_107 h1 (f20) ?_
        refine m_iload_n F rfl e_X10_wordHere_49 ?_
        refine m_iadd F e_X10_wordHere_50 ?_
        refine Wm.topE (w := nI (st + 1)) (nI_add st 1) ?_
        have hb10921 := (hB (st + 1) (by omega)).1
        refine r_iald F (len := 700) (j := st + 1) e_X10_wordHere_51 h1 (fun _ h => h) (by decide) (nI_clamp (by omega)) (vp_in_nI (by omega) (by decide)) (fun x10922 h10923 f10924 => ?_)
        obtain rfl := Option.some.inj ((f10924).symm.trans ((hB (st + 1) (by omega)).2))
        refine m_ldcS F e_X10_wordHere_52 F.sw.1.2.2 ?_
        refine m_iload_n F rfl e_X10_wordHere_54 ?_
        refine m_iload_n F rfl e_X10_wordHere_55 ?_
        refine m_iadd F e_X10_wordHere_56 ?_
        refine Wm.topE (w := 26) (by decide) ?_
        refine m_callO F e_X10_wordHere_57 (q_charAt (x_l X) V _ _ 26 (by omega)) cb_J0_charAt_5068e ml_X10_137 im_J0_charAt_5068e se_J0_charAt_5068e F.sw.2.2.2.2.2.2.1 rfl (rest := [.int (nI (t (st + 1)))]) rfl (Nat.le_of_ble_eq_true rfl) ⟨Nat.le_of_ble_eq_true rfl, Nat.le_of_ble_eq_true rfl⟩ ⟨Nat.le_of_ble_eq_true rfl, Nat.le_of_ble_eq_true rfl⟩ (k' := 0) (z' := 0) (N' := N) rfl rfl rfl (fun r σ10925 hp => ?_)
        obtain ⟨rfl, rfl⟩ := hp
        refine Wm.topE (w := 105) (by decide) ?_
        refine m_icmp_ne F e_X10_wordHere_60 (fun q60 => ?_) (fun q60 => ?_)
        · have c60 : (t (st + 1)) ≠ 105 := by have hh := mt (nI_eq (a := (t (st + 1))) (b := 105) (by omega) (by omega)).mpr q60; omega
          refine m_ldcS F e_X10_wordHere_69 F.sw.1.2.2 ?_
          refine m_iload_n F rfl e_X10_wordHere_71 ?_
          refine m_iload_n F rfl e_X10_wordHere_72 ?_
          refine m_iadd F e_X10_wordHere_73 ?_
          refine Wm.topE (w := 26) (by decide) ?_
          refine m_callO F e_X10_wordHere_74 (q_charAt (x_l X) V _ _ 26 (by omega)) cb_J0_charAt_5068e ml_X10_137 im_J0_charAt_5068e se_J0_charAt_5068e F.sw.2.2.2.2.2.2.1 rfl (rest := []) rfl (Nat.le_of_ble_eq_true rfl) ⟨Nat.le_of_ble_eq_true rfl, Nat.le_of_ble_eq_true rfl⟩ ⟨Nat.le_of_ble_eq_true rfl, Nat.le_of_ble_eq_true rfl⟩ (k' := 0) (z' := 0) (N' := N) rfl rfl rfl (fun r σ10926 hp => ?_)
          obtain ⟨rfl, rfl⟩ := hp
          refine Wm.topE (w := 105) (by decide) ?_
          refine m_bipush F (v := 32) (by decide) e_X10_wordHere_77 ?_
          refine m_icmp_ne F e_X10_wordHere_79 (fun _ => ?_) (fun q => absurd q (by decide))
          refine Wm.lvsub (lv' := [(1, .int 5), (2, .int 25), (0, .ref c)]) ?_ [1, 2, 3] rfl
          exact wk_5 F hQ h1 f20 hB hn7 hsa hpn hl hm (fun hz => by have z1 : P.a = st + 4 := hz.1; have z2 : t (st + 1) = 105 := hz.2 1 (by decide); omega)
        · have c60 : (t (st + 1)) = 105 := (nI_eq (a := (t (st + 1))) (b := 105) (by omega) (by omega)).mp q60
          refine m_iinc F (v := 2) (lv' := [(3, .int 2), (1, .int 5), (2, .int 25), (0, .ref c)]) e_X10_wordHere_63 rfl (by decide) (by decide) rfl ?_
          refine m_goto F e_X10_wordHere_66 ?_
          refine m_ldcS F e_X10_wordHere_15 F.sw.1.2.2 ?_
          refine m_iload_n F rfl e_X10_wordHere_17 ?_
          refine m_iload_n F rfl e_X10_wordHere_18 ?_
          refine m_iadd F e_X10_wordHere_19 ?_
          refine Wm.topE (w := 27) (by decide) ?_
          refine m_callO F e_X10_wordHere_20 (q_charAt (x_l X) V _ _ 27 (by omega)) cb_J0_charAt_5068e ml_X10_137 im_J0_charAt_5068e se_J0_charAt_5068e F.sw.2.2.2.2.2.2.1 rfl (rest := []) rfl (Nat.le_of_ble_eq_true rfl) ⟨Nat.le_of_ble_eq_true rfl, Nat.le_of_ble_eq_true rfl⟩ ⟨Nat.le_of_ble_eq_true rfl, Nat.le_of_ble_eq_true rfl⟩ (k' := 0) (z' := 0) (N' := N) rfl rfl rfl (fun r σ10927 hp => ?_)
          obtain ⟨rfl, rfl⟩ := hp
          refine Wm.topE (w := 101) (by decide) ?_
          refine m_bipush F (v := 32) (by decide) e_X10_wordHere_23 ?_
          refine m_icmp_eq F e_X10_wordHere_25 (fun q => absurd q (by decide)) (fun _ => ?_)
          refine m_aload_n F rfl e_X10_wordHere_28 ?_
          refine r_getC F e_X10_wordHere_29 fl_X10_107 h1 (f20) ?_
          refine m_iload_n F rfl e_X10_wordHere_32 ?_
          refine m_iadd F e_X10_wordHere_33 ?_
          refine Wm.topE (w := nI (st + 2)) (nI_add st 2) ?_
          refine m_aload_n F rfl e_X10_wordHere_34 ?_
          refine r_getC F e_X10_wordHere_35 fl_X10_97 h1 (f10910) ?_
          refine m_icmp_ge F e_X10_wordHere_38 (fun q38 => ?_) (fun q38 => ?_)
          · have c38 : (st + 2) ≥ P.a := (nI_leI (a := P.a) (b := (st + 2)) (by omega) (by omega)).mp q38
            refine m_ldcS F e_X10_wordHere_69 F.sw.1.2.2 ?_
            refine m_iload_n F rfl e_X10_wordHere_71 ?_
            refine m_iload_n F rfl e_X10_wordHere_72 ?_
            refine m_iadd F e_X10_wordHere_73 ?_
            refine Wm.topE (w := 27) (by decide) ?_
            refine m_callO F e_X10_wordHere_74 (q_charAt (x_l X) V _ _ 27 (by omega)) cb_J0_charAt_5068e ml_X10_137 im_J0_charAt_5068e se_J0_charAt_5068e F.sw.2.2.2.2.2.2.1 rfl (rest := []) rfl (Nat.le_of_ble_eq_true rfl) ⟨Nat.le_of_ble_eq_true rfl, Nat.le_of_ble_eq_true rfl⟩ ⟨Nat.le_of_ble_eq_true rfl, Nat.le_of_ble_eq_true rfl⟩ (k' := 0) (z' := 0) (N' := N) rfl rfl rfl (fun r σ10928 hp => ?_)
            obtain ⟨rfl, rfl⟩ := hp
            refine Wm.topE (w := 101) (by decide) ?_
            refine m_bipush F (v := 32) (by decide) e_X10_wordHere_77 ?_
            refine m_icmp_ne F e_X10_wordHere_79 (fun _ => ?_) (fun q => absurd q (by decide))
            refine Wm.lvsub (lv' := [(1, .int 5), (2, .int 25), (0, .ref c)]) ?_ [1, 2, 3] rfl
            exact wk_5 F hQ h1 f20 hB hn7 hsa hpn hl hm (fun hz => by have z1 : P.a = st + 4 := hz.1; have z2 : t (st + 2) = 101 := hz.2 2 (by decide); omega)
          · have c38 : (st + 2) < P.a := by have hh := mt (nI_leI (a := P.a) (b := (st + 2)) (by omega) (by omega)).mpr q38; omega
            refine m_aload_n F rfl e_X10_wordHere_41 ?_
            refine r_getC F e_X10_wordHere_42 fl_X10_7 h1 (f10912) ?_
            refine m_aload_n F rfl e_X10_wordHere_45 ?_
            refine r_getC F e_X10_wordHere_46 fl_X10_107 h1 (f20) ?_
            refine m_iload_n F rfl e_X10_wordHere_49 ?_
            refine m_iadd F e_X10_wordHere_50 ?_
            refine Wm.topE (w := nI (st + 2)) (nI_add st 2) ?_
            have hb10929 := (hB (st + 2) (by omega)).1
            refine r_iald F (len := 700) (j := st + 2) e_X10_wordHere_51 h1 (fun _ h => h) (by decide) (nI_clamp (by omega)) (vp_in_nI (by omega) (by decide)) (fun x10930 h10931 f10932 => ?_)
            obtain rfl := Option.some.inj ((f10932).symm.trans ((hB (st + 2) (by omega)).2))
            refine m_ldcS F e_X10_wordHere_52 F.sw.1.2.2 ?_
            refine m_iload_n F rfl e_X10_wordHere_54 ?_
            refine m_iload_n F rfl e_X10_wordHere_55 ?_
            refine m_iadd F e_X10_wordHere_56 ?_
            refine Wm.topE (w := 27) (by decide) ?_
            refine m_callO F e_X10_wordHere_57 (q_charAt (x_l X) V _ _ 27 (by omega)) cb_J0_charAt_5068e ml_X10_137 im_J0_charAt_5068e se_J0_charAt_5068e F.sw.2.2.2.2.2.2.1 rfl (rest := [.int (nI (t (st + 2)))]) rfl (Nat.le_of_ble_eq_true rfl) ⟨Nat.le_of_ble_eq_true rfl, Nat.le_of_ble_eq_true rfl⟩ ⟨Nat.le_of_ble_eq_true rfl, Nat.le_of_ble_eq_true rfl⟩ (k' := 0) (z' := 0) (N' := N) rfl rfl rfl (fun r σ10933 hp => ?_)
            obtain ⟨rfl, rfl⟩ := hp
            refine Wm.topE (w := 101) (by decide) ?_
            refine m_icmp_ne F e_X10_wordHere_60 (fun q60 => ?_) (fun q60 => ?_)
            · have c60 : (t (st + 2)) ≠ 101 := by have hh := mt (nI_eq (a := (t (st + 2))) (b := 101) (by omega) (by omega)).mpr q60; omega
              refine m_ldcS F e_X10_wordHere_69 F.sw.1.2.2 ?_
              refine m_iload_n F rfl e_X10_wordHere_71 ?_
              refine m_iload_n F rfl e_X10_wordHere_72 ?_
              refine m_iadd F e_X10_wordHere_73 ?_
              refine Wm.topE (w := 27) (by decide) ?_
              refine m_callO F e_X10_wordHere_74 (q_charAt (x_l X) V _ _ 27 (by omega)) cb_J0_charAt_5068e ml_X10_137 im_J0_charAt_5068e se_J0_charAt_5068e F.sw.2.2.2.2.2.2.1 rfl (rest := []) rfl (Nat.le_of_ble_eq_true rfl) ⟨Nat.le_of_ble_eq_true rfl, Nat.le_of_ble_eq_true rfl⟩ ⟨Nat.le_of_ble_eq_true rfl, Nat.le_of_ble_eq_true rfl⟩ (k' := 0) (z' := 0) (N' := N) rfl rfl rfl (fun r σ10934 hp => ?_)
              obtain ⟨rfl, rfl⟩ := hp
              refine Wm.topE (w := 101) (by decide) ?_
              refine m_bipush F (v := 32) (by decide) e_X10_wordHere_77 ?_
              refine m_icmp_ne F e_X10_wordHere_79 (fun _ => ?_) (fun q => absurd q (by decide))
              refine Wm.lvsub (lv' := [(1, .int 5), (2, .int 25), (0, .ref c)]) ?_ [1, 2, 3] rfl
              exact wk_5 F hQ h1 f20 hB hn7 hsa hpn hl hm (fun hz => by have z1 : P.a = st + 4 := hz.1; have z2 : t (st + 2) = 101 := hz.2 2 (by decide); omega)
            · have c60 : (t (st + 2)) = 101 := (nI_eq (a := (t (st + 2))) (b := 101) (by omega) (by omega)).mp q60
              refine m_iinc F (v := 3) (lv' := [(3, .int 3), (1, .int 5), (2, .int 25), (0, .ref c)]) e_X10_wordHere_63 rfl (by decide) (by decide) rfl ?_
              refine m_goto F e_X10_wordHere_66 ?_
              refine m_ldcS F e_X10_wordHere_15 F.sw.1.2.2 ?_
              refine m_iload_n F rfl e_X10_wordHere_17 ?_
              refine m_iload_n F rfl e_X10_wordHere_18 ?_
              refine m_iadd F e_X10_wordHere_19 ?_
              refine Wm.topE (w := 28) (by decide) ?_
              refine m_callO F e_X10_wordHere_20 (q_charAt (x_l X) V _ _ 28 (by omega)) cb_J0_charAt_5068e ml_X10_137 im_J0_charAt_5068e se_J0_charAt_5068e F.sw.2.2.2.2.2.2.1 rfl (rest := []) rfl (Nat.le_of_ble_eq_true rfl) ⟨Nat.le_of_ble_eq_true rfl, Nat.le_of_ble_eq_true rfl⟩ ⟨Nat.le_of_ble_eq_true rfl, Nat.le_of_ble_eq_true rfl⟩ (k' := 0) (z' := 0) (N' := N) rfl rfl rfl (fun r σ10935 hp => ?_)
              obtain ⟨rfl, rfl⟩ := hp
              refine Wm.topE (w := 100) (by decide) ?_
              refine m_bipush F (v := 32) (by decide) e_X10_wordHere_23 ?_
              refine m_icmp_eq F e_X10_wordHere_25 (fun q => absurd q (by decide)) (fun _ => ?_)
              refine m_aload_n F rfl e_X10_wordHere_28 ?_
              refine r_getC F e_X10_wordHere_29 fl_X10_107 h1 (f20) ?_
              refine m_iload_n F rfl e_X10_wordHere_32 ?_
              refine m_iadd F e_X10_wordHere_33 ?_
              refine Wm.topE (w := nI (st + 3)) (nI_add st 3) ?_
              refine m_aload_n F rfl e_X10_wordHere_34 ?_
              refine r_getC F e_X10_wordHere_35 fl_X10_97 h1 (f10910) ?_
              refine m_icmp_ge F e_X10_wordHere_38 (fun q38 => ?_) (fun q38 => ?_)
              · have c38 : (st + 3) ≥ P.a := (nI_leI (a := P.a) (b := (st + 3)) (by omega) (by omega)).mp q38
                refine m_ldcS F e_X10_wordHere_69 F.sw.1.2.2 ?_
                refine m_iload_n F rfl e_X10_wordHere_71 ?_
                refine m_iload_n F rfl e_X10_wordHere_72 ?_
                refine m_iadd F e_X10_wordHere_73 ?_
                refine Wm.topE (w := 28) (by decide) ?_
                refine m_callO F e_X10_wordHere_74 (q_charAt (x_l X) V _ _ 28 (by omega)) cb_J0_charAt_5068e ml_X10_137 im_J0_charAt_5068e se_J0_charAt_5068e F.sw.2.2.2.2.2.2.1 rfl (rest := []) rfl (Nat.le_of_ble_eq_true rfl) ⟨Nat.le_of_ble_eq_true rfl, Nat.le_of_ble_eq_true rfl⟩ ⟨Nat.le_of_ble_eq_true rfl, Nat.le_of_ble_eq_true rfl⟩ (k' := 0) (z' := 0) (N' := N) rfl rfl rfl (fun r σ10936 hp => ?_)
                obtain ⟨rfl, rfl⟩ := hp
                refine Wm.topE (w := 100) (by decide) ?_
                refine m_bipush F (v := 32) (by decide) e_X10_wordHere_77 ?_
                refine m_icmp_ne F e_X10_wordHere_79 (fun _ => ?_) (fun q => absurd q (by decide))
                refine Wm.lvsub (lv' := [(1, .int 5), (2, .int 25), (0, .ref c)]) ?_ [1, 2, 3] rfl
                exact wk_5 F hQ h1 f20 hB hn7 hsa hpn hl hm (fun hz => by have z1 : P.a = st + 4 := hz.1; have z2 : t (st + 3) = 100 := hz.2 3 (by decide); omega)
              · have c38 : (st + 3) < P.a := by have hh := mt (nI_leI (a := P.a) (b := (st + 3)) (by omega) (by omega)).mpr q38; omega
                refine m_aload_n F rfl e_X10_wordHere_41 ?_
                refine r_getC F e_X10_wordHere_42 fl_X10_7 h1 (f10912) ?_
                refine m_aload_n F rfl e_X10_wordHere_45 ?_
                refine r_getC F e_X10_wordHere_46 fl_X10_107 h1 (f20) ?_
                refine m_iload_n F rfl e_X10_wordHere_49 ?_
                refine m_iadd F e_X10_wordHere_50 ?_
                refine Wm.topE (w := nI (st + 3)) (nI_add st 3) ?_
                have hb10937 := (hB (st + 3) (by omega)).1
                refine r_iald F (len := 700) (j := st + 3) e_X10_wordHere_51 h1 (fun _ h => h) (by decide) (nI_clamp (by omega)) (vp_in_nI (by omega) (by decide)) (fun x10938 h10939 f10940 => ?_)
                obtain rfl := Option.some.inj ((f10940).symm.trans ((hB (st + 3) (by omega)).2))
                refine m_ldcS F e_X10_wordHere_52 F.sw.1.2.2 ?_
                refine m_iload_n F rfl e_X10_wordHere_54 ?_
                refine m_iload_n F rfl e_X10_wordHere_55 ?_
                refine m_iadd F e_X10_wordHere_56 ?_
                refine Wm.topE (w := 28) (by decide) ?_
                refine m_callO F e_X10_wordHere_57 (q_charAt (x_l X) V _ _ 28 (by omega)) cb_J0_charAt_5068e ml_X10_137 im_J0_charAt_5068e se_J0_charAt_5068e F.sw.2.2.2.2.2.2.1 rfl (rest := [.int (nI (t (st + 3)))]) rfl (Nat.le_of_ble_eq_true rfl) ⟨Nat.le_of_ble_eq_true rfl, Nat.le_of_ble_eq_true rfl⟩ ⟨Nat.le_of_ble_eq_true rfl, Nat.le_of_ble_eq_true rfl⟩ (k' := 0) (z' := 0) (N' := N) rfl rfl rfl (fun r σ10941 hp => ?_)
                obtain ⟨rfl, rfl⟩ := hp
                refine Wm.topE (w := 100) (by decide) ?_
                refine m_icmp_ne F e_X10_wordHere_60 (fun q60 => ?_) (fun q60 => ?_)
                · have c60 : (t (st + 3)) ≠ 100 := by have hh := mt (nI_eq (a := (t (st + 3))) (b := 100) (by omega) (by omega)).mpr q60; omega
                  refine m_ldcS F e_X10_wordHere_69 F.sw.1.2.2 ?_
                  refine m_iload_n F rfl e_X10_wordHere_71 ?_
                  refine m_iload_n F rfl e_X10_wordHere_72 ?_
                  refine m_iadd F e_X10_wordHere_73 ?_
                  refine Wm.topE (w := 28) (by decide) ?_
                  refine m_callO F e_X10_wordHere_74 (q_charAt (x_l X) V _ _ 28 (by omega)) cb_J0_charAt_5068e ml_X10_137 im_J0_charAt_5068e se_J0_charAt_5068e F.sw.2.2.2.2.2.2.1 rfl (rest := []) rfl (Nat.le_of_ble_eq_true rfl) ⟨Nat.le_of_ble_eq_true rfl, Nat.le_of_ble_eq_true rfl⟩ ⟨Nat.le_of_ble_eq_true rfl, Nat.le_of_ble_eq_true rfl⟩ (k' := 0) (z' := 0) (N' := N) rfl rfl rfl (fun r σ10942 hp => ?_)
                  obtain ⟨rfl, rfl⟩ := hp
                  refine Wm.topE (w := 100) (by decide) ?_
                  refine m_bipush F (v := 32) (by decide) e_X10_wordHere_77 ?_
                  refine m_icmp_ne F e_X10_wordHere_79 (fun _ => ?_) (fun q => absurd q (by decide))
                  refine Wm.lvsub (lv' := [(1, .int 5), (2, .int 25), (0, .ref c)]) ?_ [1, 2, 3] rfl
                  exact wk_5 F hQ h1 f20 hB hn7 hsa hpn hl hm (fun hz => by have z1 : P.a = st + 4 := hz.1; have z2 : t (st + 3) = 100 := hz.2 3 (by decide); omega)
                · have c60 : (t (st + 3)) = 100 := (nI_eq (a := (t (st + 3))) (b := 100) (by omega) (by omega)).mp q60
                  refine m_iinc F (v := 4) (lv' := [(3, .int 4), (1, .int 5), (2, .int 25), (0, .ref c)]) e_X10_wordHere_63 rfl (by decide) (by decide) rfl ?_
                  refine m_goto F e_X10_wordHere_66 ?_
                  refine m_ldcS F e_X10_wordHere_15 F.sw.1.2.2 ?_
                  refine m_iload_n F rfl e_X10_wordHere_17 ?_
                  refine m_iload_n F rfl e_X10_wordHere_18 ?_
                  refine m_iadd F e_X10_wordHere_19 ?_
                  refine Wm.topE (w := 29) (by decide) ?_
                  refine m_callO F e_X10_wordHere_20 (q_charAt (x_l X) V _ _ 29 (by omega)) cb_J0_charAt_5068e ml_X10_137 im_J0_charAt_5068e se_J0_charAt_5068e F.sw.2.2.2.2.2.2.1 rfl (rest := []) rfl (Nat.le_of_ble_eq_true rfl) ⟨Nat.le_of_ble_eq_true rfl, Nat.le_of_ble_eq_true rfl⟩ ⟨Nat.le_of_ble_eq_true rfl, Nat.le_of_ble_eq_true rfl⟩ (k' := 0) (z' := 0) (N' := N) rfl rfl rfl (fun r σ10943 hp => ?_)
                  obtain ⟨rfl, rfl⟩ := hp
                  refine Wm.topE (w := 32) (by decide) ?_
                  refine m_bipush F (v := 32) (by decide) e_X10_wordHere_23 ?_
                  refine m_icmp_eq F e_X10_wordHere_25 (fun _ => ?_) (fun q => absurd (by decide) q)
                  refine m_ldcS F e_X10_wordHere_69 F.sw.1.2.2 ?_
                  refine m_iload_n F rfl e_X10_wordHere_71 ?_
                  refine m_iload_n F rfl e_X10_wordHere_72 ?_
                  refine m_iadd F e_X10_wordHere_73 ?_
                  refine Wm.topE (w := 29) (by decide) ?_
                  refine m_callO F e_X10_wordHere_74 (q_charAt (x_l X) V _ _ 29 (by omega)) cb_J0_charAt_5068e ml_X10_137 im_J0_charAt_5068e se_J0_charAt_5068e F.sw.2.2.2.2.2.2.1 rfl (rest := []) rfl (Nat.le_of_ble_eq_true rfl) ⟨Nat.le_of_ble_eq_true rfl, Nat.le_of_ble_eq_true rfl⟩ ⟨Nat.le_of_ble_eq_true rfl, Nat.le_of_ble_eq_true rfl⟩ (k' := 0) (z' := 0) (N' := N) rfl rfl rfl (fun r σ10944 hp => ?_)
                  obtain ⟨rfl, rfl⟩ := hp
                  refine Wm.topE (w := 32) (by decide) ?_
                  refine m_bipush F (v := 32) (by decide) e_X10_wordHere_77 ?_
                  refine m_icmp_ne F e_X10_wordHere_79 (fun q => absurd (by decide) q) (fun _ => ?_)
                  refine m_aload_n F rfl e_X10_wordHere_82 ?_
                  refine r_getC F e_X10_wordHere_83 fl_X10_107 h1 (f20) ?_
                  refine m_iload_n F rfl e_X10_wordHere_86 ?_
                  refine m_iadd F e_X10_wordHere_87 ?_
                  refine Wm.topE (w := nI (st + 4)) (nI_add st 4) ?_
                  refine m_aload_n F rfl e_X10_wordHere_88 ?_
                  refine r_getC F e_X10_wordHere_89 fl_X10_97 h1 (f10910) ?_
                  refine m_icmp_ne F e_X10_wordHere_92 (fun q92 => ?_) (fun q92 => ?_)
                  · have c92 : (st + 4) ≠ P.a := by have hh := mt (nI_eq (a := (st + 4)) (b := P.a) (by omega) (by omega)).mpr q92; omega
                    refine Wm.lvsub (lv' := [(1, .int 5), (2, .int 25), (0, .ref c)]) ?_ [1, 2, 3] rfl
                    exact wk_5 F hQ h1 f20 hB hn7 hsa hpn hl hm (fun hz => by have z1 : P.a = st + 4 := hz.1; omega)
                  · have c92 : (st + 4) = P.a := (nI_eq (a := (st + 4)) (b := P.a) (by omega) (by omega)).mp q92
                    refine m_iload_n F rfl e_X10_wordHere_95 ?_
                    have hz : mw t st P.a 5 := by
                      refine ⟨(show P.a = st + 4 by omega), fun i hi => ?_⟩
                      have hi2 : i = 0 ∨ i = 1 ∨ i = 2 ∨ i = 3 := by have hi3 : i < 4 := hi; omega
                      rcases hi2 with rfl | rfl | rfl | rfl
                      · show t (st + 0) = 116; first | assumption | omega
                      · show t (st + 1) = 105; first | assumption | omega
                      · show t (st + 2) = 101; first | assumption | omega
                      · show t (st + 3) = 100; first | assumption | omega
                    have hy := kix_mw hsa hl (by decide) hz
                    exact m_iret F hQ e_X10_wordHere_96 ⟨h1, Or.inl ⟨hy.1, by rw [hy.2]; decide, by rw [hy.2]; rfl⟩⟩
set_option maxRecDepth 20000 in
theorem wk_4 {V : VX} {X : MX} {N : Nat} {σ : Mem} {c T Z u h : Nat} {P : NP} {L : Nat → LQ} {n st : Nat} {t : Nat → Nat} (F : Fx V X yX10_wordHere cX10_wordHere 4 (some .int) (rmd 4 0 0)) (hQ : Rt V X 0 0 N (fun r τ => HS V c (⟨T, Z, u, h, P, L⟩ : RG) [0, 1, 2, 3, 4, 5, 6, 7, 8, 9, 10, 11, 12, 13, 14, 15, 16, 17, 18, 19, 20, 21, 22, 23] σ τ ∧ ((P.a - st ≤ 6 ∧ kix (nmc t st P.a 6) < 9 ∧ r = some (.int (nI (kix (nmc t st P.a 6))))) ∨ (¬ (P.a - st ≤ 6 ∧ kix (nmc t st P.a 6) < 9) ∧ r = some (.int (-1)))))) (h1 : HS V c ⟨T, Z, u, h, P, L⟩ [0, 1, 2, 3, 4, 5, 6, 7, 8, 9, 10, 11, 12, 13, 14, 15, 16, 17, 18, 19, 20, 21, 22, 23] σ σ) (f20 : fld σ c 20 = some (.int (nI st))) (hB : BR σ c n t) (hn7 : n ≤ 700) (hsa : st < P.a) (hpn : P.a ≤ n) (hl : ∀ i, st ≤ i → i < P.a → isL (t i) = true) (hm : ∀ m, m < 4 → ¬ mw t st P.a m) (hz : ¬ mw t st P.a 4) : Wm V X 4 N σ 0 0 97 [(1, .int 4), (2, .int 21), (0, .ref c)] [] := by
  refine m_ldcS F e_X10_wordHere_97 F.sw.1.2.2 ?_
  refine m_iload_n F rfl e_X10_wordHere_99 ?_
  refine m_callO F e_X10_wordHere_100 (q_charAt (x_l X) V _ _ 21 (by omega)) cb_J0_charAt_5068e ml_X10_137 im_J0_charAt_5068e se_J0_charAt_5068e F.sw.2.2.2.2.2.2.1 rfl (rest := []) rfl (Nat.le_of_ble_eq_true rfl) ⟨Nat.le_of_ble_eq_true rfl, Nat.le_of_ble_eq_true rfl⟩ ⟨Nat.le_of_ble_eq_true rfl, Nat.le_of_ble_eq_true rfl⟩ (k' := 0) (z' := 0) (N' := N) rfl rfl rfl (fun r σ10945 hp => ?_)
  obtain ⟨rfl, rfl⟩ := hp
  refine Wm.topE (w := 102) (by decide) ?_
  refine m_bipush F (v := 32) (by decide) e_X10_wordHere_103 ?_
  refine m_icmp_eq F e_X10_wordHere_105 (fun q => absurd q (by decide)) (fun _ => ?_)
  refine m_iinc F (v := 22) (lv' := [(2, .int 22), (1, .int 4), (0, .ref c)]) e_X10_wordHere_108 rfl (by decide) (by decide) rfl ?_
  refine m_goto F e_X10_wordHere_111 ?_
  refine m_ldcS F e_X10_wordHere_97 F.sw.1.2.2 ?_
  refine m_iload_n F rfl e_X10_wordHere_99 ?_
  refine m_callO F e_X10_wordHere_100 (q_charAt (x_l X) V _ _ 22 (by omega)) cb_J0_charAt_5068e ml_X10_137 im_J0_charAt_5068e se_J0_charAt_5068e F.sw.2.2.2.2.2.2.1 rfl (rest := []) rfl (Nat.le_of_ble_eq_true rfl) ⟨Nat.le_of_ble_eq_true rfl, Nat.le_of_ble_eq_true rfl⟩ ⟨Nat.le_of_ble_eq_true rfl, Nat.le_of_ble_eq_true rfl⟩ (k' := 0) (z' := 0) (N' := N) rfl rfl rfl (fun r σ10946 hp => ?_)
  obtain ⟨rfl, rfl⟩ := hp
  refine Wm.topE (w := 101) (by decide) ?_
  refine m_bipush F (v := 32) (by decide) e_X10_wordHere_103 ?_
  refine m_icmp_eq F e_X10_wordHere_105 (fun q => absurd q (by decide)) (fun _ => ?_)
  refine m_iinc F (v := 23) (lv' := [(2, .int 23), (1, .int 4), (0, .ref c)]) e_X10_wordHere_108 rfl (by decide) (by decide) rfl ?_
  refine m_goto F e_X10_wordHere_111 ?_
  refine m_ldcS F e_X10_wordHere_97 F.sw.1.2.2 ?_
  refine m_iload_n F rfl e_X10_wordHere_99 ?_
  refine m_callO F e_X10_wordHere_100 (q_charAt (x_l X) V _ _ 23 (by omega)) cb_J0_charAt_5068e ml_X10_137 im_J0_charAt_5068e se_J0_charAt_5068e F.sw.2.2.2.2.2.2.1 rfl (rest := []) rfl (Nat.le_of_ble_eq_true rfl) ⟨Nat.le_of_ble_eq_true rfl, Nat.le_of_ble_eq_true rfl⟩ ⟨Nat.le_of_ble_eq_true rfl, Nat.le_of_ble_eq_true rfl⟩ (k' := 0) (z' := 0) (N' := N) rfl rfl rfl (fun r σ10947 hp => ?_)
  obtain ⟨rfl, rfl⟩ := hp
  refine Wm.topE (w := 101) (by decide) ?_
  refine m_bipush F (v := 32) (by decide) e_X10_wordHere_103 ?_
  refine m_icmp_eq F e_X10_wordHere_105 (fun q => absurd q (by decide)) (fun _ => ?_)
  refine m_iinc F (v := 24) (lv' := [(2, .int 24), (1, .int 4), (0, .ref c)]) e_X10_wordHere_108 rfl (by decide) (by decide) rfl ?_
  refine m_goto F e_X10_wordHere_111 ?_
  refine m_ldcS F e_X10_wordHere_97 F.sw.1.2.2 ?_
  refine m_iload_n F rfl e_X10_wordHere_99 ?_
  refine m_callO F e_X10_wordHere_100 (q_charAt (x_l X) V _ _ 24 (by omega)) cb_J0_charAt_5068e ml_X10_137 im_J0_charAt_5068e se_J0_charAt_5068e F.sw.2.2.2.2.2.2.1 rfl (rest := []) rfl (Nat.le_of_ble_eq_true rfl) ⟨Nat.le_of_ble_eq_true rfl, Nat.le_of_ble_eq_true rfl⟩ ⟨Nat.le_of_ble_eq_true rfl, Nat.le_of_ble_eq_true rfl⟩ (k' := 0) (z' := 0) (N' := N) rfl rfl rfl (fun r σ10948 hp => ?_)
  obtain ⟨rfl, rfl⟩ := hp
  refine Wm.topE (w := 32) (by decide) ?_
  refine m_bipush F (v := 32) (by decide) e_X10_wordHere_103 ?_
  refine m_icmp_eq F e_X10_wordHere_105 (fun _ => ?_) (fun q => absurd (by decide) q)
  refine m_iinc F (v := 25) (lv' := [(2, .int 25), (1, .int 4), (0, .ref c)]) e_X10_wordHere_114 rfl (by decide) (by decide) rfl ?_
  refine m_iinc F (v := 5) (lv' := [(1, .int 5), (2, .int 25), (0, .ref c)]) e_X10_wordHere_117 rfl (by decide) (by decide) rfl ?_
  refine m_goto F e_X10_wordHere_120 ?_
  exact wh_5 F hQ h1 f20 hB hn7 hsa hpn hl (fun m9 h9 => if e9 : m9 = 4 then e9 ▸ hz else hm m9 (by omega))
set_option maxRecDepth 20000 in
theorem wh_4 {V : VX} {X : MX} {N : Nat} {σ : Mem} {c T Z u h : Nat} {P : NP} {L : Nat → LQ} {n st : Nat} {t : Nat → Nat} (F : Fx V X yX10_wordHere cX10_wordHere 4 (some .int) (rmd 4 0 0)) (hQ : Rt V X 0 0 N (fun r τ => HS V c (⟨T, Z, u, h, P, L⟩ : RG) [0, 1, 2, 3, 4, 5, 6, 7, 8, 9, 10, 11, 12, 13, 14, 15, 16, 17, 18, 19, 20, 21, 22, 23] σ τ ∧ ((P.a - st ≤ 6 ∧ kix (nmc t st P.a 6) < 9 ∧ r = some (.int (nI (kix (nmc t st P.a 6))))) ∨ (¬ (P.a - st ≤ 6 ∧ kix (nmc t st P.a 6) < 9) ∧ r = some (.int (-1)))))) (h1 : HS V c ⟨T, Z, u, h, P, L⟩ [0, 1, 2, 3, 4, 5, 6, 7, 8, 9, 10, 11, 12, 13, 14, 15, 16, 17, 18, 19, 20, 21, 22, 23] σ σ) (f20 : fld σ c 20 = some (.int (nI st))) (hB : BR σ c n t) (hn7 : n ≤ 700) (hsa : st < P.a) (hpn : P.a ≤ n) (hl : ∀ i, st ≤ i → i < P.a → isL (t i) = true) (hm : ∀ m, m < 4 → ¬ mw t st P.a m) : Wm V X 4 N σ 0 0 4 [(1, .int 4), (2, .int 21), (0, .ref c)] [] := by
  refine m_iload_n F rfl e_X10_wordHere_4 ?_
  refine m_ldcS F e_X10_wordHere_5 F.sw.1.2.2 ?_
  refine m_callO F e_X10_wordHere_7 (q_length (x_l X) V _ _) cb_J0_length_8abf5 ml_X10_132 im_J0_length_8abf5 se_J0_length_8abf5 F.sw.2.2.2.2.2.2.1 rfl (rest := [.int 21]) rfl (Nat.le_of_ble_eq_true rfl) ⟨Nat.le_of_ble_eq_true rfl, Nat.le_of_ble_eq_true rfl⟩ ⟨Nat.le_of_ble_eq_true rfl, Nat.le_of_ble_eq_true rfl⟩ (k' := 0) (z' := 0) (N' := N) rfl rfl rfl (fun r σ10949 hp => ?_)
  obtain ⟨rfl, rfl⟩ := hp
  refine m_icmp_ge F e_X10_wordHere_10 (fun q => absurd q (by decide)) (fun _ => ?_)
  refine m_iconst F (v := 0) (by decide) e_X10_wordHere_13 ?_
  refine m_istore_n F (lv' := [(3, .int 0), (1, .int 4), (2, .int 21), (0, .ref c)]) e_X10_wordHere_14 (by decide) rfl ?_
  refine m_ldcS F e_X10_wordHere_15 F.sw.1.2.2 ?_
  refine m_iload_n F rfl e_X10_wordHere_17 ?_
  refine m_iload_n F rfl e_X10_wordHere_18 ?_
  refine m_iadd F e_X10_wordHere_19 ?_
  refine Wm.topE (w := 21) (by decide) ?_
  refine m_callO F e_X10_wordHere_20 (q_charAt (x_l X) V _ _ 21 (by omega)) cb_J0_charAt_5068e ml_X10_137 im_J0_charAt_5068e se_J0_charAt_5068e F.sw.2.2.2.2.2.2.1 rfl (rest := []) rfl (Nat.le_of_ble_eq_true rfl) ⟨Nat.le_of_ble_eq_true rfl, Nat.le_of_ble_eq_true rfl⟩ ⟨Nat.le_of_ble_eq_true rfl, Nat.le_of_ble_eq_true rfl⟩ (k' := 0) (z' := 0) (N' := N) rfl rfl rfl (fun r σ10950 hp => ?_)
  obtain ⟨rfl, rfl⟩ := hp
  refine Wm.topE (w := 102) (by decide) ?_
  refine m_bipush F (v := 32) (by decide) e_X10_wordHere_23 ?_
  refine m_icmp_eq F e_X10_wordHere_25 (fun q => absurd q (by decide)) (fun _ => ?_)
  refine m_aload_n F rfl e_X10_wordHere_28 ?_
  refine r_getC F e_X10_wordHere_29 fl_X10_107 h1 (f20) ?_
  refine m_iload_n F rfl e_X10_wordHere_32 ?_
  refine m_iadd F e_X10_wordHere_33 ?_
  refine Wm.topE (w := nI st) (nI_add st 0) ?_
  refine m_aload_n F rfl e_X10_wordHere_34 ?_
  refine r_get F e_X10_wordHere_35 fl_X10_97 h1 rfl (fun v hv f10951 => ?_)
  obtain rfl : v = .int (nI (P.a)) := hv
  refine m_icmp_ge F e_X10_wordHere_38 (fun q38 => ?_) (fun q38 => ?_)
  · have c38 : st ≥ P.a := (nI_leI (a := P.a) (b := st) (by omega) (by omega)).mp q38
    refine m_ldcS F e_X10_wordHere_69 F.sw.1.2.2 ?_
    refine m_iload_n F rfl e_X10_wordHere_71 ?_
    refine m_iload_n F rfl e_X10_wordHere_72 ?_
    refine m_iadd F e_X10_wordHere_73 ?_
    refine Wm.topE (w := 21) (by decide) ?_
    refine m_callO F e_X10_wordHere_74 (q_charAt (x_l X) V _ _ 21 (by omega)) cb_J0_charAt_5068e ml_X10_137 im_J0_charAt_5068e se_J0_charAt_5068e F.sw.2.2.2.2.2.2.1 rfl (rest := []) rfl (Nat.le_of_ble_eq_true rfl) ⟨Nat.le_of_ble_eq_true rfl, Nat.le_of_ble_eq_true rfl⟩ ⟨Nat.le_of_ble_eq_true rfl, Nat.le_of_ble_eq_true rfl⟩ (k' := 0) (z' := 0) (N' := N) rfl rfl rfl (fun r σ10952 hp => ?_)
    obtain ⟨rfl, rfl⟩ := hp
    refine Wm.topE (w := 102) (by decide) ?_
    refine m_bipush F (v := 32) (by decide) e_X10_wordHere_77 ?_
    refine m_icmp_ne F e_X10_wordHere_79 (fun _ => ?_) (fun q => absurd q (by decide))
    refine Wm.lvsub (lv' := [(1, .int 4), (2, .int 21), (0, .ref c)]) ?_ [1, 2, 3] rfl
    exact wk_4 F hQ h1 f20 hB hn7 hsa hpn hl hm (fun hz => by have z1 : P.a = st + 3 := hz.1; have z2 : t (st) = 102 := hz.2 0 (by decide); omega)
  · have c38 : st < P.a := by have hh := mt (nI_leI (a := P.a) (b := st) (by omega) (by omega)).mpr q38; omega
    refine m_aload_n F rfl e_X10_wordHere_41 ?_
    refine r_get F e_X10_wordHere_42 fl_X10_7 h1 rfl (fun v hv f10953 => ?_)
    obtain rfl : v = .ref (c + 1) := hv
    refine m_aload_n F rfl e_X10_wordHere_45 ?_
    refine r_getC F e_X10_wordHere_46 fl_X10_107 h1 (f20) ?_
    refine m_iload_n F rfl e_X10_wordHere_49 ?_
    refine m_iadd F e_X10_wordHere_50 ?_
    refine Wm.topE (w := nI st) (nI_add st 0) ?_
    have hb10954 := (hB st (by omega)).1
    refine r_iald F (len := 700) (j := st) e_X10_wordHere_51 h1 (fun _ h => h) (by decide) (nI_clamp (by omega)) (vp_in_nI (by omega) (by decide)) (fun x10955 h10956 f10957 => ?_)
    obtain rfl := Option.some.inj ((f10957).symm.trans ((hB st (by omega)).2))
    refine m_ldcS F e_X10_wordHere_52 F.sw.1.2.2 ?_
    refine m_iload_n F rfl e_X10_wordHere_54 ?_
    refine m_iload_n F rfl e_X10_wordHere_55 ?_
    refine m_iadd F e_X10_wordHere_56 ?_
    refine Wm.topE (w := 21) (by decide) ?_
    refine m_callO F e_X10_wordHere_57 (q_charAt (x_l X) V _ _ 21 (by omega)) cb_J0_charAt_5068e ml_X10_137 im_J0_charAt_5068e se_J0_charAt_5068e F.sw.2.2.2.2.2.2.1 rfl (rest := [.int (nI (t st))]) rfl (Nat.le_of_ble_eq_true rfl) ⟨Nat.le_of_ble_eq_true rfl, Nat.le_of_ble_eq_true rfl⟩ ⟨Nat.le_of_ble_eq_true rfl, Nat.le_of_ble_eq_true rfl⟩ (k' := 0) (z' := 0) (N' := N) rfl rfl rfl (fun r σ10958 hp => ?_)
    obtain ⟨rfl, rfl⟩ := hp
    refine Wm.topE (w := 102) (by decide) ?_
    refine m_icmp_ne F e_X10_wordHere_60 (fun q60 => ?_) (fun q60 => ?_)
    · have c60 : (t st) ≠ 102 := by have hh := mt (nI_eq (a := (t st)) (b := 102) (by omega) (by omega)).mpr q60; omega
      refine m_ldcS F e_X10_wordHere_69 F.sw.1.2.2 ?_
      refine m_iload_n F rfl e_X10_wordHere_71 ?_
      refine m_iload_n F rfl e_X10_wordHere_72 ?_
      refine m_iadd F e_X10_wordHere_73 ?_
      refine Wm.topE (w := 21) (by decide) ?_
      refine m_callO F e_X10_wordHere_74 (q_charAt (x_l X) V _ _ 21 (by omega)) cb_J0_charAt_5068e ml_X10_137 im_J0_charAt_5068e se_J0_charAt_5068e F.sw.2.2.2.2.2.2.1 rfl (rest := []) rfl (Nat.le_of_ble_eq_true rfl) ⟨Nat.le_of_ble_eq_true rfl, Nat.le_of_ble_eq_true rfl⟩ ⟨Nat.le_of_ble_eq_true rfl, Nat.le_of_ble_eq_true rfl⟩ (k' := 0) (z' := 0) (N' := N) rfl rfl rfl (fun r σ10959 hp => ?_)
      obtain ⟨rfl, rfl⟩ := hp
      refine Wm.topE (w := 102) (by decide) ?_
      refine m_bipush F (v := 32) (by decide) e_X10_wordHere_77 ?_
      refine m_icmp_ne F e_X10_wordHere_79 (fun _ => ?_) (fun q => absurd q (by decide))
      refine Wm.lvsub (lv' := [(1, .int 4), (2, .int 21), (0, .ref c)]) ?_ [1, 2, 3] rfl
      exact wk_4 F hQ h1 f20 hB hn7 hsa hpn hl hm (fun hz => by have z1 : P.a = st + 3 := hz.1; have z2 : t (st) = 102 := hz.2 0 (by decide); omega)
    · have c60 : (t st) = 102 := (nI_eq (a := (t st)) (b := 102) (by omega) (by omega)).mp q60
      refine m_iinc F (v := 1) (lv' := [(3, .int 1), (1, .int 4), (2, .int 21), (0, .ref c)]) e_X10_wordHere_63 rfl (by decide) (by decide) rfl ?_
      refine m_goto F e_X10_wordHere_66 ?_
      refine m_ldcS F e_X10_wordHere_15 F.sw.1.2.2 ?_
      refine m_iload_n F rfl e_X10_wordHere_17 ?_
      refine m_iload_n F rfl e_X10_wordHere_18 ?_
      refine m_iadd F e_X10_wordHere_19 ?_
      refine Wm.topE (w := 22) (by decide) ?_
      refine m_callO F e_X10_wordHere_20 (q_charAt (x_l X) V _ _ 22 (by omega)) cb_J0_charAt_5068e ml_X10_137 im_J0_charAt_5068e se_J0_charAt_5068e F.sw.2.2.2.2.2.2.1 rfl (rest := []) rfl (Nat.le_of_ble_eq_true rfl) ⟨Nat.le_of_ble_eq_true rfl, Nat.le_of_ble_eq_true rfl⟩ ⟨Nat.le_of_ble_eq_true rfl, Nat.le_of_ble_eq_true rfl⟩ (k' := 0) (z' := 0) (N' := N) rfl rfl rfl (fun r σ10960 hp => ?_)
      obtain ⟨rfl, rfl⟩ := hp
      refine Wm.topE (w := 101) (by decide) ?_
      refine m_bipush F (v := 32) (by decide) e_X10_wordHere_23 ?_
      refine m_icmp_eq F e_X10_wordHere_25 (fun q => absurd q (by decide)) (fun _ => ?_)
      refine m_aload_n F rfl e_X10_wordHere_28 ?_
      refine r_getC F e_X10_wordHere_29 fl_X10_107 h1 (f20) ?_
      refine m_iload_n F rfl e_X10_wordHere_32 ?_
      refine m_iadd F e_X10_wordHere_33 ?_
      refine Wm.topE (w := nI (st + 1)) (nI_add st 1) ?_
      refine m_aload_n F rfl e_X10_wordHere_34 ?_
      refine r_getC F e_X10_wordHere_35 fl_X10_97 h1 (f10951) ?_
      refine m_icmp_ge F e_X10_wordHere_38 (fun q38 => ?_) (fun q38 => ?_)
      · have c38 : (st + 1) ≥ P.a := (nI_leI (a := P.a) (b := (st + 1)) (by omega) (by omega)).mp q38
        refine m_ldcS F e_X10_wordHere_69 F.sw.1.2.2 ?_
        refine m_iload_n F rfl e_X10_wordHere_71 ?_
        refine m_iload_n F rfl e_X10_wordHere_72 ?_
        refine m_iadd F e_X10_wordHere_73 ?_
        refine Wm.topE (w := 22) (by decide) ?_
        refine m_callO F e_X10_wordHere_74 (q_charAt (x_l X) V _ _ 22 (by omega)) cb_J0_charAt_5068e ml_X10_137 im_J0_charAt_5068e se_J0_charAt_5068e F.sw.2.2.2.2.2.2.1 rfl (rest := []) rfl (Nat.le_of_ble_eq_true rfl) ⟨Nat.le_of_ble_eq_true rfl, Nat.le_of_ble_eq_true rfl⟩ ⟨Nat.le_of_ble_eq_true rfl, Nat.le_of_ble_eq_true rfl⟩ (k' := 0) (z' := 0) (N' := N) rfl rfl rfl (fun r σ10961 hp => ?_)
        obtain ⟨rfl, rfl⟩ := hp
        refine Wm.topE (w := 101) (by decide) ?_
        refine m_bipush F (v := 32) (by decide) e_X10_wordHere_77 ?_
        refine m_icmp_ne F e_X10_wordHere_79 (fun _ => ?_) (fun q => absurd q (by decide))
        refine Wm.lvsub (lv' := [(1, .int 4), (2, .int 21), (0, .ref c)]) ?_ [1, 2, 3] rfl
        exact wk_4 F hQ h1 f20 hB hn7 hsa hpn hl hm (fun hz => by have z1 : P.a = st + 3 := hz.1; have z2 : t (st + 1) = 101 := hz.2 1 (by decide); omega)
      · have c38 : (st + 1) < P.a := by have hh := mt (nI_leI (a := P.a) (b := (st + 1)) (by omega) (by omega)).mpr q38; omega
        refine m_aload_n F rfl e_X10_wordHere_41 ?_
        refine r_getC F e_X10_wordHere_42 fl_X10_7 h1 (f10953) ?_
        refine m_aload_n F rfl e_X10_wordHere_45 ?_
        refine r_getC F e_X10_wordHere_46 fl_X10_107 h1 (f20) ?_
        refine m_iload_n F rfl e_X10_wordHere_49 ?_
        refine m_iadd F e_X10_wordHere_50 ?_
        refine Wm.topE (w := nI (st + 1)) (nI_add st 1) ?_
        have hb10962 := (hB (st + 1) (by omega)).1
        refine r_iald F (len := 700) (j := st + 1) e_X10_wordHere_51 h1 (fun _ h => h) (by decide) (nI_clamp (by omega)) (vp_in_nI (by omega) (by decide)) (fun x10963 h10964 f10965 => ?_)
        obtain rfl := Option.some.inj ((f10965).symm.trans ((hB (st + 1) (by omega)).2))
        refine m_ldcS F e_X10_wordHere_52 F.sw.1.2.2 ?_
        refine m_iload_n F rfl e_X10_wordHere_54 ?_
        refine m_iload_n F rfl e_X10_wordHere_55 ?_
        refine m_iadd F e_X10_wordHere_56 ?_
        refine Wm.topE (w := 22) (by decide) ?_
        refine m_callO F e_X10_wordHere_57 (q_charAt (x_l X) V _ _ 22 (by omega)) cb_J0_charAt_5068e ml_X10_137 im_J0_charAt_5068e se_J0_charAt_5068e F.sw.2.2.2.2.2.2.1 rfl (rest := [.int (nI (t (st + 1)))]) rfl (Nat.le_of_ble_eq_true rfl) ⟨Nat.le_of_ble_eq_true rfl, Nat.le_of_ble_eq_true rfl⟩ ⟨Nat.le_of_ble_eq_true rfl, Nat.le_of_ble_eq_true rfl⟩ (k' := 0) (z' := 0) (N' := N) rfl rfl rfl (fun r σ10966 hp => ?_)
        obtain ⟨rfl, rfl⟩ := hp
        refine Wm.topE (w := 101) (by decide) ?_
        refine m_icmp_ne F e_X10_wordHere_60 (fun q60 => ?_) (fun q60 => ?_)
        · have c60 : (t (st + 1)) ≠ 101 := by have hh := mt (nI_eq (a := (t (st + 1))) (b := 101) (by omega) (by omega)).mpr q60; omega
          refine m_ldcS F e_X10_wordHere_69 F.sw.1.2.2 ?_
          refine m_iload_n F rfl e_X10_wordHere_71 ?_
          refine m_iload_n F rfl e_X10_wordHere_72 ?_
          refine m_iadd F e_X10_wordHere_73 ?_
          refine Wm.topE (w := 22) (by decide) ?_
          refine m_callO F e_X10_wordHere_74 (q_charAt (x_l X) V _ _ 22 (by omega)) cb_J0_charAt_5068e ml_X10_137 im_J0_charAt_5068e se_J0_charAt_5068e F.sw.2.2.2.2.2.2.1 rfl (rest := []) rfl (Nat.le_of_ble_eq_true rfl) ⟨Nat.le_of_ble_eq_true rfl, Nat.le_of_ble_eq_true rfl⟩ ⟨Nat.le_of_ble_eq_true rfl, Nat.le_of_ble_eq_true rfl⟩ (k' := 0) (z' := 0) (N' := N) rfl rfl rfl (fun r σ10967 hp => ?_)
          obtain ⟨rfl, rfl⟩ := hp
          refine Wm.topE (w := 101) (by decide) ?_
          refine m_bipush F (v := 32) (by decide) e_X10_wordHere_77 ?_
          refine m_icmp_ne F e_X10_wordHere_79 (fun _ => ?_) (fun q => absurd q (by decide))
          refine Wm.lvsub (lv' := [(1, .int 4), (2, .int 21), (0, .ref c)]) ?_ [1, 2, 3] rfl
          exact wk_4 F hQ h1 f20 hB hn7 hsa hpn hl hm (fun hz => by have z1 : P.a = st + 3 := hz.1; have z2 : t (st + 1) = 101 := hz.2 1 (by decide); omega)
        · have c60 : (t (st + 1)) = 101 := (nI_eq (a := (t (st + 1))) (b := 101) (by omega) (by omega)).mp q60
          refine m_iinc F (v := 2) (lv' := [(3, .int 2), (1, .int 4), (2, .int 21), (0, .ref c)]) e_X10_wordHere_63 rfl (by decide) (by decide) rfl ?_
          refine m_goto F e_X10_wordHere_66 ?_
          refine m_ldcS F e_X10_wordHere_15 F.sw.1.2.2 ?_
          refine m_iload_n F rfl e_X10_wordHere_17 ?_
          refine m_iload_n F rfl e_X10_wordHere_18 ?_
          refine m_iadd F e_X10_wordHere_19 ?_
          refine Wm.topE (w := 23) (by decide) ?_
          refine m_callO F e_X10_wordHere_20 (q_charAt (x_l X) V _ _ 23 (by omega)) cb_J0_charAt_5068e ml_X10_137 im_J0_charAt_5068e se_J0_charAt_5068e F.sw.2.2.2.2.2.2.1 rfl (rest := []) rfl (Nat.le_of_ble_eq_true rfl) ⟨Nat.le_of_ble_eq_true rfl, Nat.le_of_ble_eq_true rfl⟩ ⟨Nat.le_of_ble_eq_true rfl, Nat.le_of_ble_eq_true rfl⟩ (k' := 0) (z' := 0) (N' := N) rfl rfl rfl (fun r σ10968 hp => ?_)
          obtain ⟨rfl, rfl⟩ := hp
          refine Wm.topE (w := 101) (by decide) ?_
          refine m_bipush F (v := 32) (by decide) e_X10_wordHere_23 ?_
          refine m_icmp_eq F e_X10_wordHere_25 (fun q => absurd q (by decide)) (fun _ => ?_)
          refine m_aload_n F rfl e_X10_wordHere_28 ?_
          refine r_getC F e_X10_wordHere_29 fl_X10_107 h1 (f20) ?_
          refine m_iload_n F rfl e_X10_wordHere_32 ?_
          refine m_iadd F e_X10_wordHere_33 ?_
          refine Wm.topE (w := nI (st + 2)) (nI_add st 2) ?_
          refine m_aload_n F rfl e_X10_wordHere_34 ?_
          refine r_getC F e_X10_wordHere_35 fl_X10_97 h1 (f10951) ?_
          refine m_icmp_ge F e_X10_wordHere_38 (fun q38 => ?_) (fun q38 => ?_)
          · have c38 : (st + 2) ≥ P.a := (nI_leI (a := P.a) (b := (st + 2)) (by omega) (by omega)).mp q38
            refine m_ldcS F e_X10_wordHere_69 F.sw.1.2.2 ?_
            refine m_iload_n F rfl e_X10_wordHere_71 ?_
            refine m_iload_n F rfl e_X10_wordHere_72 ?_
            refine m_iadd F e_X10_wordHere_73 ?_
            refine Wm.topE (w := 23) (by decide) ?_
            refine m_callO F e_X10_wordHere_74 (q_charAt (x_l X) V _ _ 23 (by omega)) cb_J0_charAt_5068e ml_X10_137 im_J0_charAt_5068e se_J0_charAt_5068e F.sw.2.2.2.2.2.2.1 rfl (rest := []) rfl (Nat.le_of_ble_eq_true rfl) ⟨Nat.le_of_ble_eq_true rfl, Nat.le_of_ble_eq_true rfl⟩ ⟨Nat.le_of_ble_eq_true rfl, Nat.le_of_ble_eq_true rfl⟩ (k' := 0) (z' := 0) (N' := N) rfl rfl rfl (fun r σ10969 hp => ?_)
            obtain ⟨rfl, rfl⟩ := hp
            refine Wm.topE (w := 101) (by decide) ?_
            refine m_bipush F (v := 32) (by decide) e_X10_wordHere_77 ?_
            refine m_icmp_ne F e_X10_wordHere_79 (fun _ => ?_) (fun q => absurd q (by decide))
            refine Wm.lvsub (lv' := [(1, .int 4), (2, .int 21), (0, .ref c)]) ?_ [1, 2, 3] rfl
            exact wk_4 F hQ h1 f20 hB hn7 hsa hpn hl hm (fun hz => by have z1 : P.a = st + 3 := hz.1; have z2 : t (st + 2) = 101 := hz.2 2 (by decide); omega)
          · have c38 : (st + 2) < P.a := by have hh := mt (nI_leI (a := P.a) (b := (st + 2)) (by omega) (by omega)).mpr q38; omega
            refine m_aload_n F rfl e_X10_wordHere_41 ?_
            refine r_getC F e_X10_wordHere_42 fl_X10_7 h1 (f10953) ?_
            refine m_aload_n F rfl e_X10_wordHere_45 ?_
            refine r_getC F e_X10_wordHere_46 fl_X10_107 h1 (f20) ?_
            refine m_iload_n F rfl e_X10_wordHere_49 ?_
            refine m_iadd F e_X10_wordHere_50 ?_
            refine Wm.topE (w := nI (st + 2)) (nI_add st 2) ?_
            have hb10970 := (hB (st + 2) (by omega)).1
            refine r_iald F (len := 700) (j := st + 2) e_X10_wordHere_51 h1 (fun _ h => h) (by decide) (nI_clamp (by omega)) (vp_in_nI (by omega) (by decide)) (fun x10971 h10972 f10973 => ?_)
            obtain rfl := Option.some.inj ((f10973).symm.trans ((hB (st + 2) (by omega)).2))
            refine m_ldcS F e_X10_wordHere_52 F.sw.1.2.2 ?_
            refine m_iload_n F rfl e_X10_wordHere_54 ?_
            refine m_iload_n F rfl e_X10_wordHere_55 ?_
            refine m_iadd F e_X10_wordHere_56 ?_
            refine Wm.topE (w := 23) (by decide) ?_
            refine m_callO F e_X10_wordHere_57 (q_charAt (x_l X) V _ _ 23 (by omega)) cb_J0_charAt_5068e ml_X10_137 im_J0_charAt_5068e se_J0_charAt_5068e F.sw.2.2.2.2.2.2.1 rfl (rest := [.int (nI (t (st + 2)))]) rfl (Nat.le_of_ble_eq_true rfl) ⟨Nat.le_of_ble_eq_true rfl, Nat.le_of_ble_eq_true rfl⟩ ⟨Nat.le_of_ble_eq_true rfl, Nat.le_of_ble_eq_true rfl⟩ (k' := 0) (z' := 0) (N' := N) rfl rfl rfl (fun r σ10974 hp => ?_)
            obtain ⟨rfl, rfl⟩ := hp
            refine Wm.topE (w := 101) (by decide) ?_
            refine m_icmp_ne F e_X10_wordHere_60 (fun q60 => ?_) (fun q60 => ?_)
            · have c60 : (t (st + 2)) ≠ 101 := by have hh := mt (nI_eq (a := (t (st + 2))) (b := 101) (by omega) (by omega)).mpr q60; omega
              refine m_ldcS F e_X10_wordHere_69 F.sw.1.2.2 ?_
              refine m_iload_n F rfl e_X10_wordHere_71 ?_
              refine m_iload_n F rfl e_X10_wordHere_72 ?_
              refine m_iadd F e_X10_wordHere_73 ?_
              refine Wm.topE (w := 23) (by decide) ?_
              refine m_callO F e_X10_wordHere_74 (q_charAt (x_l X) V _ _ 23 (by omega)) cb_J0_charAt_5068e ml_X10_137 im_J0_charAt_5068e se_J0_charAt_5068e F.sw.2.2.2.2.2.2.1 rfl (rest := []) rfl (Nat.le_of_ble_eq_true rfl) ⟨Nat.le_of_ble_eq_true rfl, Nat.le_of_ble_eq_true rfl⟩ ⟨Nat.le_of_ble_eq_true rfl, Nat.le_of_ble_eq_true rfl⟩ (k' := 0) (z' := 0) (N' := N) rfl rfl rfl (fun r σ10975 hp => ?_)
              obtain ⟨rfl, rfl⟩ := hp
              refine Wm.topE (w := 101) (by decide) ?_
              refine m_bipush F (v := 32) (by decide) e_X10_wordHere_77 ?_
              refine m_icmp_ne F e_X10_wordHere_79 (fun _ => ?_) (fun q => absurd q (by decide))
              refine Wm.lvsub (lv' := [(1, .int 4), (2, .int 21), (0, .ref c)]) ?_ [1, 2, 3] rfl
              exact wk_4 F hQ h1 f20 hB hn7 hsa hpn hl hm (fun hz => by have z1 : P.a = st + 3 := hz.1; have z2 : t (st + 2) = 101 := hz.2 2 (by decide); omega)
            · have c60 : (t (st + 2)) = 101 := (nI_eq (a := (t (st + 2))) (b := 101) (by omega) (by omega)).mp q60
              refine m_iinc F (v := 3) (lv' := [(3, .int 3), (1, .int 4), (2, .int 21), (0, .ref c)]) e_X10_wordHere_63 rfl (by decide) (by decide) rfl ?_
              refine m_goto F e_X10_wordHere_66 ?_
              refine m_ldcS F e_X10_wordHere_15 F.sw.1.2.2 ?_
              refine m_iload_n F rfl e_X10_wordHere_17 ?_
              refine m_iload_n F rfl e_X10_wordHere_18 ?_
              refine m_iadd F e_X10_wordHere_19 ?_
              refine Wm.topE (w := 24) (by decide) ?_
              refine m_callO F e_X10_wordHere_20 (q_charAt (x_l X) V _ _ 24 (by omega)) cb_J0_charAt_5068e ml_X10_137 im_J0_charAt_5068e se_J0_charAt_5068e F.sw.2.2.2.2.2.2.1 rfl (rest := []) rfl (Nat.le_of_ble_eq_true rfl) ⟨Nat.le_of_ble_eq_true rfl, Nat.le_of_ble_eq_true rfl⟩ ⟨Nat.le_of_ble_eq_true rfl, Nat.le_of_ble_eq_true rfl⟩ (k' := 0) (z' := 0) (N' := N) rfl rfl rfl (fun r σ10976 hp => ?_)
              obtain ⟨rfl, rfl⟩ := hp
              refine Wm.topE (w := 32) (by decide) ?_
              refine m_bipush F (v := 32) (by decide) e_X10_wordHere_23 ?_
              refine m_icmp_eq F e_X10_wordHere_25 (fun _ => ?_) (fun q => absurd (by decide) q)
              refine m_ldcS F e_X10_wordHere_69 F.sw.1.2.2 ?_
              refine m_iload_n F rfl e_X10_wordHere_71 ?_
              refine m_iload_n F rfl e_X10_wordHere_72 ?_
              refine m_iadd F e_X10_wordHere_73 ?_
              refine Wm.topE (w := 24) (by decide) ?_
              refine m_callO F e_X10_wordHere_74 (q_charAt (x_l X) V _ _ 24 (by omega)) cb_J0_charAt_5068e ml_X10_137 im_J0_charAt_5068e se_J0_charAt_5068e F.sw.2.2.2.2.2.2.1 rfl (rest := []) rfl (Nat.le_of_ble_eq_true rfl) ⟨Nat.le_of_ble_eq_true rfl, Nat.le_of_ble_eq_true rfl⟩ ⟨Nat.le_of_ble_eq_true rfl, Nat.le_of_ble_eq_true rfl⟩ (k' := 0) (z' := 0) (N' := N) rfl rfl rfl (fun r σ10977 hp => ?_)
              obtain ⟨rfl, rfl⟩ := hp
              refine Wm.topE (w := 32) (by decide) ?_
              refine m_bipush F (v := 32) (by decide) e_X10_wordHere_77 ?_
              refine m_icmp_ne F e_X10_wordHere_79 (fun q => absurd (by decide) q) (fun _ => ?_)
              refine m_aload_n F rfl e_X10_wordHere_82 ?_
              refine r_getC F e_X10_wordHere_83 fl_X10_107 h1 (f20) ?_
              refine m_iload_n F rfl e_X10_wordHere_86 ?_
              refine m_iadd F e_X10_wordHere_87 ?_
              refine Wm.topE (w := nI (st + 3)) (nI_add st 3) ?_
              refine m_aload_n F rfl e_X10_wordHere_88 ?_
              refine r_getC F e_X10_wordHere_89 fl_X10_97 h1 (f10951) ?_
              refine m_icmp_ne F e_X10_wordHere_92 (fun q92 => ?_) (fun q92 => ?_)
              · have c92 : (st + 3) ≠ P.a := by have hh := mt (nI_eq (a := (st + 3)) (b := P.a) (by omega) (by omega)).mpr q92; omega
                refine Wm.lvsub (lv' := [(1, .int 4), (2, .int 21), (0, .ref c)]) ?_ [1, 2, 3] rfl
                exact wk_4 F hQ h1 f20 hB hn7 hsa hpn hl hm (fun hz => by have z1 : P.a = st + 3 := hz.1; omega)
              · have c92 : (st + 3) = P.a := (nI_eq (a := (st + 3)) (b := P.a) (by omega) (by omega)).mp q92
                refine m_iload_n F rfl e_X10_wordHere_95 ?_
                have hz : mw t st P.a 4 := by
                  refine ⟨(show P.a = st + 3 by omega), fun i hi => ?_⟩
                  have hi2 : i = 0 ∨ i = 1 ∨ i = 2 := by have hi3 : i < 3 := hi; omega
                  rcases hi2 with rfl | rfl | rfl
                  · show t (st + 0) = 102; first | assumption | omega
                  · show t (st + 1) = 101; first | assumption | omega
                  · show t (st + 2) = 101; first | assumption | omega
                have hy := kix_mw hsa hl (by decide) hz
                exact m_iret F hQ e_X10_wordHere_96 ⟨h1, Or.inl ⟨hy.1, by rw [hy.2]; decide, by rw [hy.2]; rfl⟩⟩
set_option maxRecDepth 20000 in
theorem wk_3 {V : VX} {X : MX} {N : Nat} {σ : Mem} {c T Z u h : Nat} {P : NP} {L : Nat → LQ} {n st : Nat} {t : Nat → Nat} (F : Fx V X yX10_wordHere cX10_wordHere 4 (some .int) (rmd 4 0 0)) (hQ : Rt V X 0 0 N (fun r τ => HS V c (⟨T, Z, u, h, P, L⟩ : RG) [0, 1, 2, 3, 4, 5, 6, 7, 8, 9, 10, 11, 12, 13, 14, 15, 16, 17, 18, 19, 20, 21, 22, 23] σ τ ∧ ((P.a - st ≤ 6 ∧ kix (nmc t st P.a 6) < 9 ∧ r = some (.int (nI (kix (nmc t st P.a 6))))) ∨ (¬ (P.a - st ≤ 6 ∧ kix (nmc t st P.a 6) < 9) ∧ r = some (.int (-1)))))) (h1 : HS V c ⟨T, Z, u, h, P, L⟩ [0, 1, 2, 3, 4, 5, 6, 7, 8, 9, 10, 11, 12, 13, 14, 15, 16, 17, 18, 19, 20, 21, 22, 23] σ σ) (f20 : fld σ c 20 = some (.int (nI st))) (hB : BR σ c n t) (hn7 : n ≤ 700) (hsa : st < P.a) (hpn : P.a ≤ n) (hl : ∀ i, st ≤ i → i < P.a → isL (t i) = true) (hm : ∀ m, m < 3 → ¬ mw t st P.a m) (hz : ¬ mw t st P.a 3) : Wm V X 4 N σ 0 0 97 [(1, .int 3), (2, .int 16), (0, .ref c)] [] := by
  refine m_ldcS F e_X10_wordHere_97 F.sw.1.2.2 ?_
  refine m_iload_n F rfl e_X10_wordHere_99 ?_
  refine m_callO F e_X10_wordHere_100 (q_charAt (x_l X) V _ _ 16 (by omega)) cb_J0_charAt_5068e ml_X10_137 im_J0_charAt_5068e se_J0_charAt_5068e F.sw.2.2.2.2.2.2.1 rfl (rest := []) rfl (Nat.le_of_ble_eq_true rfl) ⟨Nat.le_of_ble_eq_true rfl, Nat.le_of_ble_eq_true rfl⟩ ⟨Nat.le_of_ble_eq_true rfl, Nat.le_of_ble_eq_true rfl⟩ (k' := 0) (z' := 0) (N' := N) rfl rfl rfl (fun r σ10978 hp => ?_)
  obtain ⟨rfl, rfl⟩ := hp
  refine Wm.topE (w := 102) (by decide) ?_
  refine m_bipush F (v := 32) (by decide) e_X10_wordHere_103 ?_
  refine m_icmp_eq F e_X10_wordHere_105 (fun q => absurd q (by decide)) (fun _ => ?_)
  refine m_iinc F (v := 17) (lv' := [(2, .int 17), (1, .int 3), (0, .ref c)]) e_X10_wordHere_108 rfl (by decide) (by decide) rfl ?_
  refine m_goto F e_X10_wordHere_111 ?_
  refine m_ldcS F e_X10_wordHere_97 F.sw.1.2.2 ?_
  refine m_iload_n F rfl e_X10_wordHere_99 ?_
  refine m_callO F e_X10_wordHere_100 (q_charAt (x_l X) V _ _ 17 (by omega)) cb_J0_charAt_5068e ml_X10_137 im_J0_charAt_5068e se_J0_charAt_5068e F.sw.2.2.2.2.2.2.1 rfl (rest := []) rfl (Nat.le_of_ble_eq_true rfl) ⟨Nat.le_of_ble_eq_true rfl, Nat.le_of_ble_eq_true rfl⟩ ⟨Nat.le_of_ble_eq_true rfl, Nat.le_of_ble_eq_true rfl⟩ (k' := 0) (z' := 0) (N' := N) rfl rfl rfl (fun r σ10979 hp => ?_)
  obtain ⟨rfl, rfl⟩ := hp
  refine Wm.topE (w := 97) (by decide) ?_
  refine m_bipush F (v := 32) (by decide) e_X10_wordHere_103 ?_
  refine m_icmp_eq F e_X10_wordHere_105 (fun q => absurd q (by decide)) (fun _ => ?_)
  refine m_iinc F (v := 18) (lv' := [(2, .int 18), (1, .int 3), (0, .ref c)]) e_X10_wordHere_108 rfl (by decide) (by decide) rfl ?_
  refine m_goto F e_X10_wordHere_111 ?_
  refine m_ldcS F e_X10_wordHere_97 F.sw.1.2.2 ?_
  refine m_iload_n F rfl e_X10_wordHere_99 ?_
  refine m_callO F e_X10_wordHere_100 (q_charAt (x_l X) V _ _ 18 (by omega)) cb_J0_charAt_5068e ml_X10_137 im_J0_charAt_5068e se_J0_charAt_5068e F.sw.2.2.2.2.2.2.1 rfl (rest := []) rfl (Nat.le_of_ble_eq_true rfl) ⟨Nat.le_of_ble_eq_true rfl, Nat.le_of_ble_eq_true rfl⟩ ⟨Nat.le_of_ble_eq_true rfl, Nat.le_of_ble_eq_true rfl⟩ (k' := 0) (z' := 0) (N' := N) rfl rfl rfl (fun r σ10980 hp => ?_)
  obtain ⟨rfl, rfl⟩ := hp
  refine Wm.topE (w := 105) (by decide) ?_
  refine m_bipush F (v := 32) (by decide) e_X10_wordHere_103 ?_
  refine m_icmp_eq F e_X10_wordHere_105 (fun q => absurd q (by decide)) (fun _ => ?_)
  refine m_iinc F (v := 19) (lv' := [(2, .int 19), (1, .int 3), (0, .ref c)]) e_X10_wordHere_108 rfl (by decide) (by decide) rfl ?_
  refine m_goto F e_X10_wordHere_111 ?_
  refine m_ldcS F e_X10_wordHere_97 F.sw.1.2.2 ?_
  refine m_iload_n F rfl e_X10_wordHere_99 ?_
  refine m_callO F e_X10_wordHere_100 (q_charAt (x_l X) V _ _ 19 (by omega)) cb_J0_charAt_5068e ml_X10_137 im_J0_charAt_5068e se_J0_charAt_5068e F.sw.2.2.2.2.2.2.1 rfl (rest := []) rfl (Nat.le_of_ble_eq_true rfl) ⟨Nat.le_of_ble_eq_true rfl, Nat.le_of_ble_eq_true rfl⟩ ⟨Nat.le_of_ble_eq_true rfl, Nat.le_of_ble_eq_true rfl⟩ (k' := 0) (z' := 0) (N' := N) rfl rfl rfl (fun r σ10981 hp => ?_)
  obtain ⟨rfl, rfl⟩ := hp
  refine Wm.topE (w := 114) (by decide) ?_
  refine m_bipush F (v := 32) (by decide) e_X10_wordHere_103 ?_
  refine m_icmp_eq F e_X10_wordHere_105 (fun q => absurd q (by decide)) (fun _ => ?_)
  refine m_iinc F (v := 20) (lv' := [(2, .int 20), (1, .int 3), (0, .ref c)]) e_X10_wordHere_108 rfl (by decide) (by decide) rfl ?_
  refine m_goto F e_X10_wordHere_111 ?_
  refine m_ldcS F e_X10_wordHere_97 F.sw.1.2.2 ?_
  refine m_iload_n F rfl e_X10_wordHere_99 ?_
  refine m_callO F e_X10_wordHere_100 (q_charAt (x_l X) V _ _ 20 (by omega)) cb_J0_charAt_5068e ml_X10_137 im_J0_charAt_5068e se_J0_charAt_5068e F.sw.2.2.2.2.2.2.1 rfl (rest := []) rfl (Nat.le_of_ble_eq_true rfl) ⟨Nat.le_of_ble_eq_true rfl, Nat.le_of_ble_eq_true rfl⟩ ⟨Nat.le_of_ble_eq_true rfl, Nat.le_of_ble_eq_true rfl⟩ (k' := 0) (z' := 0) (N' := N) rfl rfl rfl (fun r σ10982 hp => ?_)
  obtain ⟨rfl, rfl⟩ := hp
  refine Wm.topE (w := 32) (by decide) ?_
  refine m_bipush F (v := 32) (by decide) e_X10_wordHere_103 ?_
  refine m_icmp_eq F e_X10_wordHere_105 (fun _ => ?_) (fun q => absurd (by decide) q)
  refine m_iinc F (v := 21) (lv' := [(2, .int 21), (1, .int 3), (0, .ref c)]) e_X10_wordHere_114 rfl (by decide) (by decide) rfl ?_
  refine m_iinc F (v := 4) (lv' := [(1, .int 4), (2, .int 21), (0, .ref c)]) e_X10_wordHere_117 rfl (by decide) (by decide) rfl ?_
  refine m_goto F e_X10_wordHere_120 ?_
  exact wh_4 F hQ h1 f20 hB hn7 hsa hpn hl (fun m9 h9 => if e9 : m9 = 3 then e9 ▸ hz else hm m9 (by omega))
set_option maxRecDepth 20000 in
theorem wh_3 {V : VX} {X : MX} {N : Nat} {σ : Mem} {c T Z u h : Nat} {P : NP} {L : Nat → LQ} {n st : Nat} {t : Nat → Nat} (F : Fx V X yX10_wordHere cX10_wordHere 4 (some .int) (rmd 4 0 0)) (hQ : Rt V X 0 0 N (fun r τ => HS V c (⟨T, Z, u, h, P, L⟩ : RG) [0, 1, 2, 3, 4, 5, 6, 7, 8, 9, 10, 11, 12, 13, 14, 15, 16, 17, 18, 19, 20, 21, 22, 23] σ τ ∧ ((P.a - st ≤ 6 ∧ kix (nmc t st P.a 6) < 9 ∧ r = some (.int (nI (kix (nmc t st P.a 6))))) ∨ (¬ (P.a - st ≤ 6 ∧ kix (nmc t st P.a 6) < 9) ∧ r = some (.int (-1)))))) (h1 : HS V c ⟨T, Z, u, h, P, L⟩ [0, 1, 2, 3, 4, 5, 6, 7, 8, 9, 10, 11, 12, 13, 14, 15, 16, 17, 18, 19, 20, 21, 22, 23] σ σ) (f20 : fld σ c 20 = some (.int (nI st))) (hB : BR σ c n t) (hn7 : n ≤ 700) (hsa : st < P.a) (hpn : P.a ≤ n) (hl : ∀ i, st ≤ i → i < P.a → isL (t i) = true) (hm : ∀ m, m < 3 → ¬ mw t st P.a m) : Wm V X 4 N σ 0 0 4 [(1, .int 3), (2, .int 16), (0, .ref c)] [] := by
  refine m_iload_n F rfl e_X10_wordHere_4 ?_
  refine m_ldcS F e_X10_wordHere_5 F.sw.1.2.2 ?_
  refine m_callO F e_X10_wordHere_7 (q_length (x_l X) V _ _) cb_J0_length_8abf5 ml_X10_132 im_J0_length_8abf5 se_J0_length_8abf5 F.sw.2.2.2.2.2.2.1 rfl (rest := [.int 16]) rfl (Nat.le_of_ble_eq_true rfl) ⟨Nat.le_of_ble_eq_true rfl, Nat.le_of_ble_eq_true rfl⟩ ⟨Nat.le_of_ble_eq_true rfl, Nat.le_of_ble_eq_true rfl⟩ (k' := 0) (z' := 0) (N' := N) rfl rfl rfl (fun r σ10983 hp => ?_)
  obtain ⟨rfl, rfl⟩ := hp
  refine m_icmp_ge F e_X10_wordHere_10 (fun q => absurd q (by decide)) (fun _ => ?_)
  refine m_iconst F (v := 0) (by decide) e_X10_wordHere_13 ?_
  refine m_istore_n F (lv' := [(3, .int 0), (1, .int 3), (2, .int 16), (0, .ref c)]) e_X10_wordHere_14 (by decide) rfl ?_
  refine m_ldcS F e_X10_wordHere_15 F.sw.1.2.2 ?_
  refine m_iload_n F rfl e_X10_wordHere_17 ?_
  refine m_iload_n F rfl e_X10_wordHere_18 ?_
  refine m_iadd F e_X10_wordHere_19 ?_
  refine Wm.topE (w := 16) (by decide) ?_
  refine m_callO F e_X10_wordHere_20 (q_charAt (x_l X) V _ _ 16 (by omega)) cb_J0_charAt_5068e ml_X10_137 im_J0_charAt_5068e se_J0_charAt_5068e F.sw.2.2.2.2.2.2.1 rfl (rest := []) rfl (Nat.le_of_ble_eq_true rfl) ⟨Nat.le_of_ble_eq_true rfl, Nat.le_of_ble_eq_true rfl⟩ ⟨Nat.le_of_ble_eq_true rfl, Nat.le_of_ble_eq_true rfl⟩ (k' := 0) (z' := 0) (N' := N) rfl rfl rfl (fun r σ10984 hp => ?_)
  obtain ⟨rfl, rfl⟩ := hp
  refine Wm.topE (w := 102) (by decide) ?_
  refine m_bipush F (v := 32) (by decide) e_X10_wordHere_23 ?_
  refine m_icmp_eq F e_X10_wordHere_25 (fun q => absurd q (by decide)) (fun _ => ?_)
  refine m_aload_n F rfl e_X10_wordHere_28 ?_
  refine r_getC F e_X10_wordHere_29 fl_X10_107 h1 (f20) ?_
  refine m_iload_n F rfl e_X10_wordHere_32 ?_
  refine m_iadd F e_X10_wordHere_33 ?_
  refine Wm.topE (w := nI st) (nI_add st 0) ?_
  refine m_aload_n F rfl e_X10_wordHere_34 ?_
  refine r_get F e_X10_wordHere_35 fl_X10_97 h1 rfl (fun v hv f10985 => ?_)
  obtain rfl : v = .int (nI (P.a)) := hv
  refine m_icmp_ge F e_X10_wordHere_38 (fun q38 => ?_) (fun q38 => ?_)
  · have c38 : st ≥ P.a := (nI_leI (a := P.a) (b := st) (by omega) (by omega)).mp q38
    refine m_ldcS F e_X10_wordHere_69 F.sw.1.2.2 ?_
    refine m_iload_n F rfl e_X10_wordHere_71 ?_
    refine m_iload_n F rfl e_X10_wordHere_72 ?_
    refine m_iadd F e_X10_wordHere_73 ?_
    refine Wm.topE (w := 16) (by decide) ?_
    refine m_callO F e_X10_wordHere_74 (q_charAt (x_l X) V _ _ 16 (by omega)) cb_J0_charAt_5068e ml_X10_137 im_J0_charAt_5068e se_J0_charAt_5068e F.sw.2.2.2.2.2.2.1 rfl (rest := []) rfl (Nat.le_of_ble_eq_true rfl) ⟨Nat.le_of_ble_eq_true rfl, Nat.le_of_ble_eq_true rfl⟩ ⟨Nat.le_of_ble_eq_true rfl, Nat.le_of_ble_eq_true rfl⟩ (k' := 0) (z' := 0) (N' := N) rfl rfl rfl (fun r σ10986 hp => ?_)
    obtain ⟨rfl, rfl⟩ := hp
    refine Wm.topE (w := 102) (by decide) ?_
    refine m_bipush F (v := 32) (by decide) e_X10_wordHere_77 ?_
    refine m_icmp_ne F e_X10_wordHere_79 (fun _ => ?_) (fun q => absurd q (by decide))
    refine Wm.lvsub (lv' := [(1, .int 3), (2, .int 16), (0, .ref c)]) ?_ [1, 2, 3] rfl
    exact wk_3 F hQ h1 f20 hB hn7 hsa hpn hl hm (fun hz => by have z1 : P.a = st + 4 := hz.1; have z2 : t (st) = 102 := hz.2 0 (by decide); omega)
  · have c38 : st < P.a := by have hh := mt (nI_leI (a := P.a) (b := st) (by omega) (by omega)).mpr q38; omega
    refine m_aload_n F rfl e_X10_wordHere_41 ?_
    refine r_get F e_X10_wordHere_42 fl_X10_7 h1 rfl (fun v hv f10987 => ?_)
    obtain rfl : v = .ref (c + 1) := hv
    refine m_aload_n F rfl e_X10_wordHere_45 ?_
    refine r_getC F e_X10_wordHere_46 fl_X10_107 h1 (f20) ?_
    refine m_iload_n F rfl e_X10_wordHere_49 ?_
    refine m_iadd F e_X10_wordHere_50 ?_
    refine Wm.topE (w := nI st) (nI_add st 0) ?_
    have hb10988 := (hB st (by omega)).1
    refine r_iald F (len := 700) (j := st) e_X10_wordHere_51 h1 (fun _ h => h) (by decide) (nI_clamp (by omega)) (vp_in_nI (by omega) (by decide)) (fun x10989 h10990 f10991 => ?_)
    obtain rfl := Option.some.inj ((f10991).symm.trans ((hB st (by omega)).2))
    refine m_ldcS F e_X10_wordHere_52 F.sw.1.2.2 ?_
    refine m_iload_n F rfl e_X10_wordHere_54 ?_
    refine m_iload_n F rfl e_X10_wordHere_55 ?_
    refine m_iadd F e_X10_wordHere_56 ?_
    refine Wm.topE (w := 16) (by decide) ?_
    refine m_callO F e_X10_wordHere_57 (q_charAt (x_l X) V _ _ 16 (by omega)) cb_J0_charAt_5068e ml_X10_137 im_J0_charAt_5068e se_J0_charAt_5068e F.sw.2.2.2.2.2.2.1 rfl (rest := [.int (nI (t st))]) rfl (Nat.le_of_ble_eq_true rfl) ⟨Nat.le_of_ble_eq_true rfl, Nat.le_of_ble_eq_true rfl⟩ ⟨Nat.le_of_ble_eq_true rfl, Nat.le_of_ble_eq_true rfl⟩ (k' := 0) (z' := 0) (N' := N) rfl rfl rfl (fun r σ10992 hp => ?_)
    obtain ⟨rfl, rfl⟩ := hp
    refine Wm.topE (w := 102) (by decide) ?_
    refine m_icmp_ne F e_X10_wordHere_60 (fun q60 => ?_) (fun q60 => ?_)
    · have c60 : (t st) ≠ 102 := by have hh := mt (nI_eq (a := (t st)) (b := 102) (by omega) (by omega)).mpr q60; omega
      refine m_ldcS F e_X10_wordHere_69 F.sw.1.2.2 ?_
      refine m_iload_n F rfl e_X10_wordHere_71 ?_
      refine m_iload_n F rfl e_X10_wordHere_72 ?_
      refine m_iadd F e_X10_wordHere_73 ?_
      refine Wm.topE (w := 16) (by decide) ?_
      refine m_callO F e_X10_wordHere_74 (q_charAt (x_l X) V _ _ 16 (by omega)) cb_J0_charAt_5068e ml_X10_137 im_J0_charAt_5068e se_J0_charAt_5068e F.sw.2.2.2.2.2.2.1 rfl (rest := []) rfl (Nat.le_of_ble_eq_true rfl) ⟨Nat.le_of_ble_eq_true rfl, Nat.le_of_ble_eq_true rfl⟩ ⟨Nat.le_of_ble_eq_true rfl, Nat.le_of_ble_eq_true rfl⟩ (k' := 0) (z' := 0) (N' := N) rfl rfl rfl (fun r σ10993 hp => ?_)
      obtain ⟨rfl, rfl⟩ := hp
      refine Wm.topE (w := 102) (by decide) ?_
      refine m_bipush F (v := 32) (by decide) e_X10_wordHere_77 ?_
      refine m_icmp_ne F e_X10_wordHere_79 (fun _ => ?_) (fun q => absurd q (by decide))
      refine Wm.lvsub (lv' := [(1, .int 3), (2, .int 16), (0, .ref c)]) ?_ [1, 2, 3] rfl
      exact wk_3 F hQ h1 f20 hB hn7 hsa hpn hl hm (fun hz => by have z1 : P.a = st + 4 := hz.1; have z2 : t (st) = 102 := hz.2 0 (by decide); omega)
    · have c60 : (t st) = 102 := (nI_eq (a := (t st)) (b := 102) (by omega) (by omega)).mp q60
      refine m_iinc F (v := 1) (lv' := [(3, .int 1), (1, .int 3), (2, .int 16), (0, .ref c)]) e_X10_wordHere_63 rfl (by decide) (by decide) rfl ?_
      refine m_goto F e_X10_wordHere_66 ?_
      refine m_ldcS F e_X10_wordHere_15 F.sw.1.2.2 ?_
      refine m_iload_n F rfl e_X10_wordHere_17 ?_
      refine m_iload_n F rfl e_X10_wordHere_18 ?_
      refine m_iadd F e_X10_wordHere_19 ?_
      refine Wm.topE (w := 17) (by decide) ?_
      refine m_callO F e_X10_wordHere_20 (q_charAt (x_l X) V _ _ 17 (by omega)) cb_J0_charAt_5068e ml_X10_137 im_J0_charAt_5068e se_J0_charAt_5068e F.sw.2.2.2.2.2.2.1 rfl (rest := []) rfl (Nat.le_of_ble_eq_true rfl) ⟨Nat.le_of_ble_eq_true rfl, Nat.le_of_ble_eq_true rfl⟩ ⟨Nat.le_of_ble_eq_true rfl, Nat.le_of_ble_eq_true rfl⟩ (k' := 0) (z' := 0) (N' := N) rfl rfl rfl (fun r σ10994 hp => ?_)
      obtain ⟨rfl, rfl⟩ := hp
      refine Wm.topE (w := 97) (by decide) ?_
      refine m_bipush F (v := 32) (by decide) e_X10_wordHere_23 ?_
      refine m_icmp_eq F e_X10_wordHere_25 (fun q => absurd q (by decide)) (fun _ => ?_)
      refine m_aload_n F rfl e_X10_wordHere_28 ?_
      refine r_getC F e_X10_wordHere_29 fl_X10_107 h1 (f20) ?_
      refine m_iload_n F rfl e_X10_wordHere_32 ?_
      refine m_iadd F e_X10_wordHere_33 ?_
      refine Wm.topE (w := nI (st + 1)) (nI_add st 1) ?_
      refine m_aload_n F rfl e_X10_wordHere_34 ?_
      refine r_getC F e_X10_wordHere_35 fl_X10_97 h1 (f10985) ?_
      refine m_icmp_ge F e_X10_wordHere_38 (fun q38 => ?_) (fun q38 => ?_)
      · have c38 : (st + 1) ≥ P.a := (nI_leI (a := P.a) (b := (st + 1)) (by omega) (by omega)).mp q38
        refine m_ldcS F e_X10_wordHere_69 F.sw.1.2.2 ?_
        refine m_iload_n F rfl e_X10_wordHere_71 ?_
        refine m_iload_n F rfl e_X10_wordHere_72 ?_
        refine m_iadd F e_X10_wordHere_73 ?_
        refine Wm.topE (w := 17) (by decide) ?_
        refine m_callO F e_X10_wordHere_74 (q_charAt (x_l X) V _ _ 17 (by omega)) cb_J0_charAt_5068e ml_X10_137 im_J0_charAt_5068e se_J0_charAt_5068e F.sw.2.2.2.2.2.2.1 rfl (rest := []) rfl (Nat.le_of_ble_eq_true rfl) ⟨Nat.le_of_ble_eq_true rfl, Nat.le_of_ble_eq_true rfl⟩ ⟨Nat.le_of_ble_eq_true rfl, Nat.le_of_ble_eq_true rfl⟩ (k' := 0) (z' := 0) (N' := N) rfl rfl rfl (fun r σ10995 hp => ?_)
        obtain ⟨rfl, rfl⟩ := hp
        refine Wm.topE (w := 97) (by decide) ?_
        refine m_bipush F (v := 32) (by decide) e_X10_wordHere_77 ?_
        refine m_icmp_ne F e_X10_wordHere_79 (fun _ => ?_) (fun q => absurd q (by decide))
        refine Wm.lvsub (lv' := [(1, .int 3), (2, .int 16), (0, .ref c)]) ?_ [1, 2, 3] rfl
        exact wk_3 F hQ h1 f20 hB hn7 hsa hpn hl hm (fun hz => by have z1 : P.a = st + 4 := hz.1; have z2 : t (st + 1) = 97 := hz.2 1 (by decide); omega)
      · have c38 : (st + 1) < P.a := by have hh := mt (nI_leI (a := P.a) (b := (st + 1)) (by omega) (by omega)).mpr q38; omega
        refine m_aload_n F rfl e_X10_wordHere_41 ?_
        refine r_getC F e_X10_wordHere_42 fl_X10_7 h1 (f10987) ?_
        refine m_aload_n F rfl e_X10_wordHere_45 ?_
        refine r_getC F e_X10_wordHere_46 fl_X10_107 h1 (f20) ?_
        refine m_iload_n F rfl e_X10_wordHere_49 ?_
        refine m_iadd F e_X10_wordHere_50 ?_
        refine Wm.topE (w := nI (st + 1)) (nI_add st 1) ?_
        have hb10996 := (hB (st + 1) (by omega)).1
        refine r_iald F (len := 700) (j := st + 1) e_X10_wordHere_51 h1 (fun _ h => h) (by decide) (nI_clamp (by omega)) (vp_in_nI (by omega) (by decide)) (fun x10997 h10998 f10999 => ?_)
        obtain rfl := Option.some.inj ((f10999).symm.trans ((hB (st + 1) (by omega)).2))
        refine m_ldcS F e_X10_wordHere_52 F.sw.1.2.2 ?_
        refine m_iload_n F rfl e_X10_wordHere_54 ?_
        refine m_iload_n F rfl e_X10_wordHere_55 ?_
        refine m_iadd F e_X10_wordHere_56 ?_
        refine Wm.topE (w := 17) (by decide) ?_
        refine m_callO F e_X10_wordHere_57 (q_charAt (x_l X) V _ _ 17 (by omega)) cb_J0_charAt_5068e ml_X10_137 im_J0_charAt_5068e se_J0_charAt_5068e F.sw.2.2.2.2.2.2.1 rfl (rest := [.int (nI (t (st + 1)))]) rfl (Nat.le_of_ble_eq_true rfl) ⟨Nat.le_of_ble_eq_true rfl, Nat.le_of_ble_eq_true rfl⟩ ⟨Nat.le_of_ble_eq_true rfl, Nat.le_of_ble_eq_true rfl⟩ (k' := 0) (z' := 0) (N' := N) rfl rfl rfl (fun r σ11000 hp => ?_)
        obtain ⟨rfl, rfl⟩ := hp
        refine Wm.topE (w := 97) (by decide) ?_
        refine m_icmp_ne F e_X10_wordHere_60 (fun q60 => ?_) (fun q60 => ?_)
        · have c60 : (t (st + 1)) ≠ 97 := by have hh := mt (nI_eq (a := (t (st + 1))) (b := 97) (by omega) (by omega)).mpr q60; omega
          refine m_ldcS F e_X10_wordHere_69 F.sw.1.2.2 ?_
          refine m_iload_n F rfl e_X10_wordHere_71 ?_
          refine m_iload_n F rfl e_X10_wordHere_72 ?_
          refine m_iadd F e_X10_wordHere_73 ?_
          refine Wm.topE (w := 17) (by decide) ?_
          refine m_callO F e_X10_wordHere_74 (q_charAt (x_l X) V _ _ 17 (by omega)) cb_J0_charAt_5068e ml_X10_137 im_J0_charAt_5068e se_J0_charAt_5068e F.sw.2.2.2.2.2.2.1 rfl (rest := []) rfl (Nat.le_of_ble_eq_true rfl) ⟨Nat.le_of_ble_eq_true rfl, Nat.le_of_ble_eq_true rfl⟩ ⟨Nat.le_of_ble_eq_true rfl, Nat.le_of_ble_eq_true rfl⟩ (k' := 0) (z' := 0) (N' := N) rfl rfl rfl (fun r σ11001 hp => ?_)
          obtain ⟨rfl, rfl⟩ := hp
          refine Wm.topE (w := 97) (by decide) ?_
          refine m_bipush F (v := 32) (by decide) e_X10_wordHere_77 ?_
          refine m_icmp_ne F e_X10_wordHere_79 (fun _ => ?_) (fun q => absurd q (by decide))
          refine Wm.lvsub (lv' := [(1, .int 3), (2, .int 16), (0, .ref c)]) ?_ [1, 2, 3] rfl
          exact wk_3 F hQ h1 f20 hB hn7 hsa hpn hl hm (fun hz => by have z1 : P.a = st + 4 := hz.1; have z2 : t (st + 1) = 97 := hz.2 1 (by decide); omega)
        · have c60 : (t (st + 1)) = 97 := (nI_eq (a := (t (st + 1))) (b := 97) (by omega) (by omega)).mp q60
          refine m_iinc F (v := 2) (lv' := [(3, .int 2), (1, .int 3), (2, .int 16), (0, .ref c)]) e_X10_wordHere_63 rfl (by decide) (by decide) rfl ?_
          refine m_goto F e_X10_wordHere_66 ?_
          refine m_ldcS F e_X10_wordHere_15 F.sw.1.2.2 ?_
          refine m_iload_n F rfl e_X10_wordHere_17 ?_
          refine m_iload_n F rfl e_X10_wordHere_18 ?_
          refine m_iadd F e_X10_wordHere_19 ?_
          refine Wm.topE (w := 18) (by decide) ?_
          refine m_callO F e_X10_wordHere_20 (q_charAt (x_l X) V _ _ 18 (by omega)) cb_J0_charAt_5068e ml_X10_137 im_J0_charAt_5068e se_J0_charAt_5068e F.sw.2.2.2.2.2.2.1 rfl (rest := []) rfl (Nat.le_of_ble_eq_true rfl) ⟨Nat.le_of_ble_eq_true rfl, Nat.le_of_ble_eq_true rfl⟩ ⟨Nat.le_of_ble_eq_true rfl, Nat.le_of_ble_eq_true rfl⟩ (k' := 0) (z' := 0) (N' := N) rfl rfl rfl (fun r σ11002 hp => ?_)
          obtain ⟨rfl, rfl⟩ := hp
          refine Wm.topE (w := 105) (by decide) ?_
          refine m_bipush F (v := 32) (by decide) e_X10_wordHere_23 ?_
          refine m_icmp_eq F e_X10_wordHere_25 (fun q => absurd q (by decide)) (fun _ => ?_)
          refine m_aload_n F rfl e_X10_wordHere_28 ?_
          refine r_getC F e_X10_wordHere_29 fl_X10_107 h1 (f20) ?_
          refine m_iload_n F rfl e_X10_wordHere_32 ?_
          refine m_iadd F e_X10_wordHere_33 ?_
          refine Wm.topE (w := nI (st + 2)) (nI_add st 2) ?_
          refine m_aload_n F rfl e_X10_wordHere_34 ?_
          refine r_getC F e_X10_wordHere_35 fl_X10_97 h1 (f10985) ?_
          refine m_icmp_ge F e_X10_wordHere_38 (fun q38 => ?_) (fun q38 => ?_)
          · have c38 : (st + 2) ≥ P.a := (nI_leI (a := P.a) (b := (st + 2)) (by omega) (by omega)).mp q38
            refine m_ldcS F e_X10_wordHere_69 F.sw.1.2.2 ?_
            refine m_iload_n F rfl e_X10_wordHere_71 ?_
            refine m_iload_n F rfl e_X10_wordHere_72 ?_
            refine m_iadd F e_X10_wordHere_73 ?_
            refine Wm.topE (w := 18) (by decide) ?_
            refine m_callO F e_X10_wordHere_74 (q_charAt (x_l X) V _ _ 18 (by omega)) cb_J0_charAt_5068e ml_X10_137 im_J0_charAt_5068e se_J0_charAt_5068e F.sw.2.2.2.2.2.2.1 rfl (rest := []) rfl (Nat.le_of_ble_eq_true rfl) ⟨Nat.le_of_ble_eq_true rfl, Nat.le_of_ble_eq_true rfl⟩ ⟨Nat.le_of_ble_eq_true rfl, Nat.le_of_ble_eq_true rfl⟩ (k' := 0) (z' := 0) (N' := N) rfl rfl rfl (fun r σ11003 hp => ?_)
            obtain ⟨rfl, rfl⟩ := hp
            refine Wm.topE (w := 105) (by decide) ?_
            refine m_bipush F (v := 32) (by decide) e_X10_wordHere_77 ?_
            refine m_icmp_ne F e_X10_wordHere_79 (fun _ => ?_) (fun q => absurd q (by decide))
            refine Wm.lvsub (lv' := [(1, .int 3), (2, .int 16), (0, .ref c)]) ?_ [1, 2, 3] rfl
            exact wk_3 F hQ h1 f20 hB hn7 hsa hpn hl hm (fun hz => by have z1 : P.a = st + 4 := hz.1; have z2 : t (st + 2) = 105 := hz.2 2 (by decide); omega)
          · have c38 : (st + 2) < P.a := by have hh := mt (nI_leI (a := P.a) (b := (st + 2)) (by omega) (by omega)).mpr q38; omega
            refine m_aload_n F rfl e_X10_wordHere_41 ?_
            refine r_getC F e_X10_wordHere_42 fl_X10_7 h1 (f10987) ?_
            refine m_aload_n F rfl e_X10_wordHere_45 ?_
            refine r_getC F e_X10_wordHere_46 fl_X10_107 h1 (f20) ?_
            refine m_iload_n F rfl e_X10_wordHere_49 ?_
            refine m_iadd F e_X10_wordHere_50 ?_
            refine Wm.topE (w := nI (st + 2)) (nI_add st 2) ?_
            have hb11004 := (hB (st + 2) (by omega)).1
            refine r_iald F (len := 700) (j := st + 2) e_X10_wordHere_51 h1 (fun _ h => h) (by decide) (nI_clamp (by omega)) (vp_in_nI (by omega) (by decide)) (fun x11005 h11006 f11007 => ?_)
            obtain rfl := Option.some.inj ((f11007).symm.trans ((hB (st + 2) (by omega)).2))
            refine m_ldcS F e_X10_wordHere_52 F.sw.1.2.2 ?_
            refine m_iload_n F rfl e_X10_wordHere_54 ?_
            refine m_iload_n F rfl e_X10_wordHere_55 ?_
            refine m_iadd F e_X10_wordHere_56 ?_
            refine Wm.topE (w := 18) (by decide) ?_
            refine m_callO F e_X10_wordHere_57 (q_charAt (x_l X) V _ _ 18 (by omega)) cb_J0_charAt_5068e ml_X10_137 im_J0_charAt_5068e se_J0_charAt_5068e F.sw.2.2.2.2.2.2.1 rfl (rest := [.int (nI (t (st + 2)))]) rfl (Nat.le_of_ble_eq_true rfl) ⟨Nat.le_of_ble_eq_true rfl, Nat.le_of_ble_eq_true rfl⟩ ⟨Nat.le_of_ble_eq_true rfl, Nat.le_of_ble_eq_true rfl⟩ (k' := 0) (z' := 0) (N' := N) rfl rfl rfl (fun r σ11008 hp => ?_)
            obtain ⟨rfl, rfl⟩ := hp
            refine Wm.topE (w := 105) (by decide) ?_
            refine m_icmp_ne F e_X10_wordHere_60 (fun q60 => ?_) (fun q60 => ?_)
            · have c60 : (t (st + 2)) ≠ 105 := by have hh := mt (nI_eq (a := (t (st + 2))) (b := 105) (by omega) (by omega)).mpr q60; omega
              refine m_ldcS F e_X10_wordHere_69 F.sw.1.2.2 ?_
              refine m_iload_n F rfl e_X10_wordHere_71 ?_
              refine m_iload_n F rfl e_X10_wordHere_72 ?_
              refine m_iadd F e_X10_wordHere_73 ?_
              refine Wm.topE (w := 18) (by decide) ?_
              refine m_callO F e_X10_wordHere_74 (q_charAt (x_l X) V _ _ 18 (by omega)) cb_J0_charAt_5068e ml_X10_137 im_J0_charAt_5068e se_J0_charAt_5068e F.sw.2.2.2.2.2.2.1 rfl (rest := []) rfl (Nat.le_of_ble_eq_true rfl) ⟨Nat.le_of_ble_eq_true rfl, Nat.le_of_ble_eq_true rfl⟩ ⟨Nat.le_of_ble_eq_true rfl, Nat.le_of_ble_eq_true rfl⟩ (k' := 0) (z' := 0) (N' := N) rfl rfl rfl (fun r σ11009 hp => ?_)
              obtain ⟨rfl, rfl⟩ := hp
              refine Wm.topE (w := 105) (by decide) ?_
              refine m_bipush F (v := 32) (by decide) e_X10_wordHere_77 ?_
              refine m_icmp_ne F e_X10_wordHere_79 (fun _ => ?_) (fun q => absurd q (by decide))
              refine Wm.lvsub (lv' := [(1, .int 3), (2, .int 16), (0, .ref c)]) ?_ [1, 2, 3] rfl
              exact wk_3 F hQ h1 f20 hB hn7 hsa hpn hl hm (fun hz => by have z1 : P.a = st + 4 := hz.1; have z2 : t (st + 2) = 105 := hz.2 2 (by decide); omega)
            · have c60 : (t (st + 2)) = 105 := (nI_eq (a := (t (st + 2))) (b := 105) (by omega) (by omega)).mp q60
              refine m_iinc F (v := 3) (lv' := [(3, .int 3), (1, .int 3), (2, .int 16), (0, .ref c)]) e_X10_wordHere_63 rfl (by decide) (by decide) rfl ?_
              refine m_goto F e_X10_wordHere_66 ?_
              refine m_ldcS F e_X10_wordHere_15 F.sw.1.2.2 ?_
              refine m_iload_n F rfl e_X10_wordHere_17 ?_
              refine m_iload_n F rfl e_X10_wordHere_18 ?_
              refine m_iadd F e_X10_wordHere_19 ?_
              refine Wm.topE (w := 19) (by decide) ?_
              refine m_callO F e_X10_wordHere_20 (q_charAt (x_l X) V _ _ 19 (by omega)) cb_J0_charAt_5068e ml_X10_137 im_J0_charAt_5068e se_J0_charAt_5068e F.sw.2.2.2.2.2.2.1 rfl (rest := []) rfl (Nat.le_of_ble_eq_true rfl) ⟨Nat.le_of_ble_eq_true rfl, Nat.le_of_ble_eq_true rfl⟩ ⟨Nat.le_of_ble_eq_true rfl, Nat.le_of_ble_eq_true rfl⟩ (k' := 0) (z' := 0) (N' := N) rfl rfl rfl (fun r σ11010 hp => ?_)
              obtain ⟨rfl, rfl⟩ := hp
              refine Wm.topE (w := 114) (by decide) ?_
              refine m_bipush F (v := 32) (by decide) e_X10_wordHere_23 ?_
              refine m_icmp_eq F e_X10_wordHere_25 (fun q => absurd q (by decide)) (fun _ => ?_)
              refine m_aload_n F rfl e_X10_wordHere_28 ?_
              refine r_getC F e_X10_wordHere_29 fl_X10_107 h1 (f20) ?_
              refine m_iload_n F rfl e_X10_wordHere_32 ?_
              refine m_iadd F e_X10_wordHere_33 ?_
              refine Wm.topE (w := nI (st + 3)) (nI_add st 3) ?_
              refine m_aload_n F rfl e_X10_wordHere_34 ?_
              refine r_getC F e_X10_wordHere_35 fl_X10_97 h1 (f10985) ?_
              refine m_icmp_ge F e_X10_wordHere_38 (fun q38 => ?_) (fun q38 => ?_)
              · have c38 : (st + 3) ≥ P.a := (nI_leI (a := P.a) (b := (st + 3)) (by omega) (by omega)).mp q38
                refine m_ldcS F e_X10_wordHere_69 F.sw.1.2.2 ?_
                refine m_iload_n F rfl e_X10_wordHere_71 ?_
                refine m_iload_n F rfl e_X10_wordHere_72 ?_
                refine m_iadd F e_X10_wordHere_73 ?_
                refine Wm.topE (w := 19) (by decide) ?_
                refine m_callO F e_X10_wordHere_74 (q_charAt (x_l X) V _ _ 19 (by omega)) cb_J0_charAt_5068e ml_X10_137 im_J0_charAt_5068e se_J0_charAt_5068e F.sw.2.2.2.2.2.2.1 rfl (rest := []) rfl (Nat.le_of_ble_eq_true rfl) ⟨Nat.le_of_ble_eq_true rfl, Nat.le_of_ble_eq_true rfl⟩ ⟨Nat.le_of_ble_eq_true rfl, Nat.le_of_ble_eq_true rfl⟩ (k' := 0) (z' := 0) (N' := N) rfl rfl rfl (fun r σ11011 hp => ?_)
                obtain ⟨rfl, rfl⟩ := hp
                refine Wm.topE (w := 114) (by decide) ?_
                refine m_bipush F (v := 32) (by decide) e_X10_wordHere_77 ?_
                refine m_icmp_ne F e_X10_wordHere_79 (fun _ => ?_) (fun q => absurd q (by decide))
                refine Wm.lvsub (lv' := [(1, .int 3), (2, .int 16), (0, .ref c)]) ?_ [1, 2, 3] rfl
                exact wk_3 F hQ h1 f20 hB hn7 hsa hpn hl hm (fun hz => by have z1 : P.a = st + 4 := hz.1; have z2 : t (st + 3) = 114 := hz.2 3 (by decide); omega)
              · have c38 : (st + 3) < P.a := by have hh := mt (nI_leI (a := P.a) (b := (st + 3)) (by omega) (by omega)).mpr q38; omega
                refine m_aload_n F rfl e_X10_wordHere_41 ?_
                refine r_getC F e_X10_wordHere_42 fl_X10_7 h1 (f10987) ?_
                refine m_aload_n F rfl e_X10_wordHere_45 ?_
                refine r_getC F e_X10_wordHere_46 fl_X10_107 h1 (f20) ?_
                refine m_iload_n F rfl e_X10_wordHere_49 ?_
                refine m_iadd F e_X10_wordHere_50 ?_
                refine Wm.topE (w := nI (st + 3)) (nI_add st 3) ?_
                have hb11012 := (hB (st + 3) (by omega)).1
                refine r_iald F (len := 700) (j := st + 3) e_X10_wordHere_51 h1 (fun _ h => h) (by decide) (nI_clamp (by omega)) (vp_in_nI (by omega) (by decide)) (fun x11013 h11014 f11015 => ?_)
                obtain rfl := Option.some.inj ((f11015).symm.trans ((hB (st + 3) (by omega)).2))
                refine m_ldcS F e_X10_wordHere_52 F.sw.1.2.2 ?_
                refine m_iload_n F rfl e_X10_wordHere_54 ?_
                refine m_iload_n F rfl e_X10_wordHere_55 ?_
                refine m_iadd F e_X10_wordHere_56 ?_
                refine Wm.topE (w := 19) (by decide) ?_
                refine m_callO F e_X10_wordHere_57 (q_charAt (x_l X) V _ _ 19 (by omega)) cb_J0_charAt_5068e ml_X10_137 im_J0_charAt_5068e se_J0_charAt_5068e F.sw.2.2.2.2.2.2.1 rfl (rest := [.int (nI (t (st + 3)))]) rfl (Nat.le_of_ble_eq_true rfl) ⟨Nat.le_of_ble_eq_true rfl, Nat.le_of_ble_eq_true rfl⟩ ⟨Nat.le_of_ble_eq_true rfl, Nat.le_of_ble_eq_true rfl⟩ (k' := 0) (z' := 0) (N' := N) rfl rfl rfl (fun r σ11016 hp => ?_)
                obtain ⟨rfl, rfl⟩ := hp
                refine Wm.topE (w := 114) (by decide) ?_
                refine m_icmp_ne F e_X10_wordHere_60 (fun q60 => ?_) (fun q60 => ?_)
                · have c60 : (t (st + 3)) ≠ 114 := by have hh := mt (nI_eq (a := (t (st + 3))) (b := 114) (by omega) (by omega)).mpr q60; omega
                  refine m_ldcS F e_X10_wordHere_69 F.sw.1.2.2 ?_
                  refine m_iload_n F rfl e_X10_wordHere_71 ?_
                  refine m_iload_n F rfl e_X10_wordHere_72 ?_
                  refine m_iadd F e_X10_wordHere_73 ?_
                  refine Wm.topE (w := 19) (by decide) ?_
                  refine m_callO F e_X10_wordHere_74 (q_charAt (x_l X) V _ _ 19 (by omega)) cb_J0_charAt_5068e ml_X10_137 im_J0_charAt_5068e se_J0_charAt_5068e F.sw.2.2.2.2.2.2.1 rfl (rest := []) rfl (Nat.le_of_ble_eq_true rfl) ⟨Nat.le_of_ble_eq_true rfl, Nat.le_of_ble_eq_true rfl⟩ ⟨Nat.le_of_ble_eq_true rfl, Nat.le_of_ble_eq_true rfl⟩ (k' := 0) (z' := 0) (N' := N) rfl rfl rfl (fun r σ11017 hp => ?_)
                  obtain ⟨rfl, rfl⟩ := hp
                  refine Wm.topE (w := 114) (by decide) ?_
                  refine m_bipush F (v := 32) (by decide) e_X10_wordHere_77 ?_
                  refine m_icmp_ne F e_X10_wordHere_79 (fun _ => ?_) (fun q => absurd q (by decide))
                  refine Wm.lvsub (lv' := [(1, .int 3), (2, .int 16), (0, .ref c)]) ?_ [1, 2, 3] rfl
                  exact wk_3 F hQ h1 f20 hB hn7 hsa hpn hl hm (fun hz => by have z1 : P.a = st + 4 := hz.1; have z2 : t (st + 3) = 114 := hz.2 3 (by decide); omega)
                · have c60 : (t (st + 3)) = 114 := (nI_eq (a := (t (st + 3))) (b := 114) (by omega) (by omega)).mp q60
                  refine m_iinc F (v := 4) (lv' := [(3, .int 4), (1, .int 3), (2, .int 16), (0, .ref c)]) e_X10_wordHere_63 rfl (by decide) (by decide) rfl ?_
                  refine m_goto F e_X10_wordHere_66 ?_
                  refine m_ldcS F e_X10_wordHere_15 F.sw.1.2.2 ?_
                  refine m_iload_n F rfl e_X10_wordHere_17 ?_
                  refine m_iload_n F rfl e_X10_wordHere_18 ?_
                  refine m_iadd F e_X10_wordHere_19 ?_
                  refine Wm.topE (w := 20) (by decide) ?_
                  refine m_callO F e_X10_wordHere_20 (q_charAt (x_l X) V _ _ 20 (by omega)) cb_J0_charAt_5068e ml_X10_137 im_J0_charAt_5068e se_J0_charAt_5068e F.sw.2.2.2.2.2.2.1 rfl (rest := []) rfl (Nat.le_of_ble_eq_true rfl) ⟨Nat.le_of_ble_eq_true rfl, Nat.le_of_ble_eq_true rfl⟩ ⟨Nat.le_of_ble_eq_true rfl, Nat.le_of_ble_eq_true rfl⟩ (k' := 0) (z' := 0) (N' := N) rfl rfl rfl (fun r σ11018 hp => ?_)
                  obtain ⟨rfl, rfl⟩ := hp
                  refine Wm.topE (w := 32) (by decide) ?_
                  refine m_bipush F (v := 32) (by decide) e_X10_wordHere_23 ?_
                  refine m_icmp_eq F e_X10_wordHere_25 (fun _ => ?_) (fun q => absurd (by decide) q)
                  refine m_ldcS F e_X10_wordHere_69 F.sw.1.2.2 ?_
                  refine m_iload_n F rfl e_X10_wordHere_71 ?_
                  refine m_iload_n F rfl e_X10_wordHere_72 ?_
                  refine m_iadd F e_X10_wordHere_73 ?_
                  refine Wm.topE (w := 20) (by decide) ?_
                  refine m_callO F e_X10_wordHere_74 (q_charAt (x_l X) V _ _ 20 (by omega)) cb_J0_charAt_5068e ml_X10_137 im_J0_charAt_5068e se_J0_charAt_5068e F.sw.2.2.2.2.2.2.1 rfl (rest := []) rfl (Nat.le_of_ble_eq_true rfl) ⟨Nat.le_of_ble_eq_true rfl, Nat.le_of_ble_eq_true rfl⟩ ⟨Nat.le_of_ble_eq_true rfl, Nat.le_of_ble_eq_true rfl⟩ (k' := 0) (z' := 0) (N' := N) rfl rfl rfl (fun r σ11019 hp => ?_)
                  obtain ⟨rfl, rfl⟩ := hp
                  refine Wm.topE (w := 32) (by decide) ?_
                  refine m_bipush F (v := 32) (by decide) e_X10_wordHere_77 ?_
                  refine m_icmp_ne F e_X10_wordHere_79 (fun q => absurd (by decide) q) (fun _ => ?_)
                  refine m_aload_n F rfl e_X10_wordHere_82 ?_
                  refine r_getC F e_X10_wordHere_83 fl_X10_107 h1 (f20) ?_
                  refine m_iload_n F rfl e_X10_wordHere_86 ?_
                  refine m_iadd F e_X10_wordHere_87 ?_
                  refine Wm.topE (w := nI (st + 4)) (nI_add st 4) ?_
                  refine m_aload_n F rfl e_X10_wordHere_88 ?_
                  refine r_getC F e_X10_wordHere_89 fl_X10_97 h1 (f10985) ?_
                  refine m_icmp_ne F e_X10_wordHere_92 (fun q92 => ?_) (fun q92 => ?_)
                  · have c92 : (st + 4) ≠ P.a := by have hh := mt (nI_eq (a := (st + 4)) (b := P.a) (by omega) (by omega)).mpr q92; omega
                    refine Wm.lvsub (lv' := [(1, .int 3), (2, .int 16), (0, .ref c)]) ?_ [1, 2, 3] rfl
                    exact wk_3 F hQ h1 f20 hB hn7 hsa hpn hl hm (fun hz => by have z1 : P.a = st + 4 := hz.1; omega)
                  · have c92 : (st + 4) = P.a := (nI_eq (a := (st + 4)) (b := P.a) (by omega) (by omega)).mp q92
                    refine m_iload_n F rfl e_X10_wordHere_95 ?_
                    have hz : mw t st P.a 3 := by
                      refine ⟨(show P.a = st + 4 by omega), fun i hi => ?_⟩
                      have hi2 : i = 0 ∨ i = 1 ∨ i = 2 ∨ i = 3 := by have hi3 : i < 4 := hi; omega
                      rcases hi2 with rfl | rfl | rfl | rfl
                      · show t (st + 0) = 102; first | assumption | omega
                      · show t (st + 1) = 97; first | assumption | omega
                      · show t (st + 2) = 105; first | assumption | omega
                      · show t (st + 3) = 114; first | assumption | omega
                    have hy := kix_mw hsa hl (by decide) hz
                    exact m_iret F hQ e_X10_wordHere_96 ⟨h1, Or.inl ⟨hy.1, by rw [hy.2]; decide, by rw [hy.2]; rfl⟩⟩
set_option maxRecDepth 20000 in
theorem wk_2 {V : VX} {X : MX} {N : Nat} {σ : Mem} {c T Z u h : Nat} {P : NP} {L : Nat → LQ} {n st : Nat} {t : Nat → Nat} (F : Fx V X yX10_wordHere cX10_wordHere 4 (some .int) (rmd 4 0 0)) (hQ : Rt V X 0 0 N (fun r τ => HS V c (⟨T, Z, u, h, P, L⟩ : RG) [0, 1, 2, 3, 4, 5, 6, 7, 8, 9, 10, 11, 12, 13, 14, 15, 16, 17, 18, 19, 20, 21, 22, 23] σ τ ∧ ((P.a - st ≤ 6 ∧ kix (nmc t st P.a 6) < 9 ∧ r = some (.int (nI (kix (nmc t st P.a 6))))) ∨ (¬ (P.a - st ≤ 6 ∧ kix (nmc t st P.a 6) < 9) ∧ r = some (.int (-1)))))) (h1 : HS V c ⟨T, Z, u, h, P, L⟩ [0, 1, 2, 3, 4, 5, 6, 7, 8, 9, 10, 11, 12, 13, 14, 15, 16, 17, 18, 19, 20, 21, 22, 23] σ σ) (f20 : fld σ c 20 = some (.int (nI st))) (hB : BR σ c n t) (hn7 : n ≤ 700) (hsa : st < P.a) (hpn : P.a ≤ n) (hl : ∀ i, st ≤ i → i < P.a → isL (t i) = true) (hm : ∀ m, m < 2 → ¬ mw t st P.a m) (hz : ¬ mw t st P.a 2) : Wm V X 4 N σ 0 0 97 [(1, .int 2), (2, .int 10), (0, .ref c)] [] := by
  refine m_ldcS F e_X10_wordHere_97 F.sw.1.2.2 ?_
  refine m_iload_n F rfl e_X10_wordHere_99 ?_
  refine m_callO F e_X10_wordHere_100 (q_charAt (x_l X) V _ _ 10 (by omega)) cb_J0_charAt_5068e ml_X10_137 im_J0_charAt_5068e se_J0_charAt_5068e F.sw.2.2.2.2.2.2.1 rfl (rest := []) rfl (Nat.le_of_ble_eq_true rfl) ⟨Nat.le_of_ble_eq_true rfl, Nat.le_of_ble_eq_true rfl⟩ ⟨Nat.le_of_ble_eq_true rfl, Nat.le_of_ble_eq_true rfl⟩ (k' := 0) (z' := 0) (N' := N) rfl rfl rfl (fun r σ11020 hp => ?_)
  obtain ⟨rfl, rfl⟩ := hp
  refine Wm.topE (w := 101) (by decide) ?_
  refine m_bipush F (v := 32) (by decide) e_X10_wordHere_103 ?_
  refine m_icmp_eq F e_X10_wordHere_105 (fun q => absurd q (by decide)) (fun _ => ?_)
  refine m_iinc F (v := 11) (lv' := [(2, .int 11), (1, .int 2), (0, .ref c)]) e_X10_wordHere_108 rfl (by decide) (by decide) rfl ?_
  refine m_goto F e_X10_wordHere_111 ?_
  refine m_ldcS F e_X10_wordHere_97 F.sw.1.2.2 ?_
  refine m_iload_n F rfl e_X10_wordHere_99 ?_
  refine m_callO F e_X10_wordHere_100 (q_charAt (x_l X) V _ _ 11 (by omega)) cb_J0_charAt_5068e ml_X10_137 im_J0_charAt_5068e se_J0_charAt_5068e F.sw.2.2.2.2.2.2.1 rfl (rest := []) rfl (Nat.le_of_ble_eq_true rfl) ⟨Nat.le_of_ble_eq_true rfl, Nat.le_of_ble_eq_true rfl⟩ ⟨Nat.le_of_ble_eq_true rfl, Nat.le_of_ble_eq_true rfl⟩ (k' := 0) (z' := 0) (N' := N) rfl rfl rfl (fun r σ11021 hp => ?_)
  obtain ⟨rfl, rfl⟩ := hp
  refine Wm.topE (w := 97) (by decide) ?_
  refine m_bipush F (v := 32) (by decide) e_X10_wordHere_103 ?_
  refine m_icmp_eq F e_X10_wordHere_105 (fun q => absurd q (by decide)) (fun _ => ?_)
  refine m_iinc F (v := 12) (lv' := [(2, .int 12), (1, .int 2), (0, .ref c)]) e_X10_wordHere_108 rfl (by decide) (by decide) rfl ?_
  refine m_goto F e_X10_wordHere_111 ?_
  refine m_ldcS F e_X10_wordHere_97 F.sw.1.2.2 ?_
  refine m_iload_n F rfl e_X10_wordHere_99 ?_
  refine m_callO F e_X10_wordHere_100 (q_charAt (x_l X) V _ _ 12 (by omega)) cb_J0_charAt_5068e ml_X10_137 im_J0_charAt_5068e se_J0_charAt_5068e F.sw.2.2.2.2.2.2.1 rfl (rest := []) rfl (Nat.le_of_ble_eq_true rfl) ⟨Nat.le_of_ble_eq_true rfl, Nat.le_of_ble_eq_true rfl⟩ ⟨Nat.le_of_ble_eq_true rfl, Nat.le_of_ble_eq_true rfl⟩ (k' := 0) (z' := 0) (N' := N) rfl rfl rfl (fun r σ11022 hp => ?_)
  obtain ⟨rfl, rfl⟩ := hp
  refine Wm.topE (w := 114) (by decide) ?_
  refine m_bipush F (v := 32) (by decide) e_X10_wordHere_103 ?_
  refine m_icmp_eq F e_X10_wordHere_105 (fun q => absurd q (by decide)) (fun _ => ?_)
  refine m_iinc F (v := 13) (lv' := [(2, .int 13), (1, .int 2), (0, .ref c)]) e_X10_wordHere_108 rfl (by decide) (by decide) rfl ?_
  refine m_goto F e_X10_wordHere_111 ?_
  refine m_ldcS F e_X10_wordHere_97 F.sw.1.2.2 ?_
  refine m_iload_n F rfl e_X10_wordHere_99 ?_
  refine m_callO F e_X10_wordHere_100 (q_charAt (x_l X) V _ _ 13 (by omega)) cb_J0_charAt_5068e ml_X10_137 im_J0_charAt_5068e se_J0_charAt_5068e F.sw.2.2.2.2.2.2.1 rfl (rest := []) rfl (Nat.le_of_ble_eq_true rfl) ⟨Nat.le_of_ble_eq_true rfl, Nat.le_of_ble_eq_true rfl⟩ ⟨Nat.le_of_ble_eq_true rfl, Nat.le_of_ble_eq_true rfl⟩ (k' := 0) (z' := 0) (N' := N) rfl rfl rfl (fun r σ11023 hp => ?_)
  obtain ⟨rfl, rfl⟩ := hp
  refine Wm.topE (w := 108) (by decide) ?_
  refine m_bipush F (v := 32) (by decide) e_X10_wordHere_103 ?_
  refine m_icmp_eq F e_X10_wordHere_105 (fun q => absurd q (by decide)) (fun _ => ?_)
  refine m_iinc F (v := 14) (lv' := [(2, .int 14), (1, .int 2), (0, .ref c)]) e_X10_wordHere_108 rfl (by decide) (by decide) rfl ?_
  refine m_goto F e_X10_wordHere_111 ?_
  refine m_ldcS F e_X10_wordHere_97 F.sw.1.2.2 ?_
  refine m_iload_n F rfl e_X10_wordHere_99 ?_
  refine m_callO F e_X10_wordHere_100 (q_charAt (x_l X) V _ _ 14 (by omega)) cb_J0_charAt_5068e ml_X10_137 im_J0_charAt_5068e se_J0_charAt_5068e F.sw.2.2.2.2.2.2.1 rfl (rest := []) rfl (Nat.le_of_ble_eq_true rfl) ⟨Nat.le_of_ble_eq_true rfl, Nat.le_of_ble_eq_true rfl⟩ ⟨Nat.le_of_ble_eq_true rfl, Nat.le_of_ble_eq_true rfl⟩ (k' := 0) (z' := 0) (N' := N) rfl rfl rfl (fun r σ11024 hp => ?_)
  obtain ⟨rfl, rfl⟩ := hp
  refine Wm.topE (w := 121) (by decide) ?_
  refine m_bipush F (v := 32) (by decide) e_X10_wordHere_103 ?_
  refine m_icmp_eq F e_X10_wordHere_105 (fun q => absurd q (by decide)) (fun _ => ?_)
  refine m_iinc F (v := 15) (lv' := [(2, .int 15), (1, .int 2), (0, .ref c)]) e_X10_wordHere_108 rfl (by decide) (by decide) rfl ?_
  refine m_goto F e_X10_wordHere_111 ?_
  refine m_ldcS F e_X10_wordHere_97 F.sw.1.2.2 ?_
  refine m_iload_n F rfl e_X10_wordHere_99 ?_
  refine m_callO F e_X10_wordHere_100 (q_charAt (x_l X) V _ _ 15 (by omega)) cb_J0_charAt_5068e ml_X10_137 im_J0_charAt_5068e se_J0_charAt_5068e F.sw.2.2.2.2.2.2.1 rfl (rest := []) rfl (Nat.le_of_ble_eq_true rfl) ⟨Nat.le_of_ble_eq_true rfl, Nat.le_of_ble_eq_true rfl⟩ ⟨Nat.le_of_ble_eq_true rfl, Nat.le_of_ble_eq_true rfl⟩ (k' := 0) (z' := 0) (N' := N) rfl rfl rfl (fun r σ11025 hp => ?_)
  obtain ⟨rfl, rfl⟩ := hp
  refine Wm.topE (w := 32) (by decide) ?_
  refine m_bipush F (v := 32) (by decide) e_X10_wordHere_103 ?_
  refine m_icmp_eq F e_X10_wordHere_105 (fun _ => ?_) (fun q => absurd (by decide) q)
  refine m_iinc F (v := 16) (lv' := [(2, .int 16), (1, .int 2), (0, .ref c)]) e_X10_wordHere_114 rfl (by decide) (by decide) rfl ?_
  refine m_iinc F (v := 3) (lv' := [(1, .int 3), (2, .int 16), (0, .ref c)]) e_X10_wordHere_117 rfl (by decide) (by decide) rfl ?_
  refine m_goto F e_X10_wordHere_120 ?_
  exact wh_3 F hQ h1 f20 hB hn7 hsa hpn hl (fun m9 h9 => if e9 : m9 = 2 then e9 ▸ hz else hm m9 (by omega))
set_option maxRecDepth 20000 in
theorem wh_2 {V : VX} {X : MX} {N : Nat} {σ : Mem} {c T Z u h : Nat} {P : NP} {L : Nat → LQ} {n st : Nat} {t : Nat → Nat} (F : Fx V X yX10_wordHere cX10_wordHere 4 (some .int) (rmd 4 0 0)) (hQ : Rt V X 0 0 N (fun r τ => HS V c (⟨T, Z, u, h, P, L⟩ : RG) [0, 1, 2, 3, 4, 5, 6, 7, 8, 9, 10, 11, 12, 13, 14, 15, 16, 17, 18, 19, 20, 21, 22, 23] σ τ ∧ ((P.a - st ≤ 6 ∧ kix (nmc t st P.a 6) < 9 ∧ r = some (.int (nI (kix (nmc t st P.a 6))))) ∨ (¬ (P.a - st ≤ 6 ∧ kix (nmc t st P.a 6) < 9) ∧ r = some (.int (-1)))))) (h1 : HS V c ⟨T, Z, u, h, P, L⟩ [0, 1, 2, 3, 4, 5, 6, 7, 8, 9, 10, 11, 12, 13, 14, 15, 16, 17, 18, 19, 20, 21, 22, 23] σ σ) (f20 : fld σ c 20 = some (.int (nI st))) (hB : BR σ c n t) (hn7 : n ≤ 700) (hsa : st < P.a) (hpn : P.a ≤ n) (hl : ∀ i, st ≤ i → i < P.a → isL (t i) = true) (hm : ∀ m, m < 2 → ¬ mw t st P.a m) : Wm V X 4 N σ 0 0 4 [(1, .int 2), (2, .int 10), (0, .ref c)] [] := by
  refine m_iload_n F rfl e_X10_wordHere_4 ?_
  refine m_ldcS F e_X10_wordHere_5 F.sw.1.2.2 ?_
  refine m_callO F e_X10_wordHere_7 (q_length (x_l X) V _ _) cb_J0_length_8abf5 ml_X10_132 im_J0_length_8abf5 se_J0_length_8abf5 F.sw.2.2.2.2.2.2.1 rfl (rest := [.int 10]) rfl (Nat.le_of_ble_eq_true rfl) ⟨Nat.le_of_ble_eq_true rfl, Nat.le_of_ble_eq_true rfl⟩ ⟨Nat.le_of_ble_eq_true rfl, Nat.le_of_ble_eq_true rfl⟩ (k' := 0) (z' := 0) (N' := N) rfl rfl rfl (fun r σ11026 hp => ?_)
  obtain ⟨rfl, rfl⟩ := hp
  refine m_icmp_ge F e_X10_wordHere_10 (fun q => absurd q (by decide)) (fun _ => ?_)
  refine m_iconst F (v := 0) (by decide) e_X10_wordHere_13 ?_
  refine m_istore_n F (lv' := [(3, .int 0), (1, .int 2), (2, .int 10), (0, .ref c)]) e_X10_wordHere_14 (by decide) rfl ?_
  refine m_ldcS F e_X10_wordHere_15 F.sw.1.2.2 ?_
  refine m_iload_n F rfl e_X10_wordHere_17 ?_
  refine m_iload_n F rfl e_X10_wordHere_18 ?_
  refine m_iadd F e_X10_wordHere_19 ?_
  refine Wm.topE (w := 10) (by decide) ?_
  refine m_callO F e_X10_wordHere_20 (q_charAt (x_l X) V _ _ 10 (by omega)) cb_J0_charAt_5068e ml_X10_137 im_J0_charAt_5068e se_J0_charAt_5068e F.sw.2.2.2.2.2.2.1 rfl (rest := []) rfl (Nat.le_of_ble_eq_true rfl) ⟨Nat.le_of_ble_eq_true rfl, Nat.le_of_ble_eq_true rfl⟩ ⟨Nat.le_of_ble_eq_true rfl, Nat.le_of_ble_eq_true rfl⟩ (k' := 0) (z' := 0) (N' := N) rfl rfl rfl (fun r σ11027 hp => ?_)
  obtain ⟨rfl, rfl⟩ := hp
  refine Wm.topE (w := 101) (by decide) ?_
  refine m_bipush F (v := 32) (by decide) e_X10_wordHere_23 ?_
  refine m_icmp_eq F e_X10_wordHere_25 (fun q => absurd q (by decide)) (fun _ => ?_)
  refine m_aload_n F rfl e_X10_wordHere_28 ?_
  refine r_getC F e_X10_wordHere_29 fl_X10_107 h1 (f20) ?_
  refine m_iload_n F rfl e_X10_wordHere_32 ?_
  refine m_iadd F e_X10_wordHere_33 ?_
  refine Wm.topE (w := nI st) (nI_add st 0) ?_
  refine m_aload_n F rfl e_X10_wordHere_34 ?_
  refine r_get F e_X10_wordHere_35 fl_X10_97 h1 rfl (fun v hv f11028 => ?_)
  obtain rfl : v = .int (nI (P.a)) := hv
  refine m_icmp_ge F e_X10_wordHere_38 (fun q38 => ?_) (fun q38 => ?_)
  · have c38 : st ≥ P.a := (nI_leI (a := P.a) (b := st) (by omega) (by omega)).mp q38
    refine m_ldcS F e_X10_wordHere_69 F.sw.1.2.2 ?_
    refine m_iload_n F rfl e_X10_wordHere_71 ?_
    refine m_iload_n F rfl e_X10_wordHere_72 ?_
    refine m_iadd F e_X10_wordHere_73 ?_
    refine Wm.topE (w := 10) (by decide) ?_
    refine m_callO F e_X10_wordHere_74 (q_charAt (x_l X) V _ _ 10 (by omega)) cb_J0_charAt_5068e ml_X10_137 im_J0_charAt_5068e se_J0_charAt_5068e F.sw.2.2.2.2.2.2.1 rfl (rest := []) rfl (Nat.le_of_ble_eq_true rfl) ⟨Nat.le_of_ble_eq_true rfl, Nat.le_of_ble_eq_true rfl⟩ ⟨Nat.le_of_ble_eq_true rfl, Nat.le_of_ble_eq_true rfl⟩ (k' := 0) (z' := 0) (N' := N) rfl rfl rfl (fun r σ11029 hp => ?_)
    obtain ⟨rfl, rfl⟩ := hp
    refine Wm.topE (w := 101) (by decide) ?_
    refine m_bipush F (v := 32) (by decide) e_X10_wordHere_77 ?_
    refine m_icmp_ne F e_X10_wordHere_79 (fun _ => ?_) (fun q => absurd q (by decide))
    refine Wm.lvsub (lv' := [(1, .int 2), (2, .int 10), (0, .ref c)]) ?_ [1, 2, 3] rfl
    exact wk_2 F hQ h1 f20 hB hn7 hsa hpn hl hm (fun hz => by have z1 : P.a = st + 5 := hz.1; have z2 : t (st) = 101 := hz.2 0 (by decide); omega)
  · have c38 : st < P.a := by have hh := mt (nI_leI (a := P.a) (b := st) (by omega) (by omega)).mpr q38; omega
    refine m_aload_n F rfl e_X10_wordHere_41 ?_
    refine r_get F e_X10_wordHere_42 fl_X10_7 h1 rfl (fun v hv f11030 => ?_)
    obtain rfl : v = .ref (c + 1) := hv
    refine m_aload_n F rfl e_X10_wordHere_45 ?_
    refine r_getC F e_X10_wordHere_46 fl_X10_107 h1 (f20) ?_
    refine m_iload_n F rfl e_X10_wordHere_49 ?_
    refine m_iadd F e_X10_wordHere_50 ?_
    refine Wm.topE (w := nI st) (nI_add st 0) ?_
    have hb11031 := (hB st (by omega)).1
    refine r_iald F (len := 700) (j := st) e_X10_wordHere_51 h1 (fun _ h => h) (by decide) (nI_clamp (by omega)) (vp_in_nI (by omega) (by decide)) (fun x11032 h11033 f11034 => ?_)
    obtain rfl := Option.some.inj ((f11034).symm.trans ((hB st (by omega)).2))
    refine m_ldcS F e_X10_wordHere_52 F.sw.1.2.2 ?_
    refine m_iload_n F rfl e_X10_wordHere_54 ?_
    refine m_iload_n F rfl e_X10_wordHere_55 ?_
    refine m_iadd F e_X10_wordHere_56 ?_
    refine Wm.topE (w := 10) (by decide) ?_
    refine m_callO F e_X10_wordHere_57 (q_charAt (x_l X) V _ _ 10 (by omega)) cb_J0_charAt_5068e ml_X10_137 im_J0_charAt_5068e se_J0_charAt_5068e F.sw.2.2.2.2.2.2.1 rfl (rest := [.int (nI (t st))]) rfl (Nat.le_of_ble_eq_true rfl) ⟨Nat.le_of_ble_eq_true rfl, Nat.le_of_ble_eq_true rfl⟩ ⟨Nat.le_of_ble_eq_true rfl, Nat.le_of_ble_eq_true rfl⟩ (k' := 0) (z' := 0) (N' := N) rfl rfl rfl (fun r σ11035 hp => ?_)
    obtain ⟨rfl, rfl⟩ := hp
    refine Wm.topE (w := 101) (by decide) ?_
    refine m_icmp_ne F e_X10_wordHere_60 (fun q60 => ?_) (fun q60 => ?_)
    · have c60 : (t st) ≠ 101 := by have hh := mt (nI_eq (a := (t st)) (b := 101) (by omega) (by omega)).mpr q60; omega
      refine m_ldcS F e_X10_wordHere_69 F.sw.1.2.2 ?_
      refine m_iload_n F rfl e_X10_wordHere_71 ?_
      refine m_iload_n F rfl e_X10_wordHere_72 ?_
      refine m_iadd F e_X10_wordHere_73 ?_
      refine Wm.topE (w := 10) (by decide) ?_
      refine m_callO F e_X10_wordHere_74 (q_charAt (x_l X) V _ _ 10 (by omega)) cb_J0_charAt_5068e ml_X10_137 im_J0_charAt_5068e se_J0_charAt_5068e F.sw.2.2.2.2.2.2.1 rfl (rest := []) rfl (Nat.le_of_ble_eq_true rfl) ⟨Nat.le_of_ble_eq_true rfl, Nat.le_of_ble_eq_true rfl⟩ ⟨Nat.le_of_ble_eq_true rfl, Nat.le_of_ble_eq_true rfl⟩ (k' := 0) (z' := 0) (N' := N) rfl rfl rfl (fun r σ11036 hp => ?_)
      obtain ⟨rfl, rfl⟩ := hp
      refine Wm.topE (w := 101) (by decide) ?_
      refine m_bipush F (v := 32) (by decide) e_X10_wordHere_77 ?_
      refine m_icmp_ne F e_X10_wordHere_79 (fun _ => ?_) (fun q => absurd q (by decide))
      refine Wm.lvsub (lv' := [(1, .int 2), (2, .int 10), (0, .ref c)]) ?_ [1, 2, 3] rfl
      exact wk_2 F hQ h1 f20 hB hn7 hsa hpn hl hm (fun hz => by have z1 : P.a = st + 5 := hz.1; have z2 : t (st) = 101 := hz.2 0 (by decide); omega)
    · have c60 : (t st) = 101 := (nI_eq (a := (t st)) (b := 101) (by omega) (by omega)).mp q60
      refine m_iinc F (v := 1) (lv' := [(3, .int 1), (1, .int 2), (2, .int 10), (0, .ref c)]) e_X10_wordHere_63 rfl (by decide) (by decide) rfl ?_
      refine m_goto F e_X10_wordHere_66 ?_
      refine m_ldcS F e_X10_wordHere_15 F.sw.1.2.2 ?_
      refine m_iload_n F rfl e_X10_wordHere_17 ?_
      refine m_iload_n F rfl e_X10_wordHere_18 ?_
      refine m_iadd F e_X10_wordHere_19 ?_
      refine Wm.topE (w := 11) (by decide) ?_
      refine m_callO F e_X10_wordHere_20 (q_charAt (x_l X) V _ _ 11 (by omega)) cb_J0_charAt_5068e ml_X10_137 im_J0_charAt_5068e se_J0_charAt_5068e F.sw.2.2.2.2.2.2.1 rfl (rest := []) rfl (Nat.le_of_ble_eq_true rfl) ⟨Nat.le_of_ble_eq_true rfl, Nat.le_of_ble_eq_true rfl⟩ ⟨Nat.le_of_ble_eq_true rfl, Nat.le_of_ble_eq_true rfl⟩ (k' := 0) (z' := 0) (N' := N) rfl rfl rfl (fun r σ11037 hp => ?_)
      obtain ⟨rfl, rfl⟩ := hp
      refine Wm.topE (w := 97) (by decide) ?_
      refine m_bipush F (v := 32) (by decide) e_X10_wordHere_23 ?_
      refine m_icmp_eq F e_X10_wordHere_25 (fun q => absurd q (by decide)) (fun _ => ?_)
      refine m_aload_n F rfl e_X10_wordHere_28 ?_
      refine r_getC F e_X10_wordHere_29 fl_X10_107 h1 (f20) ?_
      refine m_iload_n F rfl e_X10_wordHere_32 ?_
      refine m_iadd F e_X10_wordHere_33 ?_
      refine Wm.topE (w := nI (st + 1)) (nI_add st 1) ?_
      refine m_aload_n F rfl e_X10_wordHere_34 ?_
      refine r_getC F e_X10_wordHere_35 fl_X10_97 h1 (f11028) ?_
      refine m_icmp_ge F e_X10_wordHere_38 (fun q38 => ?_) (fun q38 => ?_)
      · have c38 : (st + 1) ≥ P.a := (nI_leI (a := P.a) (b := (st + 1)) (by omega) (by omega)).mp q38
        refine m_ldcS F e_X10_wordHere_69 F.sw.1.2.2 ?_
        refine m_iload_n F rfl e_X10_wordHere_71 ?_
        refine m_iload_n F rfl e_X10_wordHere_72 ?_
        refine m_iadd F e_X10_wordHere_73 ?_
        refine Wm.topE (w := 11) (by decide) ?_
        refine m_callO F e_X10_wordHere_74 (q_charAt (x_l X) V _ _ 11 (by omega)) cb_J0_charAt_5068e ml_X10_137 im_J0_charAt_5068e se_J0_charAt_5068e F.sw.2.2.2.2.2.2.1 rfl (rest := []) rfl (Nat.le_of_ble_eq_true rfl) ⟨Nat.le_of_ble_eq_true rfl, Nat.le_of_ble_eq_true rfl⟩ ⟨Nat.le_of_ble_eq_true rfl, Nat.le_of_ble_eq_true rfl⟩ (k' := 0) (z' := 0) (N' := N) rfl rfl rfl (fun r σ11038 hp => ?_)
        obtain ⟨rfl, rfl⟩ := hp
        refine Wm.topE (w := 97) (by decide) ?_
        refine m_bipush F (v := 32) (by decide) e_X10_wordHere_77 ?_
        refine m_icmp_ne F e_X10_wordHere_79 (fun _ => ?_) (fun q => absurd q (by decide))
        refine Wm.lvsub (lv' := [(1, .int 2), (2, .int 10), (0, .ref c)]) ?_ [1, 2, 3] rfl
        exact wk_2 F hQ h1 f20 hB hn7 hsa hpn hl hm (fun hz => by have z1 : P.a = st + 5 := hz.1; have z2 : t (st + 1) = 97 := hz.2 1 (by decide); omega)
      · have c38 : (st + 1) < P.a := by have hh := mt (nI_leI (a := P.a) (b := (st + 1)) (by omega) (by omega)).mpr q38; omega
        refine m_aload_n F rfl e_X10_wordHere_41 ?_
        refine r_getC F e_X10_wordHere_42 fl_X10_7 h1 (f11030) ?_
        refine m_aload_n F rfl e_X10_wordHere_45 ?_
        refine r_getC F e_X10_wordHere_46 fl_X10_107 h1 (f20) ?_
        refine m_iload_n F rfl e_X10_wordHere_49 ?_
        refine m_iadd F e_X10_wordHere_50 ?_
        refine Wm.topE (w := nI (st + 1)) (nI_add st 1) ?_
        have hb11039 := (hB (st + 1) (by omega)).1
        refine r_iald F (len := 700) (j := st + 1) e_X10_wordHere_51 h1 (fun _ h => h) (by decide) (nI_clamp (by omega)) (vp_in_nI (by omega) (by decide)) (fun x11040 h11041 f11042 => ?_)
        obtain rfl := Option.some.inj ((f11042).symm.trans ((hB (st + 1) (by omega)).2))
        refine m_ldcS F e_X10_wordHere_52 F.sw.1.2.2 ?_
        refine m_iload_n F rfl e_X10_wordHere_54 ?_
        refine m_iload_n F rfl e_X10_wordHere_55 ?_
        refine m_iadd F e_X10_wordHere_56 ?_
        refine Wm.topE (w := 11) (by decide) ?_
        refine m_callO F e_X10_wordHere_57 (q_charAt (x_l X) V _ _ 11 (by omega)) cb_J0_charAt_5068e ml_X10_137 im_J0_charAt_5068e se_J0_charAt_5068e F.sw.2.2.2.2.2.2.1 rfl (rest := [.int (nI (t (st + 1)))]) rfl (Nat.le_of_ble_eq_true rfl) ⟨Nat.le_of_ble_eq_true rfl, Nat.le_of_ble_eq_true rfl⟩ ⟨Nat.le_of_ble_eq_true rfl, Nat.le_of_ble_eq_true rfl⟩ (k' := 0) (z' := 0) (N' := N) rfl rfl rfl (fun r σ11043 hp => ?_)
        obtain ⟨rfl, rfl⟩ := hp
        refine Wm.topE (w := 97) (by decide) ?_
        refine m_icmp_ne F e_X10_wordHere_60 (fun q60 => ?_) (fun q60 => ?_)
        · have c60 : (t (st + 1)) ≠ 97 := by have hh := mt (nI_eq (a := (t (st + 1))) (b := 97) (by omega) (by omega)).mpr q60; omega
          refine m_ldcS F e_X10_wordHere_69 F.sw.1.2.2 ?_
          refine m_iload_n F rfl e_X10_wordHere_71 ?_
          refine m_iload_n F rfl e_X10_wordHere_72 ?_
          refine m_iadd F e_X10_wordHere_73 ?_
          refine Wm.topE (w := 11) (by decide) ?_
          refine m_callO F e_X10_wordHere_74 (q_charAt (x_l X) V _ _ 11 (by omega)) cb_J0_charAt_5068e ml_X10_137 im_J0_charAt_5068e se_J0_charAt_5068e F.sw.2.2.2.2.2.2.1 rfl (rest := []) rfl (Nat.le_of_ble_eq_true rfl) ⟨Nat.le_of_ble_eq_true rfl, Nat.le_of_ble_eq_true rfl⟩ ⟨Nat.le_of_ble_eq_true rfl, Nat.le_of_ble_eq_true rfl⟩ (k' := 0) (z' := 0) (N' := N) rfl rfl rfl (fun r σ11044 hp => ?_)
          obtain ⟨rfl, rfl⟩ := hp
          refine Wm.topE (w := 97) (by decide) ?_
          refine m_bipush F (v := 32) (by decide) e_X10_wordHere_77 ?_
          refine m_icmp_ne F e_X10_wordHere_79 (fun _ => ?_) (fun q => absurd q (by decide))
          refine Wm.lvsub (lv' := [(1, .int 2), (2, .int 10), (0, .ref c)]) ?_ [1, 2, 3] rfl
          exact wk_2 F hQ h1 f20 hB hn7 hsa hpn hl hm (fun hz => by have z1 : P.a = st + 5 := hz.1; have z2 : t (st + 1) = 97 := hz.2 1 (by decide); omega)
        · have c60 : (t (st + 1)) = 97 := (nI_eq (a := (t (st + 1))) (b := 97) (by omega) (by omega)).mp q60
          refine m_iinc F (v := 2) (lv' := [(3, .int 2), (1, .int 2), (2, .int 10), (0, .ref c)]) e_X10_wordHere_63 rfl (by decide) (by decide) rfl ?_
          refine m_goto F e_X10_wordHere_66 ?_
          refine m_ldcS F e_X10_wordHere_15 F.sw.1.2.2 ?_
          refine m_iload_n F rfl e_X10_wordHere_17 ?_
          refine m_iload_n F rfl e_X10_wordHere_18 ?_
          refine m_iadd F e_X10_wordHere_19 ?_
          refine Wm.topE (w := 12) (by decide) ?_
          refine m_callO F e_X10_wordHere_20 (q_charAt (x_l X) V _ _ 12 (by omega)) cb_J0_charAt_5068e ml_X10_137 im_J0_charAt_5068e se_J0_charAt_5068e F.sw.2.2.2.2.2.2.1 rfl (rest := []) rfl (Nat.le_of_ble_eq_true rfl) ⟨Nat.le_of_ble_eq_true rfl, Nat.le_of_ble_eq_true rfl⟩ ⟨Nat.le_of_ble_eq_true rfl, Nat.le_of_ble_eq_true rfl⟩ (k' := 0) (z' := 0) (N' := N) rfl rfl rfl (fun r σ11045 hp => ?_)
          obtain ⟨rfl, rfl⟩ := hp
          refine Wm.topE (w := 114) (by decide) ?_
          refine m_bipush F (v := 32) (by decide) e_X10_wordHere_23 ?_
          refine m_icmp_eq F e_X10_wordHere_25 (fun q => absurd q (by decide)) (fun _ => ?_)
          refine m_aload_n F rfl e_X10_wordHere_28 ?_
          refine r_getC F e_X10_wordHere_29 fl_X10_107 h1 (f20) ?_
          refine m_iload_n F rfl e_X10_wordHere_32 ?_
          refine m_iadd F e_X10_wordHere_33 ?_
          refine Wm.topE (w := nI (st + 2)) (nI_add st 2) ?_
          refine m_aload_n F rfl e_X10_wordHere_34 ?_
          refine r_getC F e_X10_wordHere_35 fl_X10_97 h1 (f11028) ?_
          refine m_icmp_ge F e_X10_wordHere_38 (fun q38 => ?_) (fun q38 => ?_)
          · have c38 : (st + 2) ≥ P.a := (nI_leI (a := P.a) (b := (st + 2)) (by omega) (by omega)).mp q38
            refine m_ldcS F e_X10_wordHere_69 F.sw.1.2.2 ?_
            refine m_iload_n F rfl e_X10_wordHere_71 ?_
            refine m_iload_n F rfl e_X10_wordHere_72 ?_
            refine m_iadd F e_X10_wordHere_73 ?_
            refine Wm.topE (w := 12) (by decide) ?_
            refine m_callO F e_X10_wordHere_74 (q_charAt (x_l X) V _ _ 12 (by omega)) cb_J0_charAt_5068e ml_X10_137 im_J0_charAt_5068e se_J0_charAt_5068e F.sw.2.2.2.2.2.2.1 rfl (rest := []) rfl (Nat.le_of_ble_eq_true rfl) ⟨Nat.le_of_ble_eq_true rfl, Nat.le_of_ble_eq_true rfl⟩ ⟨Nat.le_of_ble_eq_true rfl, Nat.le_of_ble_eq_true rfl⟩ (k' := 0) (z' := 0) (N' := N) rfl rfl rfl (fun r σ11046 hp => ?_)
            obtain ⟨rfl, rfl⟩ := hp
            refine Wm.topE (w := 114) (by decide) ?_
            refine m_bipush F (v := 32) (by decide) e_X10_wordHere_77 ?_
            refine m_icmp_ne F e_X10_wordHere_79 (fun _ => ?_) (fun q => absurd q (by decide))
            refine Wm.lvsub (lv' := [(1, .int 2), (2, .int 10), (0, .ref c)]) ?_ [1, 2, 3] rfl
            exact wk_2 F hQ h1 f20 hB hn7 hsa hpn hl hm (fun hz => by have z1 : P.a = st + 5 := hz.1; have z2 : t (st + 2) = 114 := hz.2 2 (by decide); omega)
          · have c38 : (st + 2) < P.a := by have hh := mt (nI_leI (a := P.a) (b := (st + 2)) (by omega) (by omega)).mpr q38; omega
            refine m_aload_n F rfl e_X10_wordHere_41 ?_
            refine r_getC F e_X10_wordHere_42 fl_X10_7 h1 (f11030) ?_
            refine m_aload_n F rfl e_X10_wordHere_45 ?_
            refine r_getC F e_X10_wordHere_46 fl_X10_107 h1 (f20) ?_
            refine m_iload_n F rfl e_X10_wordHere_49 ?_
            refine m_iadd F e_X10_wordHere_50 ?_
            refine Wm.topE (w := nI (st + 2)) (nI_add st 2) ?_
            have hb11047 := (hB (st + 2) (by omega)).1
            refine r_iald F (len := 700) (j := st + 2) e_X10_wordHere_51 h1 (fun _ h => h) (by decide) (nI_clamp (by omega)) (vp_in_nI (by omega) (by decide)) (fun x11048 h11049 f11050 => ?_)
            obtain rfl := Option.some.inj ((f11050).symm.trans ((hB (st + 2) (by omega)).2))
            refine m_ldcS F e_X10_wordHere_52 F.sw.1.2.2 ?_
            refine m_iload_n F rfl e_X10_wordHere_54 ?_
            refine m_iload_n F rfl e_X10_wordHere_55 ?_
            refine m_iadd F e_X10_wordHere_56 ?_
            refine Wm.topE (w := 12) (by decide) ?_
            refine m_callO F e_X10_wordHere_57 (q_charAt (x_l X) V _ _ 12 (by omega)) cb_J0_charAt_5068e ml_X10_137 im_J0_charAt_5068e se_J0_charAt_5068e F.sw.2.2.2.2.2.2.1 rfl (rest := [.int (nI (t (st + 2)))]) rfl (Nat.le_of_ble_eq_true rfl) ⟨Nat.le_of_ble_eq_true rfl, Nat.le_of_ble_eq_true rfl⟩ ⟨Nat.le_of_ble_eq_true rfl, Nat.le_of_ble_eq_true rfl⟩ (k' := 0) (z' := 0) (N' := N) rfl rfl rfl (fun r σ11051 hp => ?_)
            obtain ⟨rfl, rfl⟩ := hp
            refine Wm.topE (w := 114) (by decide) ?_
            refine m_icmp_ne F e_X10_wordHere_60 (fun q60 => ?_) (fun q60 => ?_)
            · have c60 : (t (st + 2)) ≠ 114 := by have hh := mt (nI_eq (a := (t (st + 2))) (b := 114) (by omega) (by omega)).mpr q60; omega
              refine m_ldcS F e_X10_wordHere_69 F.sw.1.2.2 ?_
              refine m_iload_n F rfl e_X10_wordHere_71 ?_
              refine m_iload_n F rfl e_X10_wordHere_72 ?_
              refine m_iadd F e_X10_wordHere_73 ?_
              refine Wm.topE (w := 12) (by decide) ?_
              refine m_callO F e_X10_wordHere_74 (q_charAt (x_l X) V _ _ 12 (by omega)) cb_J0_charAt_5068e ml_X10_137 im_J0_charAt_5068e se_J0_charAt_5068e F.sw.2.2.2.2.2.2.1 rfl (rest := []) rfl (Nat.le_of_ble_eq_true rfl) ⟨Nat.le_of_ble_eq_true rfl, Nat.le_of_ble_eq_true rfl⟩ ⟨Nat.le_of_ble_eq_true rfl, Nat.le_of_ble_eq_true rfl⟩ (k' := 0) (z' := 0) (N' := N) rfl rfl rfl (fun r σ11052 hp => ?_)
              obtain ⟨rfl, rfl⟩ := hp
              refine Wm.topE (w := 114) (by decide) ?_
              refine m_bipush F (v := 32) (by decide) e_X10_wordHere_77 ?_
              refine m_icmp_ne F e_X10_wordHere_79 (fun _ => ?_) (fun q => absurd q (by decide))
              refine Wm.lvsub (lv' := [(1, .int 2), (2, .int 10), (0, .ref c)]) ?_ [1, 2, 3] rfl
              exact wk_2 F hQ h1 f20 hB hn7 hsa hpn hl hm (fun hz => by have z1 : P.a = st + 5 := hz.1; have z2 : t (st + 2) = 114 := hz.2 2 (by decide); omega)
            · have c60 : (t (st + 2)) = 114 := (nI_eq (a := (t (st + 2))) (b := 114) (by omega) (by omega)).mp q60
              refine m_iinc F (v := 3) (lv' := [(3, .int 3), (1, .int 2), (2, .int 10), (0, .ref c)]) e_X10_wordHere_63 rfl (by decide) (by decide) rfl ?_
              refine m_goto F e_X10_wordHere_66 ?_
              refine m_ldcS F e_X10_wordHere_15 F.sw.1.2.2 ?_
              refine m_iload_n F rfl e_X10_wordHere_17 ?_
              refine m_iload_n F rfl e_X10_wordHere_18 ?_
              refine m_iadd F e_X10_wordHere_19 ?_
              refine Wm.topE (w := 13) (by decide) ?_
              refine m_callO F e_X10_wordHere_20 (q_charAt (x_l X) V _ _ 13 (by omega)) cb_J0_charAt_5068e ml_X10_137 im_J0_charAt_5068e se_J0_charAt_5068e F.sw.2.2.2.2.2.2.1 rfl (rest := []) rfl (Nat.le_of_ble_eq_true rfl) ⟨Nat.le_of_ble_eq_true rfl, Nat.le_of_ble_eq_true rfl⟩ ⟨Nat.le_of_ble_eq_true rfl, Nat.le_of_ble_eq_true rfl⟩ (k' := 0) (z' := 0) (N' := N) rfl rfl rfl (fun r σ11053 hp => ?_)
              obtain ⟨rfl, rfl⟩ := hp
              refine Wm.topE (w := 108) (by decide) ?_
              refine m_bipush F (v := 32) (by decide) e_X10_wordHere_23 ?_
              refine m_icmp_eq F e_X10_wordHere_25 (fun q => absurd q (by decide)) (fun _ => ?_)
              refine m_aload_n F rfl e_X10_wordHere_28 ?_
              refine r_getC F e_X10_wordHere_29 fl_X10_107 h1 (f20) ?_
              refine m_iload_n F rfl e_X10_wordHere_32 ?_
              refine m_iadd F e_X10_wordHere_33 ?_
              refine Wm.topE (w := nI (st + 3)) (nI_add st 3) ?_
              refine m_aload_n F rfl e_X10_wordHere_34 ?_
              refine r_getC F e_X10_wordHere_35 fl_X10_97 h1 (f11028) ?_
              refine m_icmp_ge F e_X10_wordHere_38 (fun q38 => ?_) (fun q38 => ?_)
              · have c38 : (st + 3) ≥ P.a := (nI_leI (a := P.a) (b := (st + 3)) (by omega) (by omega)).mp q38
                refine m_ldcS F e_X10_wordHere_69 F.sw.1.2.2 ?_
                refine m_iload_n F rfl e_X10_wordHere_71 ?_
                refine m_iload_n F rfl e_X10_wordHere_72 ?_
                refine m_iadd F e_X10_wordHere_73 ?_
                refine Wm.topE (w := 13) (by decide) ?_
                refine m_callO F e_X10_wordHere_74 (q_charAt (x_l X) V _ _ 13 (by omega)) cb_J0_charAt_5068e ml_X10_137 im_J0_charAt_5068e se_J0_charAt_5068e F.sw.2.2.2.2.2.2.1 rfl (rest := []) rfl (Nat.le_of_ble_eq_true rfl) ⟨Nat.le_of_ble_eq_true rfl, Nat.le_of_ble_eq_true rfl⟩ ⟨Nat.le_of_ble_eq_true rfl, Nat.le_of_ble_eq_true rfl⟩ (k' := 0) (z' := 0) (N' := N) rfl rfl rfl (fun r σ11054 hp => ?_)
                obtain ⟨rfl, rfl⟩ := hp
                refine Wm.topE (w := 108) (by decide) ?_
                refine m_bipush F (v := 32) (by decide) e_X10_wordHere_77 ?_
                refine m_icmp_ne F e_X10_wordHere_79 (fun _ => ?_) (fun q => absurd q (by decide))
                refine Wm.lvsub (lv' := [(1, .int 2), (2, .int 10), (0, .ref c)]) ?_ [1, 2, 3] rfl
                exact wk_2 F hQ h1 f20 hB hn7 hsa hpn hl hm (fun hz => by have z1 : P.a = st + 5 := hz.1; have z2 : t (st + 3) = 108 := hz.2 3 (by decide); omega)
              · have c38 : (st + 3) < P.a := by have hh := mt (nI_leI (a := P.a) (b := (st + 3)) (by omega) (by omega)).mpr q38; omega
                refine m_aload_n F rfl e_X10_wordHere_41 ?_
                refine r_getC F e_X10_wordHere_42 fl_X10_7 h1 (f11030) ?_
                refine m_aload_n F rfl e_X10_wordHere_45 ?_
                refine r_getC F e_X10_wordHere_46 fl_X10_107 h1 (f20) ?_
                refine m_iload_n F rfl e_X10_wordHere_49 ?_
                refine m_iadd F e_X10_wordHere_50 ?_
                refine Wm.topE (w := nI (st + 3)) (nI_add st 3) ?_
                have hb11055 := (hB (st + 3) (by omega)).1
                refine r_iald F (len := 700) (j := st + 3) e_X10_wordHere_51 h1 (fun _ h => h) (by decide) (nI_clamp (by omega)) (vp_in_nI (by omega) (by decide)) (fun x11056 h11057 f11058 => ?_)
                obtain rfl := Option.some.inj ((f11058).symm.trans ((hB (st + 3) (by omega)).2))
                refine m_ldcS F e_X10_wordHere_52 F.sw.1.2.2 ?_
                refine m_iload_n F rfl e_X10_wordHere_54 ?_
                refine m_iload_n F rfl e_X10_wordHere_55 ?_
                refine m_iadd F e_X10_wordHere_56 ?_
                refine Wm.topE (w := 13) (by decide) ?_
                refine m_callO F e_X10_wordHere_57 (q_charAt (x_l X) V _ _ 13 (by omega)) cb_J0_charAt_5068e ml_X10_137 im_J0_charAt_5068e se_J0_charAt_5068e F.sw.2.2.2.2.2.2.1 rfl (rest := [.int (nI (t (st + 3)))]) rfl (Nat.le_of_ble_eq_true rfl) ⟨Nat.le_of_ble_eq_true rfl, Nat.le_of_ble_eq_true rfl⟩ ⟨Nat.le_of_ble_eq_true rfl, Nat.le_of_ble_eq_true rfl⟩ (k' := 0) (z' := 0) (N' := N) rfl rfl rfl (fun r σ11059 hp => ?_)
                obtain ⟨rfl, rfl⟩ := hp
                refine Wm.topE (w := 108) (by decide) ?_
                refine m_icmp_ne F e_X10_wordHere_60 (fun q60 => ?_) (fun q60 => ?_)
                · have c60 : (t (st + 3)) ≠ 108 := by have hh := mt (nI_eq (a := (t (st + 3))) (b := 108) (by omega) (by omega)).mpr q60; omega
                  refine m_ldcS F e_X10_wordHere_69 F.sw.1.2.2 ?_
                  refine m_iload_n F rfl e_X10_wordHere_71 ?_
                  refine m_iload_n F rfl e_X10_wordHere_72 ?_
                  refine m_iadd F e_X10_wordHere_73 ?_
                  refine Wm.topE (w := 13) (by decide) ?_
                  refine m_callO F e_X10_wordHere_74 (q_charAt (x_l X) V _ _ 13 (by omega)) cb_J0_charAt_5068e ml_X10_137 im_J0_charAt_5068e se_J0_charAt_5068e F.sw.2.2.2.2.2.2.1 rfl (rest := []) rfl (Nat.le_of_ble_eq_true rfl) ⟨Nat.le_of_ble_eq_true rfl, Nat.le_of_ble_eq_true rfl⟩ ⟨Nat.le_of_ble_eq_true rfl, Nat.le_of_ble_eq_true rfl⟩ (k' := 0) (z' := 0) (N' := N) rfl rfl rfl (fun r σ11060 hp => ?_)
                  obtain ⟨rfl, rfl⟩ := hp
                  refine Wm.topE (w := 108) (by decide) ?_
                  refine m_bipush F (v := 32) (by decide) e_X10_wordHere_77 ?_
                  refine m_icmp_ne F e_X10_wordHere_79 (fun _ => ?_) (fun q => absurd q (by decide))
                  refine Wm.lvsub (lv' := [(1, .int 2), (2, .int 10), (0, .ref c)]) ?_ [1, 2, 3] rfl
                  exact wk_2 F hQ h1 f20 hB hn7 hsa hpn hl hm (fun hz => by have z1 : P.a = st + 5 := hz.1; have z2 : t (st + 3) = 108 := hz.2 3 (by decide); omega)
                · have c60 : (t (st + 3)) = 108 := (nI_eq (a := (t (st + 3))) (b := 108) (by omega) (by omega)).mp q60
                  refine m_iinc F (v := 4) (lv' := [(3, .int 4), (1, .int 2), (2, .int 10), (0, .ref c)]) e_X10_wordHere_63 rfl (by decide) (by decide) rfl ?_
                  refine m_goto F e_X10_wordHere_66 ?_
                  refine m_ldcS F e_X10_wordHere_15 F.sw.1.2.2 ?_
                  refine m_iload_n F rfl e_X10_wordHere_17 ?_
                  refine m_iload_n F rfl e_X10_wordHere_18 ?_
                  refine m_iadd F e_X10_wordHere_19 ?_
                  refine Wm.topE (w := 14) (by decide) ?_
                  refine m_callO F e_X10_wordHere_20 (q_charAt (x_l X) V _ _ 14 (by omega)) cb_J0_charAt_5068e ml_X10_137 im_J0_charAt_5068e se_J0_charAt_5068e F.sw.2.2.2.2.2.2.1 rfl (rest := []) rfl (Nat.le_of_ble_eq_true rfl) ⟨Nat.le_of_ble_eq_true rfl, Nat.le_of_ble_eq_true rfl⟩ ⟨Nat.le_of_ble_eq_true rfl, Nat.le_of_ble_eq_true rfl⟩ (k' := 0) (z' := 0) (N' := N) rfl rfl rfl (fun r σ11061 hp => ?_)
                  obtain ⟨rfl, rfl⟩ := hp
                  refine Wm.topE (w := 121) (by decide) ?_
                  refine m_bipush F (v := 32) (by decide) e_X10_wordHere_23 ?_
                  refine m_icmp_eq F e_X10_wordHere_25 (fun q => absurd q (by decide)) (fun _ => ?_)
                  refine m_aload_n F rfl e_X10_wordHere_28 ?_
                  refine r_getC F e_X10_wordHere_29 fl_X10_107 h1 (f20) ?_
                  refine m_iload_n F rfl e_X10_wordHere_32 ?_
                  refine m_iadd F e_X10_wordHere_33 ?_
                  refine Wm.topE (w := nI (st + 4)) (nI_add st 4) ?_
                  refine m_aload_n F rfl e_X10_wordHere_34 ?_
                  refine r_getC F e_X10_wordHere_35 fl_X10_97 h1 (f11028) ?_
                  refine m_icmp_ge F e_X10_wordHere_38 (fun q38 => ?_) (fun q38 => ?_)
                  · have c38 : (st + 4) ≥ P.a := (nI_leI (a := P.a) (b := (st + 4)) (by omega) (by omega)).mp q38
                    refine m_ldcS F e_X10_wordHere_69 F.sw.1.2.2 ?_
                    refine m_iload_n F rfl e_X10_wordHere_71 ?_
                    refine m_iload_n F rfl e_X10_wordHere_72 ?_
                    refine m_iadd F e_X10_wordHere_73 ?_
                    refine Wm.topE (w := 14) (by decide) ?_
                    refine m_callO F e_X10_wordHere_74 (q_charAt (x_l X) V _ _ 14 (by omega)) cb_J0_charAt_5068e ml_X10_137 im_J0_charAt_5068e se_J0_charAt_5068e F.sw.2.2.2.2.2.2.1 rfl (rest := []) rfl (Nat.le_of_ble_eq_true rfl) ⟨Nat.le_of_ble_eq_true rfl, Nat.le_of_ble_eq_true rfl⟩ ⟨Nat.le_of_ble_eq_true rfl, Nat.le_of_ble_eq_true rfl⟩ (k' := 0) (z' := 0) (N' := N) rfl rfl rfl (fun r σ11062 hp => ?_)
                    obtain ⟨rfl, rfl⟩ := hp
                    refine Wm.topE (w := 121) (by decide) ?_
                    refine m_bipush F (v := 32) (by decide) e_X10_wordHere_77 ?_
                    refine m_icmp_ne F e_X10_wordHere_79 (fun _ => ?_) (fun q => absurd q (by decide))
                    refine Wm.lvsub (lv' := [(1, .int 2), (2, .int 10), (0, .ref c)]) ?_ [1, 2, 3] rfl
                    exact wk_2 F hQ h1 f20 hB hn7 hsa hpn hl hm (fun hz => by have z1 : P.a = st + 5 := hz.1; have z2 : t (st + 4) = 121 := hz.2 4 (by decide); omega)
                  · have c38 : (st + 4) < P.a := by have hh := mt (nI_leI (a := P.a) (b := (st + 4)) (by omega) (by omega)).mpr q38; omega
                    refine m_aload_n F rfl e_X10_wordHere_41 ?_
                    refine r_getC F e_X10_wordHere_42 fl_X10_7 h1 (f11030) ?_
                    refine m_aload_n F rfl e_X10_wordHere_45 ?_
                    refine r_getC F e_X10_wordHere_46 fl_X10_107 h1 (f20) ?_
                    refine m_iload_n F rfl e_X10_wordHere_49 ?_
                    refine m_iadd F e_X10_wordHere_50 ?_
                    refine Wm.topE (w := nI (st + 4)) (nI_add st 4) ?_
                    have hb11063 := (hB (st + 4) (by omega)).1
                    refine r_iald F (len := 700) (j := st + 4) e_X10_wordHere_51 h1 (fun _ h => h) (by decide) (nI_clamp (by omega)) (vp_in_nI (by omega) (by decide)) (fun x11064 h11065 f11066 => ?_)
                    obtain rfl := Option.some.inj ((f11066).symm.trans ((hB (st + 4) (by omega)).2))
                    refine m_ldcS F e_X10_wordHere_52 F.sw.1.2.2 ?_
                    refine m_iload_n F rfl e_X10_wordHere_54 ?_
                    refine m_iload_n F rfl e_X10_wordHere_55 ?_
                    refine m_iadd F e_X10_wordHere_56 ?_
                    refine Wm.topE (w := 14) (by decide) ?_
                    refine m_callO F e_X10_wordHere_57 (q_charAt (x_l X) V _ _ 14 (by omega)) cb_J0_charAt_5068e ml_X10_137 im_J0_charAt_5068e se_J0_charAt_5068e F.sw.2.2.2.2.2.2.1 rfl (rest := [.int (nI (t (st + 4)))]) rfl (Nat.le_of_ble_eq_true rfl) ⟨Nat.le_of_ble_eq_true rfl, Nat.le_of_ble_eq_true rfl⟩ ⟨Nat.le_of_ble_eq_true rfl, Nat.le_of_ble_eq_true rfl⟩ (k' := 0) (z' := 0) (N' := N) rfl rfl rfl (fun r σ11067 hp => ?_)
                    obtain ⟨rfl, rfl⟩ := hp
                    refine Wm.topE (w := 121) (by decide) ?_
                    refine m_icmp_ne F e_X10_wordHere_60 (fun q60 => ?_) (fun q60 => ?_)
                    · have c60 : (t (st + 4)) ≠ 121 := by have hh := mt (nI_eq (a := (t (st + 4))) (b := 121) (by omega) (by omega)).mpr q60; omega
                      refine m_ldcS F e_X10_wordHere_69 F.sw.1.2.2 ?_
                      refine m_iload_n F rfl e_X10_wordHere_71 ?_
                      refine m_iload_n F rfl e_X10_wordHere_72 ?_
                      refine m_iadd F e_X10_wordHere_73 ?_
                      refine Wm.topE (w := 14) (by decide) ?_
                      refine m_callO F e_X10_wordHere_74 (q_charAt (x_l X) V _ _ 14 (by omega)) cb_J0_charAt_5068e ml_X10_137 im_J0_charAt_5068e se_J0_charAt_5068e F.sw.2.2.2.2.2.2.1 rfl (rest := []) rfl (Nat.le_of_ble_eq_true rfl) ⟨Nat.le_of_ble_eq_true rfl, Nat.le_of_ble_eq_true rfl⟩ ⟨Nat.le_of_ble_eq_true rfl, Nat.le_of_ble_eq_true rfl⟩ (k' := 0) (z' := 0) (N' := N) rfl rfl rfl (fun r σ11068 hp => ?_)
                      obtain ⟨rfl, rfl⟩ := hp
                      refine Wm.topE (w := 121) (by decide) ?_
                      refine m_bipush F (v := 32) (by decide) e_X10_wordHere_77 ?_
                      refine m_icmp_ne F e_X10_wordHere_79 (fun _ => ?_) (fun q => absurd q (by decide))
                      refine Wm.lvsub (lv' := [(1, .int 2), (2, .int 10), (0, .ref c)]) ?_ [1, 2, 3] rfl
                      exact wk_2 F hQ h1 f20 hB hn7 hsa hpn hl hm (fun hz => by have z1 : P.a = st + 5 := hz.1; have z2 : t (st + 4) = 121 := hz.2 4 (by decide); omega)
                    · have c60 : (t (st + 4)) = 121 := (nI_eq (a := (t (st + 4))) (b := 121) (by omega) (by omega)).mp q60
                      refine m_iinc F (v := 5) (lv' := [(3, .int 5), (1, .int 2), (2, .int 10), (0, .ref c)]) e_X10_wordHere_63 rfl (by decide) (by decide) rfl ?_
                      refine m_goto F e_X10_wordHere_66 ?_
                      refine m_ldcS F e_X10_wordHere_15 F.sw.1.2.2 ?_
                      refine m_iload_n F rfl e_X10_wordHere_17 ?_
                      refine m_iload_n F rfl e_X10_wordHere_18 ?_
                      refine m_iadd F e_X10_wordHere_19 ?_
                      refine Wm.topE (w := 15) (by decide) ?_
                      refine m_callO F e_X10_wordHere_20 (q_charAt (x_l X) V _ _ 15 (by omega)) cb_J0_charAt_5068e ml_X10_137 im_J0_charAt_5068e se_J0_charAt_5068e F.sw.2.2.2.2.2.2.1 rfl (rest := []) rfl (Nat.le_of_ble_eq_true rfl) ⟨Nat.le_of_ble_eq_true rfl, Nat.le_of_ble_eq_true rfl⟩ ⟨Nat.le_of_ble_eq_true rfl, Nat.le_of_ble_eq_true rfl⟩ (k' := 0) (z' := 0) (N' := N) rfl rfl rfl (fun r σ11069 hp => ?_)
                      obtain ⟨rfl, rfl⟩ := hp
                      refine Wm.topE (w := 32) (by decide) ?_
                      refine m_bipush F (v := 32) (by decide) e_X10_wordHere_23 ?_
                      refine m_icmp_eq F e_X10_wordHere_25 (fun _ => ?_) (fun q => absurd (by decide) q)
                      refine m_ldcS F e_X10_wordHere_69 F.sw.1.2.2 ?_
                      refine m_iload_n F rfl e_X10_wordHere_71 ?_
                      refine m_iload_n F rfl e_X10_wordHere_72 ?_
                      refine m_iadd F e_X10_wordHere_73 ?_
                      refine Wm.topE (w := 15) (by decide) ?_
                      refine m_callO F e_X10_wordHere_74 (q_charAt (x_l X) V _ _ 15 (by omega)) cb_J0_charAt_5068e ml_X10_137 im_J0_charAt_5068e se_J0_charAt_5068e F.sw.2.2.2.2.2.2.1 rfl (rest := []) rfl (Nat.le_of_ble_eq_true rfl) ⟨Nat.le_of_ble_eq_true rfl, Nat.le_of_ble_eq_true rfl⟩ ⟨Nat.le_of_ble_eq_true rfl, Nat.le_of_ble_eq_true rfl⟩ (k' := 0) (z' := 0) (N' := N) rfl rfl rfl (fun r σ11070 hp => ?_)
                      obtain ⟨rfl, rfl⟩ := hp
                      refine Wm.topE (w := 32) (by decide) ?_
                      refine m_bipush F (v := 32) (by decide) e_X10_wordHere_77 ?_
                      refine m_icmp_ne F e_X10_wordHere_79 (fun q => absurd (by decide) q) (fun _ => ?_)
                      refine m_aload_n F rfl e_X10_wordHere_82 ?_
                      refine r_getC F e_X10_wordHere_83 fl_X10_107 h1 (f20) ?_
                      refine m_iload_n F rfl e_X10_wordHere_86 ?_
                      refine m_iadd F e_X10_wordHere_87 ?_
                      refine Wm.topE (w := nI (st + 5)) (nI_add st 5) ?_
                      refine m_aload_n F rfl e_X10_wordHere_88 ?_
                      refine r_getC F e_X10_wordHere_89 fl_X10_97 h1 (f11028) ?_
                      refine m_icmp_ne F e_X10_wordHere_92 (fun q92 => ?_) (fun q92 => ?_)
                      · have c92 : (st + 5) ≠ P.a := by have hh := mt (nI_eq (a := (st + 5)) (b := P.a) (by omega) (by omega)).mpr q92; omega
                        refine Wm.lvsub (lv' := [(1, .int 2), (2, .int 10), (0, .ref c)]) ?_ [1, 2, 3] rfl
                        exact wk_2 F hQ h1 f20 hB hn7 hsa hpn hl hm (fun hz => by have z1 : P.a = st + 5 := hz.1; omega)
                      · have c92 : (st + 5) = P.a := (nI_eq (a := (st + 5)) (b := P.a) (by omega) (by omega)).mp q92
                        refine m_iload_n F rfl e_X10_wordHere_95 ?_
                        have hz : mw t st P.a 2 := by
                          refine ⟨(show P.a = st + 5 by omega), fun i hi => ?_⟩
                          have hi2 : i = 0 ∨ i = 1 ∨ i = 2 ∨ i = 3 ∨ i = 4 := by have hi3 : i < 5 := hi; omega
                          rcases hi2 with rfl | rfl | rfl | rfl | rfl
                          · show t (st + 0) = 101; first | assumption | omega
                          · show t (st + 1) = 97; first | assumption | omega
                          · show t (st + 2) = 114; first | assumption | omega
                          · show t (st + 3) = 108; first | assumption | omega
                          · show t (st + 4) = 121; first | assumption | omega
                        have hy := kix_mw hsa hl (by decide) hz
                        exact m_iret F hQ e_X10_wordHere_96 ⟨h1, Or.inl ⟨hy.1, by rw [hy.2]; decide, by rw [hy.2]; rfl⟩⟩
set_option maxRecDepth 20000 in
theorem wk_1 {V : VX} {X : MX} {N : Nat} {σ : Mem} {c T Z u h : Nat} {P : NP} {L : Nat → LQ} {n st : Nat} {t : Nat → Nat} (F : Fx V X yX10_wordHere cX10_wordHere 4 (some .int) (rmd 4 0 0)) (hQ : Rt V X 0 0 N (fun r τ => HS V c (⟨T, Z, u, h, P, L⟩ : RG) [0, 1, 2, 3, 4, 5, 6, 7, 8, 9, 10, 11, 12, 13, 14, 15, 16, 17, 18, 19, 20, 21, 22, 23] σ τ ∧ ((P.a - st ≤ 6 ∧ kix (nmc t st P.a 6) < 9 ∧ r = some (.int (nI (kix (nmc t st P.a 6))))) ∨ (¬ (P.a - st ≤ 6 ∧ kix (nmc t st P.a 6) < 9) ∧ r = some (.int (-1)))))) (h1 : HS V c ⟨T, Z, u, h, P, L⟩ [0, 1, 2, 3, 4, 5, 6, 7, 8, 9, 10, 11, 12, 13, 14, 15, 16, 17, 18, 19, 20, 21, 22, 23] σ σ) (f20 : fld σ c 20 = some (.int (nI st))) (hB : BR σ c n t) (hn7 : n ≤ 700) (hsa : st < P.a) (hpn : P.a ≤ n) (hl : ∀ i, st ≤ i → i < P.a → isL (t i) = true) (hm : ∀ m, m < 1 → ¬ mw t st P.a m) (hz : ¬ mw t st P.a 1) : Wm V X 4 N σ 0 0 97 [(1, .int 1), (2, .int 6), (0, .ref c)] [] := by
  refine m_ldcS F e_X10_wordHere_97 F.sw.1.2.2 ?_
  refine m_iload_n F rfl e_X10_wordHere_99 ?_
  refine m_callO F e_X10_wordHere_100 (q_charAt (x_l X) V _ _ 6 (by omega)) cb_J0_charAt_5068e ml_X10_137 im_J0_charAt_5068e se_J0_charAt_5068e F.sw.2.2.2.2.2.2.1 rfl (rest := []) rfl (Nat.le_of_ble_eq_true rfl) ⟨Nat.le_of_ble_eq_true rfl, Nat.le_of_ble_eq_true rfl⟩ ⟨Nat.le_of_ble_eq_true rfl, Nat.le_of_ble_eq_true rfl⟩ (k' := 0) (z' := 0) (N' := N) rfl rfl rfl (fun r σ11071 hp => ?_)
  obtain ⟨rfl, rfl⟩ := hp
  refine Wm.topE (w := 112) (by decide) ?_
  refine m_bipush F (v := 32) (by decide) e_X10_wordHere_103 ?_
  refine m_icmp_eq F e_X10_wordHere_105 (fun q => absurd q (by decide)) (fun _ => ?_)
  refine m_iinc F (v := 7) (lv' := [(2, .int 7), (1, .int 1), (0, .ref c)]) e_X10_wordHere_108 rfl (by decide) (by decide) rfl ?_
  refine m_goto F e_X10_wordHere_111 ?_
  refine m_ldcS F e_X10_wordHere_97 F.sw.1.2.2 ?_
  refine m_iload_n F rfl e_X10_wordHere_99 ?_
  refine m_callO F e_X10_wordHere_100 (q_charAt (x_l X) V _ _ 7 (by omega)) cb_J0_charAt_5068e ml_X10_137 im_J0_charAt_5068e se_J0_charAt_5068e F.sw.2.2.2.2.2.2.1 rfl (rest := []) rfl (Nat.le_of_ble_eq_true rfl) ⟨Nat.le_of_ble_eq_true rfl, Nat.le_of_ble_eq_true rfl⟩ ⟨Nat.le_of_ble_eq_true rfl, Nat.le_of_ble_eq_true rfl⟩ (k' := 0) (z' := 0) (N' := N) rfl rfl rfl (fun r σ11072 hp => ?_)
  obtain ⟨rfl, rfl⟩ := hp
  refine Wm.topE (w := 97) (by decide) ?_
  refine m_bipush F (v := 32) (by decide) e_X10_wordHere_103 ?_
  refine m_icmp_eq F e_X10_wordHere_105 (fun q => absurd q (by decide)) (fun _ => ?_)
  refine m_iinc F (v := 8) (lv' := [(2, .int 8), (1, .int 1), (0, .ref c)]) e_X10_wordHere_108 rfl (by decide) (by decide) rfl ?_
  refine m_goto F e_X10_wordHere_111 ?_
  refine m_ldcS F e_X10_wordHere_97 F.sw.1.2.2 ?_
  refine m_iload_n F rfl e_X10_wordHere_99 ?_
  refine m_callO F e_X10_wordHere_100 (q_charAt (x_l X) V _ _ 8 (by omega)) cb_J0_charAt_5068e ml_X10_137 im_J0_charAt_5068e se_J0_charAt_5068e F.sw.2.2.2.2.2.2.1 rfl (rest := []) rfl (Nat.le_of_ble_eq_true rfl) ⟨Nat.le_of_ble_eq_true rfl, Nat.le_of_ble_eq_true rfl⟩ ⟨Nat.le_of_ble_eq_true rfl, Nat.le_of_ble_eq_true rfl⟩ (k' := 0) (z' := 0) (N' := N) rfl rfl rfl (fun r σ11073 hp => ?_)
  obtain ⟨rfl, rfl⟩ := hp
  refine Wm.topE (w := 121) (by decide) ?_
  refine m_bipush F (v := 32) (by decide) e_X10_wordHere_103 ?_
  refine m_icmp_eq F e_X10_wordHere_105 (fun q => absurd q (by decide)) (fun _ => ?_)
  refine m_iinc F (v := 9) (lv' := [(2, .int 9), (1, .int 1), (0, .ref c)]) e_X10_wordHere_108 rfl (by decide) (by decide) rfl ?_
  refine m_goto F e_X10_wordHere_111 ?_
  refine m_ldcS F e_X10_wordHere_97 F.sw.1.2.2 ?_
  refine m_iload_n F rfl e_X10_wordHere_99 ?_
  refine m_callO F e_X10_wordHere_100 (q_charAt (x_l X) V _ _ 9 (by omega)) cb_J0_charAt_5068e ml_X10_137 im_J0_charAt_5068e se_J0_charAt_5068e F.sw.2.2.2.2.2.2.1 rfl (rest := []) rfl (Nat.le_of_ble_eq_true rfl) ⟨Nat.le_of_ble_eq_true rfl, Nat.le_of_ble_eq_true rfl⟩ ⟨Nat.le_of_ble_eq_true rfl, Nat.le_of_ble_eq_true rfl⟩ (k' := 0) (z' := 0) (N' := N) rfl rfl rfl (fun r σ11074 hp => ?_)
  obtain ⟨rfl, rfl⟩ := hp
  refine Wm.topE (w := 32) (by decide) ?_
  refine m_bipush F (v := 32) (by decide) e_X10_wordHere_103 ?_
  refine m_icmp_eq F e_X10_wordHere_105 (fun _ => ?_) (fun q => absurd (by decide) q)
  refine m_iinc F (v := 10) (lv' := [(2, .int 10), (1, .int 1), (0, .ref c)]) e_X10_wordHere_114 rfl (by decide) (by decide) rfl ?_
  refine m_iinc F (v := 2) (lv' := [(1, .int 2), (2, .int 10), (0, .ref c)]) e_X10_wordHere_117 rfl (by decide) (by decide) rfl ?_
  refine m_goto F e_X10_wordHere_120 ?_
  exact wh_2 F hQ h1 f20 hB hn7 hsa hpn hl (fun m9 h9 => if e9 : m9 = 1 then e9 ▸ hz else hm m9 (by omega))
set_option maxRecDepth 20000 in
theorem wh_1 {V : VX} {X : MX} {N : Nat} {σ : Mem} {c T Z u h : Nat} {P : NP} {L : Nat → LQ} {n st : Nat} {t : Nat → Nat} (F : Fx V X yX10_wordHere cX10_wordHere 4 (some .int) (rmd 4 0 0)) (hQ : Rt V X 0 0 N (fun r τ => HS V c (⟨T, Z, u, h, P, L⟩ : RG) [0, 1, 2, 3, 4, 5, 6, 7, 8, 9, 10, 11, 12, 13, 14, 15, 16, 17, 18, 19, 20, 21, 22, 23] σ τ ∧ ((P.a - st ≤ 6 ∧ kix (nmc t st P.a 6) < 9 ∧ r = some (.int (nI (kix (nmc t st P.a 6))))) ∨ (¬ (P.a - st ≤ 6 ∧ kix (nmc t st P.a 6) < 9) ∧ r = some (.int (-1)))))) (h1 : HS V c ⟨T, Z, u, h, P, L⟩ [0, 1, 2, 3, 4, 5, 6, 7, 8, 9, 10, 11, 12, 13, 14, 15, 16, 17, 18, 19, 20, 21, 22, 23] σ σ) (f20 : fld σ c 20 = some (.int (nI st))) (hB : BR σ c n t) (hn7 : n ≤ 700) (hsa : st < P.a) (hpn : P.a ≤ n) (hl : ∀ i, st ≤ i → i < P.a → isL (t i) = true) (hm : ∀ m, m < 1 → ¬ mw t st P.a m) : Wm V X 4 N σ 0 0 4 [(1, .int 1), (2, .int 6), (0, .ref c)] [] := by
  refine m_iload_n F rfl e_X10_wordHere_4 ?_
  refine m_ldcS F e_X10_wordHere_5 F.sw.1.2.2 ?_
  refine m_callO F e_X10_wordHere_7 (q_length (x_l X) V _ _) cb_J0_length_8abf5 ml_X10_132 im_J0_length_8abf5 se_J0_length_8abf5 F.sw.2.2.2.2.2.2.1 rfl (rest := [.int 6]) rfl (Nat.le_of_ble_eq_true rfl) ⟨Nat.le_of_ble_eq_true rfl, Nat.le_of_ble_eq_true rfl⟩ ⟨Nat.le_of_ble_eq_true rfl, Nat.le_of_ble_eq_true rfl⟩ (k' := 0) (z' := 0) (N' := N) rfl rfl rfl (fun r σ11075 hp => ?_)
  obtain ⟨rfl, rfl⟩ := hp
  refine m_icmp_ge F e_X10_wordHere_10 (fun q => absurd q (by decide)) (fun _ => ?_)
  refine m_iconst F (v := 0) (by decide) e_X10_wordHere_13 ?_
  refine m_istore_n F (lv' := [(3, .int 0), (1, .int 1), (2, .int 6), (0, .ref c)]) e_X10_wordHere_14 (by decide) rfl ?_
  refine m_ldcS F e_X10_wordHere_15 F.sw.1.2.2 ?_
  refine m_iload_n F rfl e_X10_wordHere_17 ?_
  refine m_iload_n F rfl e_X10_wordHere_18 ?_
  refine m_iadd F e_X10_wordHere_19 ?_
  refine Wm.topE (w := 6) (by decide) ?_
  refine m_callO F e_X10_wordHere_20 (q_charAt (x_l X) V _ _ 6 (by omega)) cb_J0_charAt_5068e ml_X10_137 im_J0_charAt_5068e se_J0_charAt_5068e F.sw.2.2.2.2.2.2.1 rfl (rest := []) rfl (Nat.le_of_ble_eq_true rfl) ⟨Nat.le_of_ble_eq_true rfl, Nat.le_of_ble_eq_true rfl⟩ ⟨Nat.le_of_ble_eq_true rfl, Nat.le_of_ble_eq_true rfl⟩ (k' := 0) (z' := 0) (N' := N) rfl rfl rfl (fun r σ11076 hp => ?_)
  obtain ⟨rfl, rfl⟩ := hp
  refine Wm.topE (w := 112) (by decide) ?_
  refine m_bipush F (v := 32) (by decide) e_X10_wordHere_23 ?_
  refine m_icmp_eq F e_X10_wordHere_25 (fun q => absurd q (by decide)) (fun _ => ?_)
  refine m_aload_n F rfl e_X10_wordHere_28 ?_
  refine r_getC F e_X10_wordHere_29 fl_X10_107 h1 (f20) ?_
  refine m_iload_n F rfl e_X10_wordHere_32 ?_
  refine m_iadd F e_X10_wordHere_33 ?_
  refine Wm.topE (w := nI st) (nI_add st 0) ?_
  refine m_aload_n F rfl e_X10_wordHere_34 ?_
  refine r_get F e_X10_wordHere_35 fl_X10_97 h1 rfl (fun v hv f11077 => ?_)
  obtain rfl : v = .int (nI (P.a)) := hv
  refine m_icmp_ge F e_X10_wordHere_38 (fun q38 => ?_) (fun q38 => ?_)
  · have c38 : st ≥ P.a := (nI_leI (a := P.a) (b := st) (by omega) (by omega)).mp q38
    refine m_ldcS F e_X10_wordHere_69 F.sw.1.2.2 ?_
    refine m_iload_n F rfl e_X10_wordHere_71 ?_
    refine m_iload_n F rfl e_X10_wordHere_72 ?_
    refine m_iadd F e_X10_wordHere_73 ?_
    refine Wm.topE (w := 6) (by decide) ?_
    refine m_callO F e_X10_wordHere_74 (q_charAt (x_l X) V _ _ 6 (by omega)) cb_J0_charAt_5068e ml_X10_137 im_J0_charAt_5068e se_J0_charAt_5068e F.sw.2.2.2.2.2.2.1 rfl (rest := []) rfl (Nat.le_of_ble_eq_true rfl) ⟨Nat.le_of_ble_eq_true rfl, Nat.le_of_ble_eq_true rfl⟩ ⟨Nat.le_of_ble_eq_true rfl, Nat.le_of_ble_eq_true rfl⟩ (k' := 0) (z' := 0) (N' := N) rfl rfl rfl (fun r σ11078 hp => ?_)
    obtain ⟨rfl, rfl⟩ := hp
    refine Wm.topE (w := 112) (by decide) ?_
    refine m_bipush F (v := 32) (by decide) e_X10_wordHere_77 ?_
    refine m_icmp_ne F e_X10_wordHere_79 (fun _ => ?_) (fun q => absurd q (by decide))
    refine Wm.lvsub (lv' := [(1, .int 1), (2, .int 6), (0, .ref c)]) ?_ [1, 2, 3] rfl
    exact wk_1 F hQ h1 f20 hB hn7 hsa hpn hl hm (fun hz => by have z1 : P.a = st + 3 := hz.1; have z2 : t (st) = 112 := hz.2 0 (by decide); omega)
  · have c38 : st < P.a := by have hh := mt (nI_leI (a := P.a) (b := st) (by omega) (by omega)).mpr q38; omega
    refine m_aload_n F rfl e_X10_wordHere_41 ?_
    refine r_get F e_X10_wordHere_42 fl_X10_7 h1 rfl (fun v hv f11079 => ?_)
    obtain rfl : v = .ref (c + 1) := hv
    refine m_aload_n F rfl e_X10_wordHere_45 ?_
    refine r_getC F e_X10_wordHere_46 fl_X10_107 h1 (f20) ?_
    refine m_iload_n F rfl e_X10_wordHere_49 ?_
    refine m_iadd F e_X10_wordHere_50 ?_
    refine Wm.topE (w := nI st) (nI_add st 0) ?_
    have hb11080 := (hB st (by omega)).1
    refine r_iald F (len := 700) (j := st) e_X10_wordHere_51 h1 (fun _ h => h) (by decide) (nI_clamp (by omega)) (vp_in_nI (by omega) (by decide)) (fun x11081 h11082 f11083 => ?_)
    obtain rfl := Option.some.inj ((f11083).symm.trans ((hB st (by omega)).2))
    refine m_ldcS F e_X10_wordHere_52 F.sw.1.2.2 ?_
    refine m_iload_n F rfl e_X10_wordHere_54 ?_
    refine m_iload_n F rfl e_X10_wordHere_55 ?_
    refine m_iadd F e_X10_wordHere_56 ?_
    refine Wm.topE (w := 6) (by decide) ?_
    refine m_callO F e_X10_wordHere_57 (q_charAt (x_l X) V _ _ 6 (by omega)) cb_J0_charAt_5068e ml_X10_137 im_J0_charAt_5068e se_J0_charAt_5068e F.sw.2.2.2.2.2.2.1 rfl (rest := [.int (nI (t st))]) rfl (Nat.le_of_ble_eq_true rfl) ⟨Nat.le_of_ble_eq_true rfl, Nat.le_of_ble_eq_true rfl⟩ ⟨Nat.le_of_ble_eq_true rfl, Nat.le_of_ble_eq_true rfl⟩ (k' := 0) (z' := 0) (N' := N) rfl rfl rfl (fun r σ11084 hp => ?_)
    obtain ⟨rfl, rfl⟩ := hp
    refine Wm.topE (w := 112) (by decide) ?_
    refine m_icmp_ne F e_X10_wordHere_60 (fun q60 => ?_) (fun q60 => ?_)
    · have c60 : (t st) ≠ 112 := by have hh := mt (nI_eq (a := (t st)) (b := 112) (by omega) (by omega)).mpr q60; omega
      refine m_ldcS F e_X10_wordHere_69 F.sw.1.2.2 ?_
      refine m_iload_n F rfl e_X10_wordHere_71 ?_
      refine m_iload_n F rfl e_X10_wordHere_72 ?_
      refine m_iadd F e_X10_wordHere_73 ?_
      refine Wm.topE (w := 6) (by decide) ?_
      refine m_callO F e_X10_wordHere_74 (q_charAt (x_l X) V _ _ 6 (by omega)) cb_J0_charAt_5068e ml_X10_137 im_J0_charAt_5068e se_J0_charAt_5068e F.sw.2.2.2.2.2.2.1 rfl (rest := []) rfl (Nat.le_of_ble_eq_true rfl) ⟨Nat.le_of_ble_eq_true rfl, Nat.le_of_ble_eq_true rfl⟩ ⟨Nat.le_of_ble_eq_true rfl, Nat.le_of_ble_eq_true rfl⟩ (k' := 0) (z' := 0) (N' := N) rfl rfl rfl (fun r σ11085 hp => ?_)
      obtain ⟨rfl, rfl⟩ := hp
      refine Wm.topE (w := 112) (by decide) ?_
      refine m_bipush F (v := 32) (by decide) e_X10_wordHere_77 ?_
      refine m_icmp_ne F e_X10_wordHere_79 (fun _ => ?_) (fun q => absurd q (by decide))
      refine Wm.lvsub (lv' := [(1, .int 1), (2, .int 6), (0, .ref c)]) ?_ [1, 2, 3] rfl
      exact wk_1 F hQ h1 f20 hB hn7 hsa hpn hl hm (fun hz => by have z1 : P.a = st + 3 := hz.1; have z2 : t (st) = 112 := hz.2 0 (by decide); omega)
    · have c60 : (t st) = 112 := (nI_eq (a := (t st)) (b := 112) (by omega) (by omega)).mp q60
      refine m_iinc F (v := 1) (lv' := [(3, .int 1), (1, .int 1), (2, .int 6), (0, .ref c)]) e_X10_wordHere_63 rfl (by decide) (by decide) rfl ?_
      refine m_goto F e_X10_wordHere_66 ?_
      refine m_ldcS F e_X10_wordHere_15 F.sw.1.2.2 ?_
      refine m_iload_n F rfl e_X10_wordHere_17 ?_
      refine m_iload_n F rfl e_X10_wordHere_18 ?_
      refine m_iadd F e_X10_wordHere_19 ?_
      refine Wm.topE (w := 7) (by decide) ?_
      refine m_callO F e_X10_wordHere_20 (q_charAt (x_l X) V _ _ 7 (by omega)) cb_J0_charAt_5068e ml_X10_137 im_J0_charAt_5068e se_J0_charAt_5068e F.sw.2.2.2.2.2.2.1 rfl (rest := []) rfl (Nat.le_of_ble_eq_true rfl) ⟨Nat.le_of_ble_eq_true rfl, Nat.le_of_ble_eq_true rfl⟩ ⟨Nat.le_of_ble_eq_true rfl, Nat.le_of_ble_eq_true rfl⟩ (k' := 0) (z' := 0) (N' := N) rfl rfl rfl (fun r σ11086 hp => ?_)
      obtain ⟨rfl, rfl⟩ := hp
      refine Wm.topE (w := 97) (by decide) ?_
      refine m_bipush F (v := 32) (by decide) e_X10_wordHere_23 ?_
      refine m_icmp_eq F e_X10_wordHere_25 (fun q => absurd q (by decide)) (fun _ => ?_)
      refine m_aload_n F rfl e_X10_wordHere_28 ?_
      refine r_getC F e_X10_wordHere_29 fl_X10_107 h1 (f20) ?_
      refine m_iload_n F rfl e_X10_wordHere_32 ?_
      refine m_iadd F e_X10_wordHere_33 ?_
      refine Wm.topE (w := nI (st + 1)) (nI_add st 1) ?_
      refine m_aload_n F rfl e_X10_wordHere_34 ?_
      refine r_getC F e_X10_wordHere_35 fl_X10_97 h1 (f11077) ?_
      refine m_icmp_ge F e_X10_wordHere_38 (fun q38 => ?_) (fun q38 => ?_)
      · have c38 : (st + 1) ≥ P.a := (nI_leI (a := P.a) (b := (st + 1)) (by omega) (by omega)).mp q38
        refine m_ldcS F e_X10_wordHere_69 F.sw.1.2.2 ?_
        refine m_iload_n F rfl e_X10_wordHere_71 ?_
        refine m_iload_n F rfl e_X10_wordHere_72 ?_
        refine m_iadd F e_X10_wordHere_73 ?_
        refine Wm.topE (w := 7) (by decide) ?_
        refine m_callO F e_X10_wordHere_74 (q_charAt (x_l X) V _ _ 7 (by omega)) cb_J0_charAt_5068e ml_X10_137 im_J0_charAt_5068e se_J0_charAt_5068e F.sw.2.2.2.2.2.2.1 rfl (rest := []) rfl (Nat.le_of_ble_eq_true rfl) ⟨Nat.le_of_ble_eq_true rfl, Nat.le_of_ble_eq_true rfl⟩ ⟨Nat.le_of_ble_eq_true rfl, Nat.le_of_ble_eq_true rfl⟩ (k' := 0) (z' := 0) (N' := N) rfl rfl rfl (fun r σ11087 hp => ?_)
        obtain ⟨rfl, rfl⟩ := hp
        refine Wm.topE (w := 97) (by decide) ?_
        refine m_bipush F (v := 32) (by decide) e_X10_wordHere_77 ?_
        refine m_icmp_ne F e_X10_wordHere_79 (fun _ => ?_) (fun q => absurd q (by decide))
        refine Wm.lvsub (lv' := [(1, .int 1), (2, .int 6), (0, .ref c)]) ?_ [1, 2, 3] rfl
        exact wk_1 F hQ h1 f20 hB hn7 hsa hpn hl hm (fun hz => by have z1 : P.a = st + 3 := hz.1; have z2 : t (st + 1) = 97 := hz.2 1 (by decide); omega)
      · have c38 : (st + 1) < P.a := by have hh := mt (nI_leI (a := P.a) (b := (st + 1)) (by omega) (by omega)).mpr q38; omega
        refine m_aload_n F rfl e_X10_wordHere_41 ?_
        refine r_getC F e_X10_wordHere_42 fl_X10_7 h1 (f11079) ?_
        refine m_aload_n F rfl e_X10_wordHere_45 ?_
        refine r_getC F e_X10_wordHere_46 fl_X10_107 h1 (f20) ?_
        refine m_iload_n F rfl e_X10_wordHere_49 ?_
        refine m_iadd F e_X10_wordHere_50 ?_
        refine Wm.topE (w := nI (st + 1)) (nI_add st 1) ?_
        have hb11088 := (hB (st + 1) (by omega)).1
        refine r_iald F (len := 700) (j := st + 1) e_X10_wordHere_51 h1 (fun _ h => h) (by decide) (nI_clamp (by omega)) (vp_in_nI (by omega) (by decide)) (fun x11089 h11090 f11091 => ?_)
        obtain rfl := Option.some.inj ((f11091).symm.trans ((hB (st + 1) (by omega)).2))
        refine m_ldcS F e_X10_wordHere_52 F.sw.1.2.2 ?_
        refine m_iload_n F rfl e_X10_wordHere_54 ?_
        refine m_iload_n F rfl e_X10_wordHere_55 ?_
        refine m_iadd F e_X10_wordHere_56 ?_
        refine Wm.topE (w := 7) (by decide) ?_
        refine m_callO F e_X10_wordHere_57 (q_charAt (x_l X) V _ _ 7 (by omega)) cb_J0_charAt_5068e ml_X10_137 im_J0_charAt_5068e se_J0_charAt_5068e F.sw.2.2.2.2.2.2.1 rfl (rest := [.int (nI (t (st + 1)))]) rfl (Nat.le_of_ble_eq_true rfl) ⟨Nat.le_of_ble_eq_true rfl, Nat.le_of_ble_eq_true rfl⟩ ⟨Nat.le_of_ble_eq_true rfl, Nat.le_of_ble_eq_true rfl⟩ (k' := 0) (z' := 0) (N' := N) rfl rfl rfl (fun r σ11092 hp => ?_)
        obtain ⟨rfl, rfl⟩ := hp
        refine Wm.topE (w := 97) (by decide) ?_
        refine m_icmp_ne F e_X10_wordHere_60 (fun q60 => ?_) (fun q60 => ?_)
        · have c60 : (t (st + 1)) ≠ 97 := by have hh := mt (nI_eq (a := (t (st + 1))) (b := 97) (by omega) (by omega)).mpr q60; omega
          refine m_ldcS F e_X10_wordHere_69 F.sw.1.2.2 ?_
          refine m_iload_n F rfl e_X10_wordHere_71 ?_
          refine m_iload_n F rfl e_X10_wordHere_72 ?_
          refine m_iadd F e_X10_wordHere_73 ?_
          refine Wm.topE (w := 7) (by decide) ?_
          refine m_callO F e_X10_wordHere_74 (q_charAt (x_l X) V _ _ 7 (by omega)) cb_J0_charAt_5068e ml_X10_137 im_J0_charAt_5068e se_J0_charAt_5068e F.sw.2.2.2.2.2.2.1 rfl (rest := []) rfl (Nat.le_of_ble_eq_true rfl) ⟨Nat.le_of_ble_eq_true rfl, Nat.le_of_ble_eq_true rfl⟩ ⟨Nat.le_of_ble_eq_true rfl, Nat.le_of_ble_eq_true rfl⟩ (k' := 0) (z' := 0) (N' := N) rfl rfl rfl (fun r σ11093 hp => ?_)
          obtain ⟨rfl, rfl⟩ := hp
          refine Wm.topE (w := 97) (by decide) ?_
          refine m_bipush F (v := 32) (by decide) e_X10_wordHere_77 ?_
          refine m_icmp_ne F e_X10_wordHere_79 (fun _ => ?_) (fun q => absurd q (by decide))
          refine Wm.lvsub (lv' := [(1, .int 1), (2, .int 6), (0, .ref c)]) ?_ [1, 2, 3] rfl
          exact wk_1 F hQ h1 f20 hB hn7 hsa hpn hl hm (fun hz => by have z1 : P.a = st + 3 := hz.1; have z2 : t (st + 1) = 97 := hz.2 1 (by decide); omega)
        · have c60 : (t (st + 1)) = 97 := (nI_eq (a := (t (st + 1))) (b := 97) (by omega) (by omega)).mp q60
          refine m_iinc F (v := 2) (lv' := [(3, .int 2), (1, .int 1), (2, .int 6), (0, .ref c)]) e_X10_wordHere_63 rfl (by decide) (by decide) rfl ?_
          refine m_goto F e_X10_wordHere_66 ?_
          refine m_ldcS F e_X10_wordHere_15 F.sw.1.2.2 ?_
          refine m_iload_n F rfl e_X10_wordHere_17 ?_
          refine m_iload_n F rfl e_X10_wordHere_18 ?_
          refine m_iadd F e_X10_wordHere_19 ?_
          refine Wm.topE (w := 8) (by decide) ?_
          refine m_callO F e_X10_wordHere_20 (q_charAt (x_l X) V _ _ 8 (by omega)) cb_J0_charAt_5068e ml_X10_137 im_J0_charAt_5068e se_J0_charAt_5068e F.sw.2.2.2.2.2.2.1 rfl (rest := []) rfl (Nat.le_of_ble_eq_true rfl) ⟨Nat.le_of_ble_eq_true rfl, Nat.le_of_ble_eq_true rfl⟩ ⟨Nat.le_of_ble_eq_true rfl, Nat.le_of_ble_eq_true rfl⟩ (k' := 0) (z' := 0) (N' := N) rfl rfl rfl (fun r σ11094 hp => ?_)
          obtain ⟨rfl, rfl⟩ := hp
          refine Wm.topE (w := 121) (by decide) ?_
          refine m_bipush F (v := 32) (by decide) e_X10_wordHere_23 ?_
          refine m_icmp_eq F e_X10_wordHere_25 (fun q => absurd q (by decide)) (fun _ => ?_)
          refine m_aload_n F rfl e_X10_wordHere_28 ?_
          refine r_getC F e_X10_wordHere_29 fl_X10_107 h1 (f20) ?_
          refine m_iload_n F rfl e_X10_wordHere_32 ?_
          refine m_iadd F e_X10_wordHere_33 ?_
          refine Wm.topE (w := nI (st + 2)) (nI_add st 2) ?_
          refine m_aload_n F rfl e_X10_wordHere_34 ?_
          refine r_getC F e_X10_wordHere_35 fl_X10_97 h1 (f11077) ?_
          refine m_icmp_ge F e_X10_wordHere_38 (fun q38 => ?_) (fun q38 => ?_)
          · have c38 : (st + 2) ≥ P.a := (nI_leI (a := P.a) (b := (st + 2)) (by omega) (by omega)).mp q38
            refine m_ldcS F e_X10_wordHere_69 F.sw.1.2.2 ?_
            refine m_iload_n F rfl e_X10_wordHere_71 ?_
            refine m_iload_n F rfl e_X10_wordHere_72 ?_
            refine m_iadd F e_X10_wordHere_73 ?_
            refine Wm.topE (w := 8) (by decide) ?_
            refine m_callO F e_X10_wordHere_74 (q_charAt (x_l X) V _ _ 8 (by omega)) cb_J0_charAt_5068e ml_X10_137 im_J0_charAt_5068e se_J0_charAt_5068e F.sw.2.2.2.2.2.2.1 rfl (rest := []) rfl (Nat.le_of_ble_eq_true rfl) ⟨Nat.le_of_ble_eq_true rfl, Nat.le_of_ble_eq_true rfl⟩ ⟨Nat.le_of_ble_eq_true rfl, Nat.le_of_ble_eq_true rfl⟩ (k' := 0) (z' := 0) (N' := N) rfl rfl rfl (fun r σ11095 hp => ?_)
            obtain ⟨rfl, rfl⟩ := hp
            refine Wm.topE (w := 121) (by decide) ?_
            refine m_bipush F (v := 32) (by decide) e_X10_wordHere_77 ?_
            refine m_icmp_ne F e_X10_wordHere_79 (fun _ => ?_) (fun q => absurd q (by decide))
            refine Wm.lvsub (lv' := [(1, .int 1), (2, .int 6), (0, .ref c)]) ?_ [1, 2, 3] rfl
            exact wk_1 F hQ h1 f20 hB hn7 hsa hpn hl hm (fun hz => by have z1 : P.a = st + 3 := hz.1; have z2 : t (st + 2) = 121 := hz.2 2 (by decide); omega)
          · have c38 : (st + 2) < P.a := by have hh := mt (nI_leI (a := P.a) (b := (st + 2)) (by omega) (by omega)).mpr q38; omega
            refine m_aload_n F rfl e_X10_wordHere_41 ?_
            refine r_getC F e_X10_wordHere_42 fl_X10_7 h1 (f11079) ?_
            refine m_aload_n F rfl e_X10_wordHere_45 ?_
            refine r_getC F e_X10_wordHere_46 fl_X10_107 h1 (f20) ?_
            refine m_iload_n F rfl e_X10_wordHere_49 ?_
            refine m_iadd F e_X10_wordHere_50 ?_
            refine Wm.topE (w := nI (st + 2)) (nI_add st 2) ?_
            have hb11096 := (hB (st + 2) (by omega)).1
            refine r_iald F (len := 700) (j := st + 2) e_X10_wordHere_51 h1 (fun _ h => h) (by decide) (nI_clamp (by omega)) (vp_in_nI (by omega) (by decide)) (fun x11097 h11098 f11099 => ?_)
            obtain rfl := Option.some.inj ((f11099).symm.trans ((hB (st + 2) (by omega)).2))
            refine m_ldcS F e_X10_wordHere_52 F.sw.1.2.2 ?_
            refine m_iload_n F rfl e_X10_wordHere_54 ?_
            refine m_iload_n F rfl e_X10_wordHere_55 ?_
            refine m_iadd F e_X10_wordHere_56 ?_
            refine Wm.topE (w := 8) (by decide) ?_
            refine m_callO F e_X10_wordHere_57 (q_charAt (x_l X) V _ _ 8 (by omega)) cb_J0_charAt_5068e ml_X10_137 im_J0_charAt_5068e se_J0_charAt_5068e F.sw.2.2.2.2.2.2.1 rfl (rest := [.int (nI (t (st + 2)))]) rfl (Nat.le_of_ble_eq_true rfl) ⟨Nat.le_of_ble_eq_true rfl, Nat.le_of_ble_eq_true rfl⟩ ⟨Nat.le_of_ble_eq_true rfl, Nat.le_of_ble_eq_true rfl⟩ (k' := 0) (z' := 0) (N' := N) rfl rfl rfl (fun r σ11100 hp => ?_)
            obtain ⟨rfl, rfl⟩ := hp
            refine Wm.topE (w := 121) (by decide) ?_
            refine m_icmp_ne F e_X10_wordHere_60 (fun q60 => ?_) (fun q60 => ?_)
            · have c60 : (t (st + 2)) ≠ 121 := by have hh := mt (nI_eq (a := (t (st + 2))) (b := 121) (by omega) (by omega)).mpr q60; omega
              refine m_ldcS F e_X10_wordHere_69 F.sw.1.2.2 ?_
              refine m_iload_n F rfl e_X10_wordHere_71 ?_
              refine m_iload_n F rfl e_X10_wordHere_72 ?_
              refine m_iadd F e_X10_wordHere_73 ?_
              refine Wm.topE (w := 8) (by decide) ?_
              refine m_callO F e_X10_wordHere_74 (q_charAt (x_l X) V _ _ 8 (by omega)) cb_J0_charAt_5068e ml_X10_137 im_J0_charAt_5068e se_J0_charAt_5068e F.sw.2.2.2.2.2.2.1 rfl (rest := []) rfl (Nat.le_of_ble_eq_true rfl) ⟨Nat.le_of_ble_eq_true rfl, Nat.le_of_ble_eq_true rfl⟩ ⟨Nat.le_of_ble_eq_true rfl, Nat.le_of_ble_eq_true rfl⟩ (k' := 0) (z' := 0) (N' := N) rfl rfl rfl (fun r σ11101 hp => ?_)
              obtain ⟨rfl, rfl⟩ := hp
              refine Wm.topE (w := 121) (by decide) ?_
              refine m_bipush F (v := 32) (by decide) e_X10_wordHere_77 ?_
              refine m_icmp_ne F e_X10_wordHere_79 (fun _ => ?_) (fun q => absurd q (by decide))
              refine Wm.lvsub (lv' := [(1, .int 1), (2, .int 6), (0, .ref c)]) ?_ [1, 2, 3] rfl
              exact wk_1 F hQ h1 f20 hB hn7 hsa hpn hl hm (fun hz => by have z1 : P.a = st + 3 := hz.1; have z2 : t (st + 2) = 121 := hz.2 2 (by decide); omega)
            · have c60 : (t (st + 2)) = 121 := (nI_eq (a := (t (st + 2))) (b := 121) (by omega) (by omega)).mp q60
              refine m_iinc F (v := 3) (lv' := [(3, .int 3), (1, .int 1), (2, .int 6), (0, .ref c)]) e_X10_wordHere_63 rfl (by decide) (by decide) rfl ?_
              refine m_goto F e_X10_wordHere_66 ?_
              refine m_ldcS F e_X10_wordHere_15 F.sw.1.2.2 ?_
              refine m_iload_n F rfl e_X10_wordHere_17 ?_
              refine m_iload_n F rfl e_X10_wordHere_18 ?_
              refine m_iadd F e_X10_wordHere_19 ?_
              refine Wm.topE (w := 9) (by decide) ?_
              refine m_callO F e_X10_wordHere_20 (q_charAt (x_l X) V _ _ 9 (by omega)) cb_J0_charAt_5068e ml_X10_137 im_J0_charAt_5068e se_J0_charAt_5068e F.sw.2.2.2.2.2.2.1 rfl (rest := []) rfl (Nat.le_of_ble_eq_true rfl) ⟨Nat.le_of_ble_eq_true rfl, Nat.le_of_ble_eq_true rfl⟩ ⟨Nat.le_of_ble_eq_true rfl, Nat.le_of_ble_eq_true rfl⟩ (k' := 0) (z' := 0) (N' := N) rfl rfl rfl (fun r σ11102 hp => ?_)
              obtain ⟨rfl, rfl⟩ := hp
              refine Wm.topE (w := 32) (by decide) ?_
              refine m_bipush F (v := 32) (by decide) e_X10_wordHere_23 ?_
              refine m_icmp_eq F e_X10_wordHere_25 (fun _ => ?_) (fun q => absurd (by decide) q)
              refine m_ldcS F e_X10_wordHere_69 F.sw.1.2.2 ?_
              refine m_iload_n F rfl e_X10_wordHere_71 ?_
              refine m_iload_n F rfl e_X10_wordHere_72 ?_
              refine m_iadd F e_X10_wordHere_73 ?_
              refine Wm.topE (w := 9) (by decide) ?_
              refine m_callO F e_X10_wordHere_74 (q_charAt (x_l X) V _ _ 9 (by omega)) cb_J0_charAt_5068e ml_X10_137 im_J0_charAt_5068e se_J0_charAt_5068e F.sw.2.2.2.2.2.2.1 rfl (rest := []) rfl (Nat.le_of_ble_eq_true rfl) ⟨Nat.le_of_ble_eq_true rfl, Nat.le_of_ble_eq_true rfl⟩ ⟨Nat.le_of_ble_eq_true rfl, Nat.le_of_ble_eq_true rfl⟩ (k' := 0) (z' := 0) (N' := N) rfl rfl rfl (fun r σ11103 hp => ?_)
              obtain ⟨rfl, rfl⟩ := hp
              refine Wm.topE (w := 32) (by decide) ?_
              refine m_bipush F (v := 32) (by decide) e_X10_wordHere_77 ?_
              refine m_icmp_ne F e_X10_wordHere_79 (fun q => absurd (by decide) q) (fun _ => ?_)
              refine m_aload_n F rfl e_X10_wordHere_82 ?_
              refine r_getC F e_X10_wordHere_83 fl_X10_107 h1 (f20) ?_
              refine m_iload_n F rfl e_X10_wordHere_86 ?_
              refine m_iadd F e_X10_wordHere_87 ?_
              refine Wm.topE (w := nI (st + 3)) (nI_add st 3) ?_
              refine m_aload_n F rfl e_X10_wordHere_88 ?_
              refine r_getC F e_X10_wordHere_89 fl_X10_97 h1 (f11077) ?_
              refine m_icmp_ne F e_X10_wordHere_92 (fun q92 => ?_) (fun q92 => ?_)
              · have c92 : (st + 3) ≠ P.a := by have hh := mt (nI_eq (a := (st + 3)) (b := P.a) (by omega) (by omega)).mpr q92; omega
                refine Wm.lvsub (lv' := [(1, .int 1), (2, .int 6), (0, .ref c)]) ?_ [1, 2, 3] rfl
                exact wk_1 F hQ h1 f20 hB hn7 hsa hpn hl hm (fun hz => by have z1 : P.a = st + 3 := hz.1; omega)
              · have c92 : (st + 3) = P.a := (nI_eq (a := (st + 3)) (b := P.a) (by omega) (by omega)).mp q92
                refine m_iload_n F rfl e_X10_wordHere_95 ?_
                have hz : mw t st P.a 1 := by
                  refine ⟨(show P.a = st + 3 by omega), fun i hi => ?_⟩
                  have hi2 : i = 0 ∨ i = 1 ∨ i = 2 := by have hi3 : i < 3 := hi; omega
                  rcases hi2 with rfl | rfl | rfl
                  · show t (st + 0) = 112; first | assumption | omega
                  · show t (st + 1) = 97; first | assumption | omega
                  · show t (st + 2) = 121; first | assumption | omega
                have hy := kix_mw hsa hl (by decide) hz
                exact m_iret F hQ e_X10_wordHere_96 ⟨h1, Or.inl ⟨hy.1, by rw [hy.2]; decide, by rw [hy.2]; rfl⟩⟩
set_option maxRecDepth 20000 in
theorem wk_0 {V : VX} {X : MX} {N : Nat} {σ : Mem} {c T Z u h : Nat} {P : NP} {L : Nat → LQ} {n st : Nat} {t : Nat → Nat} (F : Fx V X yX10_wordHere cX10_wordHere 4 (some .int) (rmd 4 0 0)) (hQ : Rt V X 0 0 N (fun r τ => HS V c (⟨T, Z, u, h, P, L⟩ : RG) [0, 1, 2, 3, 4, 5, 6, 7, 8, 9, 10, 11, 12, 13, 14, 15, 16, 17, 18, 19, 20, 21, 22, 23] σ τ ∧ ((P.a - st ≤ 6 ∧ kix (nmc t st P.a 6) < 9 ∧ r = some (.int (nI (kix (nmc t st P.a 6))))) ∨ (¬ (P.a - st ≤ 6 ∧ kix (nmc t st P.a 6) < 9) ∧ r = some (.int (-1)))))) (h1 : HS V c ⟨T, Z, u, h, P, L⟩ [0, 1, 2, 3, 4, 5, 6, 7, 8, 9, 10, 11, 12, 13, 14, 15, 16, 17, 18, 19, 20, 21, 22, 23] σ σ) (f20 : fld σ c 20 = some (.int (nI st))) (hB : BR σ c n t) (hn7 : n ≤ 700) (hsa : st < P.a) (hpn : P.a ≤ n) (hl : ∀ i, st ≤ i → i < P.a → isL (t i) = true) (hm : ∀ m, m < 0 → ¬ mw t st P.a m) (hz : ¬ mw t st P.a 0) : Wm V X 4 N σ 0 0 97 [(1, .int 0), (2, .int 0), (0, .ref c)] [] := by
  refine m_ldcS F e_X10_wordHere_97 F.sw.1.2.2 ?_
  refine m_iload_n F rfl e_X10_wordHere_99 ?_
  refine m_callO F e_X10_wordHere_100 (q_charAt (x_l X) V _ _ 0 (by omega)) cb_J0_charAt_5068e ml_X10_137 im_J0_charAt_5068e se_J0_charAt_5068e F.sw.2.2.2.2.2.2.1 rfl (rest := []) rfl (Nat.le_of_ble_eq_true rfl) ⟨Nat.le_of_ble_eq_true rfl, Nat.le_of_ble_eq_true rfl⟩ ⟨Nat.le_of_ble_eq_true rfl, Nat.le_of_ble_eq_true rfl⟩ (k' := 0) (z' := 0) (N' := N) rfl rfl rfl (fun r σ11104 hp => ?_)
  obtain ⟨rfl, rfl⟩ := hp
  refine Wm.topE (w := 108) (by decide) ?_
  refine m_bipush F (v := 32) (by decide) e_X10_wordHere_103 ?_
  refine m_icmp_eq F e_X10_wordHere_105 (fun q => absurd q (by decide)) (fun _ => ?_)
  refine m_iinc F (v := 1) (lv' := [(2, .int 1), (1, .int 0), (0, .ref c)]) e_X10_wordHere_108 rfl (by decide) (by decide) rfl ?_
  refine m_goto F e_X10_wordHere_111 ?_
  refine m_ldcS F e_X10_wordHere_97 F.sw.1.2.2 ?_
  refine m_iload_n F rfl e_X10_wordHere_99 ?_
  refine m_callO F e_X10_wordHere_100 (q_charAt (x_l X) V _ _ 1 (by omega)) cb_J0_charAt_5068e ml_X10_137 im_J0_charAt_5068e se_J0_charAt_5068e F.sw.2.2.2.2.2.2.1 rfl (rest := []) rfl (Nat.le_of_ble_eq_true rfl) ⟨Nat.le_of_ble_eq_true rfl, Nat.le_of_ble_eq_true rfl⟩ ⟨Nat.le_of_ble_eq_true rfl, Nat.le_of_ble_eq_true rfl⟩ (k' := 0) (z' := 0) (N' := N) rfl rfl rfl (fun r σ11105 hp => ?_)
  obtain ⟨rfl, rfl⟩ := hp
  refine Wm.topE (w := 101) (by decide) ?_
  refine m_bipush F (v := 32) (by decide) e_X10_wordHere_103 ?_
  refine m_icmp_eq F e_X10_wordHere_105 (fun q => absurd q (by decide)) (fun _ => ?_)
  refine m_iinc F (v := 2) (lv' := [(2, .int 2), (1, .int 0), (0, .ref c)]) e_X10_wordHere_108 rfl (by decide) (by decide) rfl ?_
  refine m_goto F e_X10_wordHere_111 ?_
  refine m_ldcS F e_X10_wordHere_97 F.sw.1.2.2 ?_
  refine m_iload_n F rfl e_X10_wordHere_99 ?_
  refine m_callO F e_X10_wordHere_100 (q_charAt (x_l X) V _ _ 2 (by omega)) cb_J0_charAt_5068e ml_X10_137 im_J0_charAt_5068e se_J0_charAt_5068e F.sw.2.2.2.2.2.2.1 rfl (rest := []) rfl (Nat.le_of_ble_eq_true rfl) ⟨Nat.le_of_ble_eq_true rfl, Nat.le_of_ble_eq_true rfl⟩ ⟨Nat.le_of_ble_eq_true rfl, Nat.le_of_ble_eq_true rfl⟩ (k' := 0) (z' := 0) (N' := N) rfl rfl rfl (fun r σ11106 hp => ?_)
  obtain ⟨rfl, rfl⟩ := hp
  refine Wm.topE (w := 97) (by decide) ?_
  refine m_bipush F (v := 32) (by decide) e_X10_wordHere_103 ?_
  refine m_icmp_eq F e_X10_wordHere_105 (fun q => absurd q (by decide)) (fun _ => ?_)
  refine m_iinc F (v := 3) (lv' := [(2, .int 3), (1, .int 0), (0, .ref c)]) e_X10_wordHere_108 rfl (by decide) (by decide) rfl ?_
  refine m_goto F e_X10_wordHere_111 ?_
  refine m_ldcS F e_X10_wordHere_97 F.sw.1.2.2 ?_
  refine m_iload_n F rfl e_X10_wordHere_99 ?_
  refine m_callO F e_X10_wordHere_100 (q_charAt (x_l X) V _ _ 3 (by omega)) cb_J0_charAt_5068e ml_X10_137 im_J0_charAt_5068e se_J0_charAt_5068e F.sw.2.2.2.2.2.2.1 rfl (rest := []) rfl (Nat.le_of_ble_eq_true rfl) ⟨Nat.le_of_ble_eq_true rfl, Nat.le_of_ble_eq_true rfl⟩ ⟨Nat.le_of_ble_eq_true rfl, Nat.le_of_ble_eq_true rfl⟩ (k' := 0) (z' := 0) (N' := N) rfl rfl rfl (fun r σ11107 hp => ?_)
  obtain ⟨rfl, rfl⟩ := hp
  refine Wm.topE (w := 115) (by decide) ?_
  refine m_bipush F (v := 32) (by decide) e_X10_wordHere_103 ?_
  refine m_icmp_eq F e_X10_wordHere_105 (fun q => absurd q (by decide)) (fun _ => ?_)
  refine m_iinc F (v := 4) (lv' := [(2, .int 4), (1, .int 0), (0, .ref c)]) e_X10_wordHere_108 rfl (by decide) (by decide) rfl ?_
  refine m_goto F e_X10_wordHere_111 ?_
  refine m_ldcS F e_X10_wordHere_97 F.sw.1.2.2 ?_
  refine m_iload_n F rfl e_X10_wordHere_99 ?_
  refine m_callO F e_X10_wordHere_100 (q_charAt (x_l X) V _ _ 4 (by omega)) cb_J0_charAt_5068e ml_X10_137 im_J0_charAt_5068e se_J0_charAt_5068e F.sw.2.2.2.2.2.2.1 rfl (rest := []) rfl (Nat.le_of_ble_eq_true rfl) ⟨Nat.le_of_ble_eq_true rfl, Nat.le_of_ble_eq_true rfl⟩ ⟨Nat.le_of_ble_eq_true rfl, Nat.le_of_ble_eq_true rfl⟩ (k' := 0) (z' := 0) (N' := N) rfl rfl rfl (fun r σ11108 hp => ?_)
  obtain ⟨rfl, rfl⟩ := hp
  refine Wm.topE (w := 101) (by decide) ?_
  refine m_bipush F (v := 32) (by decide) e_X10_wordHere_103 ?_
  refine m_icmp_eq F e_X10_wordHere_105 (fun q => absurd q (by decide)) (fun _ => ?_)
  refine m_iinc F (v := 5) (lv' := [(2, .int 5), (1, .int 0), (0, .ref c)]) e_X10_wordHere_108 rfl (by decide) (by decide) rfl ?_
  refine m_goto F e_X10_wordHere_111 ?_
  refine m_ldcS F e_X10_wordHere_97 F.sw.1.2.2 ?_
  refine m_iload_n F rfl e_X10_wordHere_99 ?_
  refine m_callO F e_X10_wordHere_100 (q_charAt (x_l X) V _ _ 5 (by omega)) cb_J0_charAt_5068e ml_X10_137 im_J0_charAt_5068e se_J0_charAt_5068e F.sw.2.2.2.2.2.2.1 rfl (rest := []) rfl (Nat.le_of_ble_eq_true rfl) ⟨Nat.le_of_ble_eq_true rfl, Nat.le_of_ble_eq_true rfl⟩ ⟨Nat.le_of_ble_eq_true rfl, Nat.le_of_ble_eq_true rfl⟩ (k' := 0) (z' := 0) (N' := N) rfl rfl rfl (fun r σ11109 hp => ?_)
  obtain ⟨rfl, rfl⟩ := hp
  refine Wm.topE (w := 32) (by decide) ?_
  refine m_bipush F (v := 32) (by decide) e_X10_wordHere_103 ?_
  refine m_icmp_eq F e_X10_wordHere_105 (fun _ => ?_) (fun q => absurd (by decide) q)
  refine m_iinc F (v := 6) (lv' := [(2, .int 6), (1, .int 0), (0, .ref c)]) e_X10_wordHere_114 rfl (by decide) (by decide) rfl ?_
  refine m_iinc F (v := 1) (lv' := [(1, .int 1), (2, .int 6), (0, .ref c)]) e_X10_wordHere_117 rfl (by decide) (by decide) rfl ?_
  refine m_goto F e_X10_wordHere_120 ?_
  exact wh_1 F hQ h1 f20 hB hn7 hsa hpn hl (fun m9 h9 => if e9 : m9 = 0 then e9 ▸ hz else hm m9 (by omega))
set_option maxRecDepth 20000 in
theorem wh_0 {V : VX} {X : MX} {N : Nat} {σ : Mem} {c T Z u h : Nat} {P : NP} {L : Nat → LQ} {n st : Nat} {t : Nat → Nat} (F : Fx V X yX10_wordHere cX10_wordHere 4 (some .int) (rmd 4 0 0)) (hQ : Rt V X 0 0 N (fun r τ => HS V c (⟨T, Z, u, h, P, L⟩ : RG) [0, 1, 2, 3, 4, 5, 6, 7, 8, 9, 10, 11, 12, 13, 14, 15, 16, 17, 18, 19, 20, 21, 22, 23] σ τ ∧ ((P.a - st ≤ 6 ∧ kix (nmc t st P.a 6) < 9 ∧ r = some (.int (nI (kix (nmc t st P.a 6))))) ∨ (¬ (P.a - st ≤ 6 ∧ kix (nmc t st P.a 6) < 9) ∧ r = some (.int (-1)))))) (h1 : HS V c ⟨T, Z, u, h, P, L⟩ [0, 1, 2, 3, 4, 5, 6, 7, 8, 9, 10, 11, 12, 13, 14, 15, 16, 17, 18, 19, 20, 21, 22, 23] σ σ) (f20 : fld σ c 20 = some (.int (nI st))) (hB : BR σ c n t) (hn7 : n ≤ 700) (hsa : st < P.a) (hpn : P.a ≤ n) (hl : ∀ i, st ≤ i → i < P.a → isL (t i) = true) (hm : ∀ m, m < 0 → ¬ mw t st P.a m) : Wm V X 4 N σ 0 0 4 [(1, .int 0), (2, .int 0), (0, .ref c)] [] := by
  refine m_iload_n F rfl e_X10_wordHere_4 ?_
  refine m_ldcS F e_X10_wordHere_5 F.sw.1.2.2 ?_
  refine m_callO F e_X10_wordHere_7 (q_length (x_l X) V _ _) cb_J0_length_8abf5 ml_X10_132 im_J0_length_8abf5 se_J0_length_8abf5 F.sw.2.2.2.2.2.2.1 rfl (rest := [.int 0]) rfl (Nat.le_of_ble_eq_true rfl) ⟨Nat.le_of_ble_eq_true rfl, Nat.le_of_ble_eq_true rfl⟩ ⟨Nat.le_of_ble_eq_true rfl, Nat.le_of_ble_eq_true rfl⟩ (k' := 0) (z' := 0) (N' := N) rfl rfl rfl (fun r σ11110 hp => ?_)
  obtain ⟨rfl, rfl⟩ := hp
  refine m_icmp_ge F e_X10_wordHere_10 (fun q => absurd q (by decide)) (fun _ => ?_)
  refine m_iconst F (v := 0) (by decide) e_X10_wordHere_13 ?_
  refine m_istore_n F (lv' := [(3, .int 0), (1, .int 0), (2, .int 0), (0, .ref c)]) e_X10_wordHere_14 (by decide) rfl ?_
  refine m_ldcS F e_X10_wordHere_15 F.sw.1.2.2 ?_
  refine m_iload_n F rfl e_X10_wordHere_17 ?_
  refine m_iload_n F rfl e_X10_wordHere_18 ?_
  refine m_iadd F e_X10_wordHere_19 ?_
  refine Wm.topE (w := 0) (by decide) ?_
  refine m_callO F e_X10_wordHere_20 (q_charAt (x_l X) V _ _ 0 (by omega)) cb_J0_charAt_5068e ml_X10_137 im_J0_charAt_5068e se_J0_charAt_5068e F.sw.2.2.2.2.2.2.1 rfl (rest := []) rfl (Nat.le_of_ble_eq_true rfl) ⟨Nat.le_of_ble_eq_true rfl, Nat.le_of_ble_eq_true rfl⟩ ⟨Nat.le_of_ble_eq_true rfl, Nat.le_of_ble_eq_true rfl⟩ (k' := 0) (z' := 0) (N' := N) rfl rfl rfl (fun r σ11111 hp => ?_)
  obtain ⟨rfl, rfl⟩ := hp
  refine Wm.topE (w := 108) (by decide) ?_
  refine m_bipush F (v := 32) (by decide) e_X10_wordHere_23 ?_
  refine m_icmp_eq F e_X10_wordHere_25 (fun q => absurd q (by decide)) (fun _ => ?_)
  refine m_aload_n F rfl e_X10_wordHere_28 ?_
  refine r_getC F e_X10_wordHere_29 fl_X10_107 h1 (f20) ?_
  refine m_iload_n F rfl e_X10_wordHere_32 ?_
  refine m_iadd F e_X10_wordHere_33 ?_
  refine Wm.topE (w := nI st) (nI_add st 0) ?_
  refine m_aload_n F rfl e_X10_wordHere_34 ?_
  refine r_get F e_X10_wordHere_35 fl_X10_97 h1 rfl (fun v hv f11112 => ?_)
  obtain rfl : v = .int (nI (P.a)) := hv
  refine m_icmp_ge F e_X10_wordHere_38 (fun q38 => ?_) (fun q38 => ?_)
  · have c38 : st ≥ P.a := (nI_leI (a := P.a) (b := st) (by omega) (by omega)).mp q38
    refine m_ldcS F e_X10_wordHere_69 F.sw.1.2.2 ?_
    refine m_iload_n F rfl e_X10_wordHere_71 ?_
    refine m_iload_n F rfl e_X10_wordHere_72 ?_
    refine m_iadd F e_X10_wordHere_73 ?_
    refine Wm.topE (w := 0) (by decide) ?_
    refine m_callO F e_X10_wordHere_74 (q_charAt (x_l X) V _ _ 0 (by omega)) cb_J0_charAt_5068e ml_X10_137 im_J0_charAt_5068e se_J0_charAt_5068e F.sw.2.2.2.2.2.2.1 rfl (rest := []) rfl (Nat.le_of_ble_eq_true rfl) ⟨Nat.le_of_ble_eq_true rfl, Nat.le_of_ble_eq_true rfl⟩ ⟨Nat.le_of_ble_eq_true rfl, Nat.le_of_ble_eq_true rfl⟩ (k' := 0) (z' := 0) (N' := N) rfl rfl rfl (fun r σ11113 hp => ?_)
    obtain ⟨rfl, rfl⟩ := hp
    refine Wm.topE (w := 108) (by decide) ?_
    refine m_bipush F (v := 32) (by decide) e_X10_wordHere_77 ?_
    refine m_icmp_ne F e_X10_wordHere_79 (fun _ => ?_) (fun q => absurd q (by decide))
    refine Wm.lvsub (lv' := [(1, .int 0), (2, .int 0), (0, .ref c)]) ?_ [1, 2, 3] rfl
    exact wk_0 F hQ h1 f20 hB hn7 hsa hpn hl hm (fun hz => by have z1 : P.a = st + 5 := hz.1; have z2 : t (st) = 108 := hz.2 0 (by decide); omega)
  · have c38 : st < P.a := by have hh := mt (nI_leI (a := P.a) (b := st) (by omega) (by omega)).mpr q38; omega
    refine m_aload_n F rfl e_X10_wordHere_41 ?_
    refine r_get F e_X10_wordHere_42 fl_X10_7 h1 rfl (fun v hv f11114 => ?_)
    obtain rfl : v = .ref (c + 1) := hv
    refine m_aload_n F rfl e_X10_wordHere_45 ?_
    refine r_getC F e_X10_wordHere_46 fl_X10_107 h1 (f20) ?_
    refine m_iload_n F rfl e_X10_wordHere_49 ?_
    refine m_iadd F e_X10_wordHere_50 ?_
    refine Wm.topE (w := nI st) (nI_add st 0) ?_
    have hb11115 := (hB st (by omega)).1
    refine r_iald F (len := 700) (j := st) e_X10_wordHere_51 h1 (fun _ h => h) (by decide) (nI_clamp (by omega)) (vp_in_nI (by omega) (by decide)) (fun x11116 h11117 f11118 => ?_)
    obtain rfl := Option.some.inj ((f11118).symm.trans ((hB st (by omega)).2))
    refine m_ldcS F e_X10_wordHere_52 F.sw.1.2.2 ?_
    refine m_iload_n F rfl e_X10_wordHere_54 ?_
    refine m_iload_n F rfl e_X10_wordHere_55 ?_
    refine m_iadd F e_X10_wordHere_56 ?_
    refine Wm.topE (w := 0) (by decide) ?_
    refine m_callO F e_X10_wordHere_57 (q_charAt (x_l X) V _ _ 0 (by omega)) cb_J0_charAt_5068e ml_X10_137 im_J0_charAt_5068e se_J0_charAt_5068e F.sw.2.2.2.2.2.2.1 rfl (rest := [.int (nI (t st))]) rfl (Nat.le_of_ble_eq_true rfl) ⟨Nat.le_of_ble_eq_true rfl, Nat.le_of_ble_eq_true rfl⟩ ⟨Nat.le_of_ble_eq_true rfl, Nat.le_of_ble_eq_true rfl⟩ (k' := 0) (z' := 0) (N' := N) rfl rfl rfl (fun r σ11119 hp => ?_)
    obtain ⟨rfl, rfl⟩ := hp
    refine Wm.topE (w := 108) (by decide) ?_
    refine m_icmp_ne F e_X10_wordHere_60 (fun q60 => ?_) (fun q60 => ?_)
    · have c60 : (t st) ≠ 108 := by have hh := mt (nI_eq (a := (t st)) (b := 108) (by omega) (by omega)).mpr q60; omega
      refine m_ldcS F e_X10_wordHere_69 F.sw.1.2.2 ?_
      refine m_iload_n F rfl e_X10_wordHere_71 ?_
      refine m_iload_n F rfl e_X10_wordHere_72 ?_
      refine m_iadd F e_X10_wordHere_73 ?_
      refine Wm.topE (w := 0) (by decide) ?_
      refine m_callO F e_X10_wordHere_74 (q_charAt (x_l X) V _ _ 0 (by omega)) cb_J0_charAt_5068e ml_X10_137 im_J0_charAt_5068e se_J0_charAt_5068e F.sw.2.2.2.2.2.2.1 rfl (rest := []) rfl (Nat.le_of_ble_eq_true rfl) ⟨Nat.le_of_ble_eq_true rfl, Nat.le_of_ble_eq_true rfl⟩ ⟨Nat.le_of_ble_eq_true rfl, Nat.le_of_ble_eq_true rfl⟩ (k' := 0) (z' := 0) (N' := N) rfl rfl rfl (fun r σ11120 hp => ?_)
      obtain ⟨rfl, rfl⟩ := hp
      refine Wm.topE (w := 108) (by decide) ?_
      refine m_bipush F (v := 32) (by decide) e_X10_wordHere_77 ?_
      refine m_icmp_ne F e_X10_wordHere_79 (fun _ => ?_) (fun q => absurd q (by decide))
      refine Wm.lvsub (lv' := [(1, .int 0), (2, .int 0), (0, .ref c)]) ?_ [1, 2, 3] rfl
      exact wk_0 F hQ h1 f20 hB hn7 hsa hpn hl hm (fun hz => by have z1 : P.a = st + 5 := hz.1; have z2 : t (st) = 108 := hz.2 0 (by decide); omega)
    · have c60 : (t st) = 108 := (nI_eq (a := (t st)) (b := 108) (by omega) (by omega)).mp q60
      refine m_iinc F (v := 1) (lv' := [(3, .int 1), (1, .int 0), (2, .int 0), (0, .ref c)]) e_X10_wordHere_63 rfl (by decide) (by decide) rfl ?_
      refine m_goto F e_X10_wordHere_66 ?_
      refine m_ldcS F e_X10_wordHere_15 F.sw.1.2.2 ?_
      refine m_iload_n F rfl e_X10_wordHere_17 ?_
      refine m_iload_n F rfl e_X10_wordHere_18 ?_
      refine m_iadd F e_X10_wordHere_19 ?_
      refine Wm.topE (w := 1) (by decide) ?_
      refine m_callO F e_X10_wordHere_20 (q_charAt (x_l X) V _ _ 1 (by omega)) cb_J0_charAt_5068e ml_X10_137 im_J0_charAt_5068e se_J0_charAt_5068e F.sw.2.2.2.2.2.2.1 rfl (rest := []) rfl (Nat.le_of_ble_eq_true rfl) ⟨Nat.le_of_ble_eq_true rfl, Nat.le_of_ble_eq_true rfl⟩ ⟨Nat.le_of_ble_eq_true rfl, Nat.le_of_ble_eq_true rfl⟩ (k' := 0) (z' := 0) (N' := N) rfl rfl rfl (fun r σ11121 hp => ?_)
      obtain ⟨rfl, rfl⟩ := hp
      refine Wm.topE (w := 101) (by decide) ?_
      refine m_bipush F (v := 32) (by decide) e_X10_wordHere_23 ?_
      refine m_icmp_eq F e_X10_wordHere_25 (fun q => absurd q (by decide)) (fun _ => ?_)
      refine m_aload_n F rfl e_X10_wordHere_28 ?_
      refine r_getC F e_X10_wordHere_29 fl_X10_107 h1 (f20) ?_
      refine m_iload_n F rfl e_X10_wordHere_32 ?_
      refine m_iadd F e_X10_wordHere_33 ?_
      refine Wm.topE (w := nI (st + 1)) (nI_add st 1) ?_
      refine m_aload_n F rfl e_X10_wordHere_34 ?_
      refine r_getC F e_X10_wordHere_35 fl_X10_97 h1 (f11112) ?_
      refine m_icmp_ge F e_X10_wordHere_38 (fun q38 => ?_) (fun q38 => ?_)
      · have c38 : (st + 1) ≥ P.a := (nI_leI (a := P.a) (b := (st + 1)) (by omega) (by omega)).mp q38
        refine m_ldcS F e_X10_wordHere_69 F.sw.1.2.2 ?_
        refine m_iload_n F rfl e_X10_wordHere_71 ?_
        refine m_iload_n F rfl e_X10_wordHere_72 ?_
        refine m_iadd F e_X10_wordHere_73 ?_
        refine Wm.topE (w := 1) (by decide) ?_
        refine m_callO F e_X10_wordHere_74 (q_charAt (x_l X) V _ _ 1 (by omega)) cb_J0_charAt_5068e ml_X10_137 im_J0_charAt_5068e se_J0_charAt_5068e F.sw.2.2.2.2.2.2.1 rfl (rest := []) rfl (Nat.le_of_ble_eq_true rfl) ⟨Nat.le_of_ble_eq_true rfl, Nat.le_of_ble_eq_true rfl⟩ ⟨Nat.le_of_ble_eq_true rfl, Nat.le_of_ble_eq_true rfl⟩ (k' := 0) (z' := 0) (N' := N) rfl rfl rfl (fun r σ11122 hp => ?_)
        obtain ⟨rfl, rfl⟩ := hp
        refine Wm.topE (w := 101) (by decide) ?_
        refine m_bipush F (v := 32) (by decide) e_X10_wordHere_77 ?_
        refine m_icmp_ne F e_X10_wordHere_79 (fun _ => ?_) (fun q => absurd q (by decide))
        refine Wm.lvsub (lv' := [(1, .int 0), (2, .int 0), (0, .ref c)]) ?_ [1, 2, 3] rfl
        exact wk_0 F hQ h1 f20 hB hn7 hsa hpn hl hm (fun hz => by have z1 : P.a = st + 5 := hz.1; have z2 : t (st + 1) = 101 := hz.2 1 (by decide); omega)
      · have c38 : (st + 1) < P.a := by have hh := mt (nI_leI (a := P.a) (b := (st + 1)) (by omega) (by omega)).mpr q38; omega
        refine m_aload_n F rfl e_X10_wordHere_41 ?_
        refine r_getC F e_X10_wordHere_42 fl_X10_7 h1 (f11114) ?_
        refine m_aload_n F rfl e_X10_wordHere_45 ?_
        refine r_getC F e_X10_wordHere_46 fl_X10_107 h1 (f20) ?_
        refine m_iload_n F rfl e_X10_wordHere_49 ?_
        refine m_iadd F e_X10_wordHere_50 ?_
        refine Wm.topE (w := nI (st + 1)) (nI_add st 1) ?_
        have hb11123 := (hB (st + 1) (by omega)).1
        refine r_iald F (len := 700) (j := st + 1) e_X10_wordHere_51 h1 (fun _ h => h) (by decide) (nI_clamp (by omega)) (vp_in_nI (by omega) (by decide)) (fun x11124 h11125 f11126 => ?_)
        obtain rfl := Option.some.inj ((f11126).symm.trans ((hB (st + 1) (by omega)).2))
        refine m_ldcS F e_X10_wordHere_52 F.sw.1.2.2 ?_
        refine m_iload_n F rfl e_X10_wordHere_54 ?_
        refine m_iload_n F rfl e_X10_wordHere_55 ?_
        refine m_iadd F e_X10_wordHere_56 ?_
        refine Wm.topE (w := 1) (by decide) ?_
        refine m_callO F e_X10_wordHere_57 (q_charAt (x_l X) V _ _ 1 (by omega)) cb_J0_charAt_5068e ml_X10_137 im_J0_charAt_5068e se_J0_charAt_5068e F.sw.2.2.2.2.2.2.1 rfl (rest := [.int (nI (t (st + 1)))]) rfl (Nat.le_of_ble_eq_true rfl) ⟨Nat.le_of_ble_eq_true rfl, Nat.le_of_ble_eq_true rfl⟩ ⟨Nat.le_of_ble_eq_true rfl, Nat.le_of_ble_eq_true rfl⟩ (k' := 0) (z' := 0) (N' := N) rfl rfl rfl (fun r σ11127 hp => ?_)
        obtain ⟨rfl, rfl⟩ := hp
        refine Wm.topE (w := 101) (by decide) ?_
        refine m_icmp_ne F e_X10_wordHere_60 (fun q60 => ?_) (fun q60 => ?_)
        · have c60 : (t (st + 1)) ≠ 101 := by have hh := mt (nI_eq (a := (t (st + 1))) (b := 101) (by omega) (by omega)).mpr q60; omega
          refine m_ldcS F e_X10_wordHere_69 F.sw.1.2.2 ?_
          refine m_iload_n F rfl e_X10_wordHere_71 ?_
          refine m_iload_n F rfl e_X10_wordHere_72 ?_
          refine m_iadd F e_X10_wordHere_73 ?_
          refine Wm.topE (w := 1) (by decide) ?_
          refine m_callO F e_X10_wordHere_74 (q_charAt (x_l X) V _ _ 1 (by omega)) cb_J0_charAt_5068e ml_X10_137 im_J0_charAt_5068e se_J0_charAt_5068e F.sw.2.2.2.2.2.2.1 rfl (rest := []) rfl (Nat.le_of_ble_eq_true rfl) ⟨Nat.le_of_ble_eq_true rfl, Nat.le_of_ble_eq_true rfl⟩ ⟨Nat.le_of_ble_eq_true rfl, Nat.le_of_ble_eq_true rfl⟩ (k' := 0) (z' := 0) (N' := N) rfl rfl rfl (fun r σ11128 hp => ?_)
          obtain ⟨rfl, rfl⟩ := hp
          refine Wm.topE (w := 101) (by decide) ?_
          refine m_bipush F (v := 32) (by decide) e_X10_wordHere_77 ?_
          refine m_icmp_ne F e_X10_wordHere_79 (fun _ => ?_) (fun q => absurd q (by decide))
          refine Wm.lvsub (lv' := [(1, .int 0), (2, .int 0), (0, .ref c)]) ?_ [1, 2, 3] rfl
          exact wk_0 F hQ h1 f20 hB hn7 hsa hpn hl hm (fun hz => by have z1 : P.a = st + 5 := hz.1; have z2 : t (st + 1) = 101 := hz.2 1 (by decide); omega)
        · have c60 : (t (st + 1)) = 101 := (nI_eq (a := (t (st + 1))) (b := 101) (by omega) (by omega)).mp q60
          refine m_iinc F (v := 2) (lv' := [(3, .int 2), (1, .int 0), (2, .int 0), (0, .ref c)]) e_X10_wordHere_63 rfl (by decide) (by decide) rfl ?_
          refine m_goto F e_X10_wordHere_66 ?_
          refine m_ldcS F e_X10_wordHere_15 F.sw.1.2.2 ?_
          refine m_iload_n F rfl e_X10_wordHere_17 ?_
          refine m_iload_n F rfl e_X10_wordHere_18 ?_
          refine m_iadd F e_X10_wordHere_19 ?_
          refine Wm.topE (w := 2) (by decide) ?_
          refine m_callO F e_X10_wordHere_20 (q_charAt (x_l X) V _ _ 2 (by omega)) cb_J0_charAt_5068e ml_X10_137 im_J0_charAt_5068e se_J0_charAt_5068e F.sw.2.2.2.2.2.2.1 rfl (rest := []) rfl (Nat.le_of_ble_eq_true rfl) ⟨Nat.le_of_ble_eq_true rfl, Nat.le_of_ble_eq_true rfl⟩ ⟨Nat.le_of_ble_eq_true rfl, Nat.le_of_ble_eq_true rfl⟩ (k' := 0) (z' := 0) (N' := N) rfl rfl rfl (fun r σ11129 hp => ?_)
          obtain ⟨rfl, rfl⟩ := hp
          refine Wm.topE (w := 97) (by decide) ?_
          refine m_bipush F (v := 32) (by decide) e_X10_wordHere_23 ?_
          refine m_icmp_eq F e_X10_wordHere_25 (fun q => absurd q (by decide)) (fun _ => ?_)
          refine m_aload_n F rfl e_X10_wordHere_28 ?_
          refine r_getC F e_X10_wordHere_29 fl_X10_107 h1 (f20) ?_
          refine m_iload_n F rfl e_X10_wordHere_32 ?_
          refine m_iadd F e_X10_wordHere_33 ?_
          refine Wm.topE (w := nI (st + 2)) (nI_add st 2) ?_
          refine m_aload_n F rfl e_X10_wordHere_34 ?_
          refine r_getC F e_X10_wordHere_35 fl_X10_97 h1 (f11112) ?_
          refine m_icmp_ge F e_X10_wordHere_38 (fun q38 => ?_) (fun q38 => ?_)
          · have c38 : (st + 2) ≥ P.a := (nI_leI (a := P.a) (b := (st + 2)) (by omega) (by omega)).mp q38
            refine m_ldcS F e_X10_wordHere_69 F.sw.1.2.2 ?_
            refine m_iload_n F rfl e_X10_wordHere_71 ?_
            refine m_iload_n F rfl e_X10_wordHere_72 ?_
            refine m_iadd F e_X10_wordHere_73 ?_
            refine Wm.topE (w := 2) (by decide) ?_
            refine m_callO F e_X10_wordHere_74 (q_charAt (x_l X) V _ _ 2 (by omega)) cb_J0_charAt_5068e ml_X10_137 im_J0_charAt_5068e se_J0_charAt_5068e F.sw.2.2.2.2.2.2.1 rfl (rest := []) rfl (Nat.le_of_ble_eq_true rfl) ⟨Nat.le_of_ble_eq_true rfl, Nat.le_of_ble_eq_true rfl⟩ ⟨Nat.le_of_ble_eq_true rfl, Nat.le_of_ble_eq_true rfl⟩ (k' := 0) (z' := 0) (N' := N) rfl rfl rfl (fun r σ11130 hp => ?_)
            obtain ⟨rfl, rfl⟩ := hp
            refine Wm.topE (w := 97) (by decide) ?_
            refine m_bipush F (v := 32) (by decide) e_X10_wordHere_77 ?_
            refine m_icmp_ne F e_X10_wordHere_79 (fun _ => ?_) (fun q => absurd q (by decide))
            refine Wm.lvsub (lv' := [(1, .int 0), (2, .int 0), (0, .ref c)]) ?_ [1, 2, 3] rfl
            exact wk_0 F hQ h1 f20 hB hn7 hsa hpn hl hm (fun hz => by have z1 : P.a = st + 5 := hz.1; have z2 : t (st + 2) = 97 := hz.2 2 (by decide); omega)
          · have c38 : (st + 2) < P.a := by have hh := mt (nI_leI (a := P.a) (b := (st + 2)) (by omega) (by omega)).mpr q38; omega
            refine m_aload_n F rfl e_X10_wordHere_41 ?_
            refine r_getC F e_X10_wordHere_42 fl_X10_7 h1 (f11114) ?_
            refine m_aload_n F rfl e_X10_wordHere_45 ?_
            refine r_getC F e_X10_wordHere_46 fl_X10_107 h1 (f20) ?_
            refine m_iload_n F rfl e_X10_wordHere_49 ?_
            refine m_iadd F e_X10_wordHere_50 ?_
            refine Wm.topE (w := nI (st + 2)) (nI_add st 2) ?_
            have hb11131 := (hB (st + 2) (by omega)).1
            refine r_iald F (len := 700) (j := st + 2) e_X10_wordHere_51 h1 (fun _ h => h) (by decide) (nI_clamp (by omega)) (vp_in_nI (by omega) (by decide)) (fun x11132 h11133 f11134 => ?_)
            obtain rfl := Option.some.inj ((f11134).symm.trans ((hB (st + 2) (by omega)).2))
            refine m_ldcS F e_X10_wordHere_52 F.sw.1.2.2 ?_
            refine m_iload_n F rfl e_X10_wordHere_54 ?_
            refine m_iload_n F rfl e_X10_wordHere_55 ?_
            refine m_iadd F e_X10_wordHere_56 ?_
            refine Wm.topE (w := 2) (by decide) ?_
            refine m_callO F e_X10_wordHere_57 (q_charAt (x_l X) V _ _ 2 (by omega)) cb_J0_charAt_5068e ml_X10_137 im_J0_charAt_5068e se_J0_charAt_5068e F.sw.2.2.2.2.2.2.1 rfl (rest := [.int (nI (t (st + 2)))]) rfl (Nat.le_of_ble_eq_true rfl) ⟨Nat.le_of_ble_eq_true rfl, Nat.le_of_ble_eq_true rfl⟩ ⟨Nat.le_of_ble_eq_true rfl, Nat.le_of_ble_eq_true rfl⟩ (k' := 0) (z' := 0) (N' := N) rfl rfl rfl (fun r σ11135 hp => ?_)
            obtain ⟨rfl, rfl⟩ := hp
            refine Wm.topE (w := 97) (by decide) ?_
            refine m_icmp_ne F e_X10_wordHere_60 (fun q60 => ?_) (fun q60 => ?_)
            · have c60 : (t (st + 2)) ≠ 97 := by have hh := mt (nI_eq (a := (t (st + 2))) (b := 97) (by omega) (by omega)).mpr q60; omega
              refine m_ldcS F e_X10_wordHere_69 F.sw.1.2.2 ?_
              refine m_iload_n F rfl e_X10_wordHere_71 ?_
              refine m_iload_n F rfl e_X10_wordHere_72 ?_
              refine m_iadd F e_X10_wordHere_73 ?_
              refine Wm.topE (w := 2) (by decide) ?_
              refine m_callO F e_X10_wordHere_74 (q_charAt (x_l X) V _ _ 2 (by omega)) cb_J0_charAt_5068e ml_X10_137 im_J0_charAt_5068e se_J0_charAt_5068e F.sw.2.2.2.2.2.2.1 rfl (rest := []) rfl (Nat.le_of_ble_eq_true rfl) ⟨Nat.le_of_ble_eq_true rfl, Nat.le_of_ble_eq_true rfl⟩ ⟨Nat.le_of_ble_eq_true rfl, Nat.le_of_ble_eq_true rfl⟩ (k' := 0) (z' := 0) (N' := N) rfl rfl rfl (fun r σ11136 hp => ?_)
              obtain ⟨rfl, rfl⟩ := hp
              refine Wm.topE (w := 97) (by decide) ?_
              refine m_bipush F (v := 32) (by decide) e_X10_wordHere_77 ?_
              refine m_icmp_ne F e_X10_wordHere_79 (fun _ => ?_) (fun q => absurd q (by decide))
              refine Wm.lvsub (lv' := [(1, .int 0), (2, .int 0), (0, .ref c)]) ?_ [1, 2, 3] rfl
              exact wk_0 F hQ h1 f20 hB hn7 hsa hpn hl hm (fun hz => by have z1 : P.a = st + 5 := hz.1; have z2 : t (st + 2) = 97 := hz.2 2 (by decide); omega)
            · have c60 : (t (st + 2)) = 97 := (nI_eq (a := (t (st + 2))) (b := 97) (by omega) (by omega)).mp q60
              refine m_iinc F (v := 3) (lv' := [(3, .int 3), (1, .int 0), (2, .int 0), (0, .ref c)]) e_X10_wordHere_63 rfl (by decide) (by decide) rfl ?_
              refine m_goto F e_X10_wordHere_66 ?_
              refine m_ldcS F e_X10_wordHere_15 F.sw.1.2.2 ?_
              refine m_iload_n F rfl e_X10_wordHere_17 ?_
              refine m_iload_n F rfl e_X10_wordHere_18 ?_
              refine m_iadd F e_X10_wordHere_19 ?_
              refine Wm.topE (w := 3) (by decide) ?_
              refine m_callO F e_X10_wordHere_20 (q_charAt (x_l X) V _ _ 3 (by omega)) cb_J0_charAt_5068e ml_X10_137 im_J0_charAt_5068e se_J0_charAt_5068e F.sw.2.2.2.2.2.2.1 rfl (rest := []) rfl (Nat.le_of_ble_eq_true rfl) ⟨Nat.le_of_ble_eq_true rfl, Nat.le_of_ble_eq_true rfl⟩ ⟨Nat.le_of_ble_eq_true rfl, Nat.le_of_ble_eq_true rfl⟩ (k' := 0) (z' := 0) (N' := N) rfl rfl rfl (fun r σ11137 hp => ?_)
              obtain ⟨rfl, rfl⟩ := hp
              refine Wm.topE (w := 115) (by decide) ?_
              refine m_bipush F (v := 32) (by decide) e_X10_wordHere_23 ?_
              refine m_icmp_eq F e_X10_wordHere_25 (fun q => absurd q (by decide)) (fun _ => ?_)
              refine m_aload_n F rfl e_X10_wordHere_28 ?_
              refine r_getC F e_X10_wordHere_29 fl_X10_107 h1 (f20) ?_
              refine m_iload_n F rfl e_X10_wordHere_32 ?_
              refine m_iadd F e_X10_wordHere_33 ?_
              refine Wm.topE (w := nI (st + 3)) (nI_add st 3) ?_
              refine m_aload_n F rfl e_X10_wordHere_34 ?_
              refine r_getC F e_X10_wordHere_35 fl_X10_97 h1 (f11112) ?_
              refine m_icmp_ge F e_X10_wordHere_38 (fun q38 => ?_) (fun q38 => ?_)
              · have c38 : (st + 3) ≥ P.a := (nI_leI (a := P.a) (b := (st + 3)) (by omega) (by omega)).mp q38
                refine m_ldcS F e_X10_wordHere_69 F.sw.1.2.2 ?_
                refine m_iload_n F rfl e_X10_wordHere_71 ?_
                refine m_iload_n F rfl e_X10_wordHere_72 ?_
                refine m_iadd F e_X10_wordHere_73 ?_
                refine Wm.topE (w := 3) (by decide) ?_
                refine m_callO F e_X10_wordHere_74 (q_charAt (x_l X) V _ _ 3 (by omega)) cb_J0_charAt_5068e ml_X10_137 im_J0_charAt_5068e se_J0_charAt_5068e F.sw.2.2.2.2.2.2.1 rfl (rest := []) rfl (Nat.le_of_ble_eq_true rfl) ⟨Nat.le_of_ble_eq_true rfl, Nat.le_of_ble_eq_true rfl⟩ ⟨Nat.le_of_ble_eq_true rfl, Nat.le_of_ble_eq_true rfl⟩ (k' := 0) (z' := 0) (N' := N) rfl rfl rfl (fun r σ11138 hp => ?_)
                obtain ⟨rfl, rfl⟩ := hp
                refine Wm.topE (w := 115) (by decide) ?_
                refine m_bipush F (v := 32) (by decide) e_X10_wordHere_77 ?_
                refine m_icmp_ne F e_X10_wordHere_79 (fun _ => ?_) (fun q => absurd q (by decide))
                refine Wm.lvsub (lv' := [(1, .int 0), (2, .int 0), (0, .ref c)]) ?_ [1, 2, 3] rfl
                exact wk_0 F hQ h1 f20 hB hn7 hsa hpn hl hm (fun hz => by have z1 : P.a = st + 5 := hz.1; have z2 : t (st + 3) = 115 := hz.2 3 (by decide); omega)
              · have c38 : (st + 3) < P.a := by have hh := mt (nI_leI (a := P.a) (b := (st + 3)) (by omega) (by omega)).mpr q38; omega
                refine m_aload_n F rfl e_X10_wordHere_41 ?_
                refine r_getC F e_X10_wordHere_42 fl_X10_7 h1 (f11114) ?_
                refine m_aload_n F rfl e_X10_wordHere_45 ?_
                refine r_getC F e_X10_wordHere_46 fl_X10_107 h1 (f20) ?_
                refine m_iload_n F rfl e_X10_wordHere_49 ?_
                refine m_iadd F e_X10_wordHere_50 ?_
                refine Wm.topE (w := nI (st + 3)) (nI_add st 3) ?_
                have hb11139 := (hB (st + 3) (by omega)).1
                refine r_iald F (len := 700) (j := st + 3) e_X10_wordHere_51 h1 (fun _ h => h) (by decide) (nI_clamp (by omega)) (vp_in_nI (by omega) (by decide)) (fun x11140 h11141 f11142 => ?_)
                obtain rfl := Option.some.inj ((f11142).symm.trans ((hB (st + 3) (by omega)).2))
                refine m_ldcS F e_X10_wordHere_52 F.sw.1.2.2 ?_
                refine m_iload_n F rfl e_X10_wordHere_54 ?_
                refine m_iload_n F rfl e_X10_wordHere_55 ?_
                refine m_iadd F e_X10_wordHere_56 ?_
                refine Wm.topE (w := 3) (by decide) ?_
                refine m_callO F e_X10_wordHere_57 (q_charAt (x_l X) V _ _ 3 (by omega)) cb_J0_charAt_5068e ml_X10_137 im_J0_charAt_5068e se_J0_charAt_5068e F.sw.2.2.2.2.2.2.1 rfl (rest := [.int (nI (t (st + 3)))]) rfl (Nat.le_of_ble_eq_true rfl) ⟨Nat.le_of_ble_eq_true rfl, Nat.le_of_ble_eq_true rfl⟩ ⟨Nat.le_of_ble_eq_true rfl, Nat.le_of_ble_eq_true rfl⟩ (k' := 0) (z' := 0) (N' := N) rfl rfl rfl (fun r σ11143 hp => ?_)
                obtain ⟨rfl, rfl⟩ := hp
                refine Wm.topE (w := 115) (by decide) ?_
                refine m_icmp_ne F e_X10_wordHere_60 (fun q60 => ?_) (fun q60 => ?_)
                · have c60 : (t (st + 3)) ≠ 115 := by have hh := mt (nI_eq (a := (t (st + 3))) (b := 115) (by omega) (by omega)).mpr q60; omega
                  refine m_ldcS F e_X10_wordHere_69 F.sw.1.2.2 ?_
                  refine m_iload_n F rfl e_X10_wordHere_71 ?_
                  refine m_iload_n F rfl e_X10_wordHere_72 ?_
                  refine m_iadd F e_X10_wordHere_73 ?_
                  refine Wm.topE (w := 3) (by decide) ?_
                  refine m_callO F e_X10_wordHere_74 (q_charAt (x_l X) V _ _ 3 (by omega)) cb_J0_charAt_5068e ml_X10_137 im_J0_charAt_5068e se_J0_charAt_5068e F.sw.2.2.2.2.2.2.1 rfl (rest := []) rfl (Nat.le_of_ble_eq_true rfl) ⟨Nat.le_of_ble_eq_true rfl, Nat.le_of_ble_eq_true rfl⟩ ⟨Nat.le_of_ble_eq_true rfl, Nat.le_of_ble_eq_true rfl⟩ (k' := 0) (z' := 0) (N' := N) rfl rfl rfl (fun r σ11144 hp => ?_)
                  obtain ⟨rfl, rfl⟩ := hp
                  refine Wm.topE (w := 115) (by decide) ?_
                  refine m_bipush F (v := 32) (by decide) e_X10_wordHere_77 ?_
                  refine m_icmp_ne F e_X10_wordHere_79 (fun _ => ?_) (fun q => absurd q (by decide))
                  refine Wm.lvsub (lv' := [(1, .int 0), (2, .int 0), (0, .ref c)]) ?_ [1, 2, 3] rfl
                  exact wk_0 F hQ h1 f20 hB hn7 hsa hpn hl hm (fun hz => by have z1 : P.a = st + 5 := hz.1; have z2 : t (st + 3) = 115 := hz.2 3 (by decide); omega)
                · have c60 : (t (st + 3)) = 115 := (nI_eq (a := (t (st + 3))) (b := 115) (by omega) (by omega)).mp q60
                  refine m_iinc F (v := 4) (lv' := [(3, .int 4), (1, .int 0), (2, .int 0), (0, .ref c)]) e_X10_wordHere_63 rfl (by decide) (by decide) rfl ?_
                  refine m_goto F e_X10_wordHere_66 ?_
                  refine m_ldcS F e_X10_wordHere_15 F.sw.1.2.2 ?_
                  refine m_iload_n F rfl e_X10_wordHere_17 ?_
                  refine m_iload_n F rfl e_X10_wordHere_18 ?_
                  refine m_iadd F e_X10_wordHere_19 ?_
                  refine Wm.topE (w := 4) (by decide) ?_
                  refine m_callO F e_X10_wordHere_20 (q_charAt (x_l X) V _ _ 4 (by omega)) cb_J0_charAt_5068e ml_X10_137 im_J0_charAt_5068e se_J0_charAt_5068e F.sw.2.2.2.2.2.2.1 rfl (rest := []) rfl (Nat.le_of_ble_eq_true rfl) ⟨Nat.le_of_ble_eq_true rfl, Nat.le_of_ble_eq_true rfl⟩ ⟨Nat.le_of_ble_eq_true rfl, Nat.le_of_ble_eq_true rfl⟩ (k' := 0) (z' := 0) (N' := N) rfl rfl rfl (fun r σ11145 hp => ?_)
                  obtain ⟨rfl, rfl⟩ := hp
                  refine Wm.topE (w := 101) (by decide) ?_
                  refine m_bipush F (v := 32) (by decide) e_X10_wordHere_23 ?_
                  refine m_icmp_eq F e_X10_wordHere_25 (fun q => absurd q (by decide)) (fun _ => ?_)
                  refine m_aload_n F rfl e_X10_wordHere_28 ?_
                  refine r_getC F e_X10_wordHere_29 fl_X10_107 h1 (f20) ?_
                  refine m_iload_n F rfl e_X10_wordHere_32 ?_
                  refine m_iadd F e_X10_wordHere_33 ?_
                  refine Wm.topE (w := nI (st + 4)) (nI_add st 4) ?_
                  refine m_aload_n F rfl e_X10_wordHere_34 ?_
                  refine r_getC F e_X10_wordHere_35 fl_X10_97 h1 (f11112) ?_
                  refine m_icmp_ge F e_X10_wordHere_38 (fun q38 => ?_) (fun q38 => ?_)
                  · have c38 : (st + 4) ≥ P.a := (nI_leI (a := P.a) (b := (st + 4)) (by omega) (by omega)).mp q38
                    refine m_ldcS F e_X10_wordHere_69 F.sw.1.2.2 ?_
                    refine m_iload_n F rfl e_X10_wordHere_71 ?_
                    refine m_iload_n F rfl e_X10_wordHere_72 ?_
                    refine m_iadd F e_X10_wordHere_73 ?_
                    refine Wm.topE (w := 4) (by decide) ?_
                    refine m_callO F e_X10_wordHere_74 (q_charAt (x_l X) V _ _ 4 (by omega)) cb_J0_charAt_5068e ml_X10_137 im_J0_charAt_5068e se_J0_charAt_5068e F.sw.2.2.2.2.2.2.1 rfl (rest := []) rfl (Nat.le_of_ble_eq_true rfl) ⟨Nat.le_of_ble_eq_true rfl, Nat.le_of_ble_eq_true rfl⟩ ⟨Nat.le_of_ble_eq_true rfl, Nat.le_of_ble_eq_true rfl⟩ (k' := 0) (z' := 0) (N' := N) rfl rfl rfl (fun r σ11146 hp => ?_)
                    obtain ⟨rfl, rfl⟩ := hp
                    refine Wm.topE (w := 101) (by decide) ?_
                    refine m_bipush F (v := 32) (by decide) e_X10_wordHere_77 ?_
                    refine m_icmp_ne F e_X10_wordHere_79 (fun _ => ?_) (fun q => absurd q (by decide))
                    refine Wm.lvsub (lv' := [(1, .int 0), (2, .int 0), (0, .ref c)]) ?_ [1, 2, 3] rfl
                    exact wk_0 F hQ h1 f20 hB hn7 hsa hpn hl hm (fun hz => by have z1 : P.a = st + 5 := hz.1; have z2 : t (st + 4) = 101 := hz.2 4 (by decide); omega)
                  · have c38 : (st + 4) < P.a := by have hh := mt (nI_leI (a := P.a) (b := (st + 4)) (by omega) (by omega)).mpr q38; omega
                    refine m_aload_n F rfl e_X10_wordHere_41 ?_
                    refine r_getC F e_X10_wordHere_42 fl_X10_7 h1 (f11114) ?_
                    refine m_aload_n F rfl e_X10_wordHere_45 ?_
                    refine r_getC F e_X10_wordHere_46 fl_X10_107 h1 (f20) ?_
                    refine m_iload_n F rfl e_X10_wordHere_49 ?_
                    refine m_iadd F e_X10_wordHere_50 ?_
                    refine Wm.topE (w := nI (st + 4)) (nI_add st 4) ?_
                    have hb11147 := (hB (st + 4) (by omega)).1
                    refine r_iald F (len := 700) (j := st + 4) e_X10_wordHere_51 h1 (fun _ h => h) (by decide) (nI_clamp (by omega)) (vp_in_nI (by omega) (by decide)) (fun x11148 h11149 f11150 => ?_)
                    obtain rfl := Option.some.inj ((f11150).symm.trans ((hB (st + 4) (by omega)).2))
                    refine m_ldcS F e_X10_wordHere_52 F.sw.1.2.2 ?_
                    refine m_iload_n F rfl e_X10_wordHere_54 ?_
                    refine m_iload_n F rfl e_X10_wordHere_55 ?_
                    refine m_iadd F e_X10_wordHere_56 ?_
                    refine Wm.topE (w := 4) (by decide) ?_
                    refine m_callO F e_X10_wordHere_57 (q_charAt (x_l X) V _ _ 4 (by omega)) cb_J0_charAt_5068e ml_X10_137 im_J0_charAt_5068e se_J0_charAt_5068e F.sw.2.2.2.2.2.2.1 rfl (rest := [.int (nI (t (st + 4)))]) rfl (Nat.le_of_ble_eq_true rfl) ⟨Nat.le_of_ble_eq_true rfl, Nat.le_of_ble_eq_true rfl⟩ ⟨Nat.le_of_ble_eq_true rfl, Nat.le_of_ble_eq_true rfl⟩ (k' := 0) (z' := 0) (N' := N) rfl rfl rfl (fun r σ11151 hp => ?_)
                    obtain ⟨rfl, rfl⟩ := hp
                    refine Wm.topE (w := 101) (by decide) ?_
                    refine m_icmp_ne F e_X10_wordHere_60 (fun q60 => ?_) (fun q60 => ?_)
                    · have c60 : (t (st + 4)) ≠ 101 := by have hh := mt (nI_eq (a := (t (st + 4))) (b := 101) (by omega) (by omega)).mpr q60; omega
                      refine m_ldcS F e_X10_wordHere_69 F.sw.1.2.2 ?_
                      refine m_iload_n F rfl e_X10_wordHere_71 ?_
                      refine m_iload_n F rfl e_X10_wordHere_72 ?_
                      refine m_iadd F e_X10_wordHere_73 ?_
                      refine Wm.topE (w := 4) (by decide) ?_
                      refine m_callO F e_X10_wordHere_74 (q_charAt (x_l X) V _ _ 4 (by omega)) cb_J0_charAt_5068e ml_X10_137 im_J0_charAt_5068e se_J0_charAt_5068e F.sw.2.2.2.2.2.2.1 rfl (rest := []) rfl (Nat.le_of_ble_eq_true rfl) ⟨Nat.le_of_ble_eq_true rfl, Nat.le_of_ble_eq_true rfl⟩ ⟨Nat.le_of_ble_eq_true rfl, Nat.le_of_ble_eq_true rfl⟩ (k' := 0) (z' := 0) (N' := N) rfl rfl rfl (fun r σ11152 hp => ?_)
                      obtain ⟨rfl, rfl⟩ := hp
                      refine Wm.topE (w := 101) (by decide) ?_
                      refine m_bipush F (v := 32) (by decide) e_X10_wordHere_77 ?_
                      refine m_icmp_ne F e_X10_wordHere_79 (fun _ => ?_) (fun q => absurd q (by decide))
                      refine Wm.lvsub (lv' := [(1, .int 0), (2, .int 0), (0, .ref c)]) ?_ [1, 2, 3] rfl
                      exact wk_0 F hQ h1 f20 hB hn7 hsa hpn hl hm (fun hz => by have z1 : P.a = st + 5 := hz.1; have z2 : t (st + 4) = 101 := hz.2 4 (by decide); omega)
                    · have c60 : (t (st + 4)) = 101 := (nI_eq (a := (t (st + 4))) (b := 101) (by omega) (by omega)).mp q60
                      refine m_iinc F (v := 5) (lv' := [(3, .int 5), (1, .int 0), (2, .int 0), (0, .ref c)]) e_X10_wordHere_63 rfl (by decide) (by decide) rfl ?_
                      refine m_goto F e_X10_wordHere_66 ?_
                      refine m_ldcS F e_X10_wordHere_15 F.sw.1.2.2 ?_
                      refine m_iload_n F rfl e_X10_wordHere_17 ?_
                      refine m_iload_n F rfl e_X10_wordHere_18 ?_
                      refine m_iadd F e_X10_wordHere_19 ?_
                      refine Wm.topE (w := 5) (by decide) ?_
                      refine m_callO F e_X10_wordHere_20 (q_charAt (x_l X) V _ _ 5 (by omega)) cb_J0_charAt_5068e ml_X10_137 im_J0_charAt_5068e se_J0_charAt_5068e F.sw.2.2.2.2.2.2.1 rfl (rest := []) rfl (Nat.le_of_ble_eq_true rfl) ⟨Nat.le_of_ble_eq_true rfl, Nat.le_of_ble_eq_true rfl⟩ ⟨Nat.le_of_ble_eq_true rfl, Nat.le_of_ble_eq_true rfl⟩ (k' := 0) (z' := 0) (N' := N) rfl rfl rfl (fun r σ11153 hp => ?_)
                      obtain ⟨rfl, rfl⟩ := hp
                      refine Wm.topE (w := 32) (by decide) ?_
                      refine m_bipush F (v := 32) (by decide) e_X10_wordHere_23 ?_
                      refine m_icmp_eq F e_X10_wordHere_25 (fun _ => ?_) (fun q => absurd (by decide) q)
                      refine m_ldcS F e_X10_wordHere_69 F.sw.1.2.2 ?_
                      refine m_iload_n F rfl e_X10_wordHere_71 ?_
                      refine m_iload_n F rfl e_X10_wordHere_72 ?_
                      refine m_iadd F e_X10_wordHere_73 ?_
                      refine Wm.topE (w := 5) (by decide) ?_
                      refine m_callO F e_X10_wordHere_74 (q_charAt (x_l X) V _ _ 5 (by omega)) cb_J0_charAt_5068e ml_X10_137 im_J0_charAt_5068e se_J0_charAt_5068e F.sw.2.2.2.2.2.2.1 rfl (rest := []) rfl (Nat.le_of_ble_eq_true rfl) ⟨Nat.le_of_ble_eq_true rfl, Nat.le_of_ble_eq_true rfl⟩ ⟨Nat.le_of_ble_eq_true rfl, Nat.le_of_ble_eq_true rfl⟩ (k' := 0) (z' := 0) (N' := N) rfl rfl rfl (fun r σ11154 hp => ?_)
                      obtain ⟨rfl, rfl⟩ := hp
                      refine Wm.topE (w := 32) (by decide) ?_
                      refine m_bipush F (v := 32) (by decide) e_X10_wordHere_77 ?_
                      refine m_icmp_ne F e_X10_wordHere_79 (fun q => absurd (by decide) q) (fun _ => ?_)
                      refine m_aload_n F rfl e_X10_wordHere_82 ?_
                      refine r_getC F e_X10_wordHere_83 fl_X10_107 h1 (f20) ?_
                      refine m_iload_n F rfl e_X10_wordHere_86 ?_
                      refine m_iadd F e_X10_wordHere_87 ?_
                      refine Wm.topE (w := nI (st + 5)) (nI_add st 5) ?_
                      refine m_aload_n F rfl e_X10_wordHere_88 ?_
                      refine r_getC F e_X10_wordHere_89 fl_X10_97 h1 (f11112) ?_
                      refine m_icmp_ne F e_X10_wordHere_92 (fun q92 => ?_) (fun q92 => ?_)
                      · have c92 : (st + 5) ≠ P.a := by have hh := mt (nI_eq (a := (st + 5)) (b := P.a) (by omega) (by omega)).mpr q92; omega
                        refine Wm.lvsub (lv' := [(1, .int 0), (2, .int 0), (0, .ref c)]) ?_ [1, 2, 3] rfl
                        exact wk_0 F hQ h1 f20 hB hn7 hsa hpn hl hm (fun hz => by have z1 : P.a = st + 5 := hz.1; omega)
                      · have c92 : (st + 5) = P.a := (nI_eq (a := (st + 5)) (b := P.a) (by omega) (by omega)).mp q92
                        refine m_iload_n F rfl e_X10_wordHere_95 ?_
                        have hz : mw t st P.a 0 := by
                          refine ⟨(show P.a = st + 5 by omega), fun i hi => ?_⟩
                          have hi2 : i = 0 ∨ i = 1 ∨ i = 2 ∨ i = 3 ∨ i = 4 := by have hi3 : i < 5 := hi; omega
                          rcases hi2 with rfl | rfl | rfl | rfl | rfl
                          · show t (st + 0) = 108; first | assumption | omega
                          · show t (st + 1) = 101; first | assumption | omega
                          · show t (st + 2) = 97; first | assumption | omega
                          · show t (st + 3) = 115; first | assumption | omega
                          · show t (st + 4) = 101; first | assumption | omega
                        have hy := kix_mw hsa hl (by decide) hz
                        exact m_iret F hQ e_X10_wordHere_96 ⟨h1, Or.inl ⟨hy.1, by rw [hy.2]; decide, by rw [hy.2]; rfl⟩⟩
set_option maxRecDepth 20000 in
theorem q_X10_wordHereE (l : Launch) (V : VX) (c T Z u h : Nat) (P : NP) (L : Nat → LQ) (N : Nat) (σ : Mem) (n st : Nat) (t : Nat → Nat) (h0 : HR V c ⟨T, Z, u, h, P, L⟩ σ) (hob : OKB L) (hP : OKP P) (hp0 : fld σ c 20 = some (.int (nI st))) (hp1 : BR σ c n t) (hp2 : n ≤ 700) (hp3 : st < P.a) (hp4 : P.a ≤ n) (hp5 : ∀ i, st ≤ i → i < P.a → isL (t i) = true) : Ct l V yX10_wordHere cX10_wordHere 4 (some .int) 4 0 0 N σ [.ref c] (fun r τ => HS V c (⟨T, Z, u, h, P, L⟩ : RG) [0, 1, 2, 3, 4, 5, 6, 7, 8, 9, 10, 11, 12, 13, 14, 15, 16, 17, 18, 19, 20, 21, 22, 23] σ τ ∧ ((P.a - st ≤ 6 ∧ kix (nmc t st P.a 6) < 9 ∧ r = some (.int (nI (kix (nmc t st P.a 6))))) ∨ (¬ (P.a - st ≤ 6 ∧ kix (nmc t st P.a 6) < 9) ∧ r = some (.int (-1))))) := by
  refine Ct.of (by decide) (Nat.le_of_ble_eq_true rfl) [(0, .ref c)] rfl (fun X hX F hQ => ?_)
  have hPP := hP
  unfold OKP at hPP
  have h1 : HS V c ⟨T, Z, u, h, P, L⟩ [0, 1, 2, 3, 4, 5, 6, 7, 8, 9, 10, 11, 12, 13, 14, 15, 16, 17, 18, 19, 20, 21, 22, 23] σ σ := HS.start h0
  refine m_iconst F (v := 0) (by decide) e_X10_wordHere_0 ?_
  refine m_istore_n F (lv' := [(1, .int 0), (0, .ref c)]) e_X10_wordHere_1 (by decide) rfl ?_
  refine m_iconst F (v := 0) (by decide) e_X10_wordHere_2 ?_
  refine m_istore_n F (lv' := [(2, .int 0), (1, .int 0), (0, .ref c)]) e_X10_wordHere_3 (by decide) rfl ?_
  refine Wm.lvsub (lv' := [(1, .int 0), (2, .int 0), (0, .ref c)]) ?_ [1, 0, 2] rfl
  exact wh_0 F hQ h1 hp0 hp1 hp2 hp3 hp4 hp5 (fun m hm => absurd hm (Nat.not_lt_zero _))
