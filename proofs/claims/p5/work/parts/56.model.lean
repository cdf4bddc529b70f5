theorem upd_c {c : Int32} {j : Nat} : upd (fun _ => c) j c = (fun _ => c) := by
  funext q; simp [upd]
theorem updL_c {c : Int64} {j : Nat} : vp_updL (fun _ => c) j c = (fun _ => c) := by
  funext q; simp [vp_updL]
def sZ : Nat → Int64 := fillJ (fun _ => 0) 1000 644 744

set_option maxRecDepth 20000 in
theorem k_leases0 (l : Launch) (V : VX) (N : Nat) (σ : Mem) (m : Nat) (v_thrown v_taped v_lines v_size v_at v_place v_sort v_value v_fault v_faultPlace v_lastFault v_lastPlace v_undoable v_hasImage v_drawn : Int32)  (h_obj : σ m = some (ob 8 [.int v_thrown, .ref (m + 1), .int v_taped, .ref (m + 2), .ref (m + 3), .ref (m + 4), .ref (m + 5), .ref (m + 6), .ref (m + 7), .ref (m + 8), .ref (m + 9), .ref (m + 10), .ref (m + 11), .ref (m + 12), .ref (m + 13), .ref (m + 14), .ref (m + 15), .int v_lines, .int v_size, .int v_at, .int v_place, .int v_sort, .int v_value, .int v_fault, .int v_faultPlace, .int v_lastFault, .int v_lastPlace, .ref (m + 16), .ref (m + 17), .ref (m + 18), .ref (m + 19), .ref (m + 20), .int v_undoable, .int v_hasImage, .ref (m + 21), .ref (m + 22), .int v_drawn])) (h_number : σ (m + 2) = some (aI V 10 (fun _ => 0)))  : Ct l V yX10_leases cX10_leases 1 (some .int) 0 0 0 N σ [.ref m] (fun r τ => r = some (.int 0) ∧ τ = σ) := by
  refine Ct.of (by decide) (Nat.le_of_ble_eq_true rfl) [(0, .ref m)] rfl (fun X hX F hQ => ?_)
  refine m_aload_n F rfl e_X10_leases_0 ?_
  refine m_get F e_X10_leases_1 fl_X10_13 h_obj rfl ?_
  refine m_iconst F (v := 0) (by decide) e_X10_leases_4 ?_
  refine m_iald F (j := 0) e_X10_leases_5 h_number (by decide) (by unfold vp_in; decide) ?_
  refine Wm.topE (w := 0) (rfl) ?_
  exact m_iret F hQ e_X10_leases_6 (⟨rfl, rfl⟩)
set_option maxRecDepth 20000 in
theorem k_reading0 (l : Launch) (V : VX) (N : Nat) (σ : Mem) (m : Nat) (v_thrown v_taped v_lines v_size v_at v_place v_sort v_value v_fault v_faultPlace v_lastFault v_lastPlace v_undoable v_hasImage v_drawn : Int32) (i : Nat) (hi : i < 5) (h_obj : σ m = some (ob 8 [.int v_thrown, .ref (m + 1), .int v_taped, .ref (m + 2), .ref (m + 3), .ref (m + 4), .ref (m + 5), .ref (m + 6), .ref (m + 7), .ref (m + 8), .ref (m + 9), .ref (m + 10), .ref (m + 11), .ref (m + 12), .ref (m + 13), .ref (m + 14), .ref (m + 15), .int v_lines, .int v_size, .int v_at, .int v_place, .int v_sort, .int v_value, .int v_fault, .int v_faultPlace, .int v_lastFault, .int v_lastPlace, .ref (m + 16), .ref (m + 17), .ref (m + 18), .ref (m + 19), .ref (m + 20), .int v_undoable, .int v_hasImage, .ref (m + 21), .ref (m + 22), .int v_drawn])) (h_number : σ (m + 2) = some (aI V 10 (fun _ => 0)))  : Ct l V yX10_reading cX10_reading 2 (some .int) 0 0 0 N σ [.ref m, .int (nI i)] (fun r τ => r = some (.int 0) ∧ τ = σ) := by
  refine Ct.of (by decide) (Nat.le_of_ble_eq_true rfl) [(0, .ref m), (1, .int (nI i))] rfl (fun X hX F hQ => ?_)
  refine m_aload_n F rfl e_X10_reading_0 ?_
  refine m_get F e_X10_reading_1 fl_X10_13 h_obj rfl ?_
  refine m_iconst F (v := 5) (by decide) e_X10_reading_4 ?_
  refine m_iload_n F rfl e_X10_reading_5 ?_
  refine m_iadd F e_X10_reading_6 ?_
  refine Wm.topE (w := nI (5 + i)) (nI_add 5 i) ?_
  refine m_iald F (j := 5 + i) e_X10_reading_7 h_number (nI_clamp (by omega)) (vp_in_nI (by omega) (by omega)) ?_
  refine Wm.topE (w := 0) (rfl) ?_
  exact m_iret F hQ e_X10_reading_8 (⟨rfl, rfl⟩)
set_option maxRecDepth 20000 in
theorem k_reads0 (l : Launch) (V : VX) (N : Nat) (σ : Mem) (m : Nat) (v_thrown v_taped v_lines v_size v_at v_place v_sort v_value v_fault v_faultPlace v_lastFault v_lastPlace v_undoable v_hasImage v_drawn : Int32) (i : Nat) (hi : i < 5) (h_obj : σ m = some (ob 8 [.int v_thrown, .ref (m + 1), .int v_taped, .ref (m + 2), .ref (m + 3), .ref (m + 4), .ref (m + 5), .ref (m + 6), .ref (m + 7), .ref (m + 8), .ref (m + 9), .ref (m + 10), .ref (m + 11), .ref (m + 12), .ref (m + 13), .ref (m + 14), .ref (m + 15), .int v_lines, .int v_size, .int v_at, .int v_place, .int v_sort, .int v_value, .int v_fault, .int v_faultPlace, .int v_lastFault, .int v_lastPlace, .ref (m + 16), .ref (m + 17), .ref (m + 18), .ref (m + 19), .ref (m + 20), .int v_undoable, .int v_hasImage, .ref (m + 21), .ref (m + 22), .int v_drawn])) (h_number : σ (m + 2) = some (aI V 10 (fun _ => 0)))  : Ct l V yX10_reads cX10_reads 3 none 0 0 0 N σ [.ref m, .int (nI i), .int 0] (fun r τ => r = none ∧ τ = σ) := by
  refine Ct.of (by decide) (Nat.le_of_ble_eq_true rfl) [(0, .ref m), (1, .int (nI i)), (2, .int 0)] rfl (fun X hX F hQ => ?_)
  refine m_aload_n F rfl e_X10_reads_0 ?_
  refine m_get F e_X10_reads_1 fl_X10_13 h_obj rfl ?_
  refine m_iconst F (v := 5) (by decide) e_X10_reads_4 ?_
  refine m_iload_n F rfl e_X10_reads_5 ?_
  refine m_iadd F e_X10_reads_6 ?_
  refine Wm.topE (w := nI (5 + i)) (nI_add 5 i) ?_
  refine m_iload_n F rfl e_X10_reads_7 ?_
  refine m_iast F (j := 5 + i) e_X10_reads_8 h_number (nI_clamp (by omega)) (vp_in_nI (by omega) (by omega)) upd_c (up_self h_number).symm ?_
  exact m_vret F hQ e_X10_reads_9 (⟨rfl, rfl⟩)
set_option maxRecDepth 20000 in
theorem k_freshText0 (l : Launch) (V : VX) (N : Nat) (σ : Mem) (m : Nat) (v_thrown v_taped v_lines v_size v_at v_place v_sort v_value v_fault v_faultPlace v_lastFault v_lastPlace v_undoable v_hasImage v_drawn : Int32)  (h_obj : σ m = some (ob 8 [.int v_thrown, .ref (m + 1), .int v_taped, .ref (m + 2), .ref (m + 3), .ref (m + 4), .ref (m + 5), .ref (m + 6), .ref (m + 7), .ref (m + 8), .ref (m + 9), .ref (m + 10), .ref (m + 11), .ref (m + 12), .ref (m + 13), .ref (m + 14), .ref (m + 15), .int v_lines, .int v_size, .int v_at, .int v_place, .int v_sort, .int v_value, .int v_fault, .int v_faultPlace, .int v_lastFault, .int v_lastPlace, .ref (m + 16), .ref (m + 17), .ref (m + 18), .ref (m + 19), .ref (m + 20), .int v_undoable, .int v_hasImage, .ref (m + 21), .ref (m + 22), .int v_drawn])) (h_number : σ (m + 2) = some (aI V 10 (fun _ => 0)))  : Ct l V yX10_freshText cX10_freshText 2 none 1 0 0 N σ [.ref m] (fun r τ => r = none ∧ τ = σ) := by
  refine Ct.of (by decide) (Nat.le_of_ble_eq_true rfl) [(0, .ref m)] rfl (fun X hX F hQ => ?_)
  refine m_iconst F (v := 0) (by decide) e_X10_freshText_0 ?_
  refine m_istore_n F (lv' := [(1, .int 0), (0, .ref m)]) e_X10_freshText_1 (by decide) rfl ?_
  refine m_iload_n F rfl e_X10_freshText_2 ?_
  refine m_iconst F (v := 5) (by decide) e_X10_freshText_3 ?_
  refine m_icmp_ge F e_X10_freshText_4 (fun q => absurd q (by decide)) (fun _ => ?_)
  refine m_aload_n F rfl e_X10_freshText_7 ?_
  refine m_iload_n F rfl e_X10_freshText_8 ?_
  refine m_iconst F (v := 0) (by decide) e_X10_freshText_9 ?_
  refine m_callV F e_X10_freshText_10 (k_reads0 (x_l X) V _ _ m v_thrown v_taped v_lines v_size v_at v_place v_sort v_value v_fault v_faultPlace v_lastFault v_lastPlace v_undoable v_hasImage v_drawn 0 (by omega) h_obj h_number ) cb_X10_reads ml_X10_170 im_X10_reads se_X10_reads h_obj rfl rfl (rest := []) rfl (Nat.le_of_ble_eq_true rfl) ⟨Nat.le_of_ble_eq_true rfl, Nat.le_of_ble_eq_true rfl⟩ ⟨Nat.le_of_ble_eq_true rfl, Nat.le_of_ble_eq_true rfl⟩ (k' := 0) (z' := 0) (N' := N) rfl rfl rfl (fun r τ hp => ?_)
  obtain ⟨rfl, hτ⟩ := hp
  rw [hτ]
  clear hτ
  refine m_iinc F (v := 1) (lv' := [(1, .int 1), (0, .ref m)]) e_X10_freshText_13 rfl (by decide) (by decide) rfl ?_
  refine m_goto F e_X10_freshText_16 ?_
  refine m_iload_n F rfl e_X10_freshText_2 ?_
  refine m_iconst F (v := 5) (by decide) e_X10_freshText_3 ?_
  refine m_icmp_ge F e_X10_freshText_4 (fun q => absurd q (by decide)) (fun _ => ?_)
  refine m_aload_n F rfl e_X10_freshText_7 ?_
  refine m_iload_n F rfl e_X10_freshText_8 ?_
  refine m_iconst F (v := 0) (by decide) e_X10_freshText_9 ?_
  refine m_callV F e_X10_freshText_10 (k_reads0 (x_l X) V _ _ m v_thrown v_taped v_lines v_size v_at v_place v_sort v_value v_fault v_faultPlace v_lastFault v_lastPlace v_undoable v_hasImage v_drawn 1 (by omega) h_obj h_number ) cb_X10_reads ml_X10_170 im_X10_reads se_X10_reads h_obj rfl rfl (rest := []) rfl (Nat.le_of_ble_eq_true rfl) ⟨Nat.le_of_ble_eq_true rfl, Nat.le_of_ble_eq_true rfl⟩ ⟨Nat.le_of_ble_eq_true rfl, Nat.le_of_ble_eq_true rfl⟩ (k' := 0) (z' := 0) (N' := N) rfl rfl rfl (fun r τ hp => ?_)
  obtain ⟨rfl, hτ⟩ := hp
  rw [hτ]
  clear hτ
  refine m_iinc F (v := 2) (lv' := [(1, .int 2), (0, .ref m)]) e_X10_freshText_13 rfl (by decide) (by decide) rfl ?_
  refine m_goto F e_X10_freshText_16 ?_
  refine m_iload_n F rfl e_X10_freshText_2 ?_
  refine m_iconst F (v := 5) (by decide) e_X10_freshText_3 ?_
  refine m_icmp_ge F e_X10_freshText_4 (fun q => absurd q (by decide)) (fun _ => ?_)
  refine m_aload_n F rfl e_X10_freshText_7 ?_
  refine m_iload_n F rfl e_X10_freshText_8 ?_
  refine m_iconst F (v := 0) (by decide) e_X10_freshText_9 ?_
  refine m_callV F e_X10_freshText_10 (k_reads0 (x_l X) V _ _ m v_thrown v_taped v_lines v_size v_at v_place v_sort v_value v_fault v_faultPlace v_lastFault v_lastPlace v_undoable v_hasImage v_drawn 2 (by omega) h_obj h_number ) cb_X10_reads ml_X10_170 im_X10_reads se_X10_reads h_obj rfl rfl (rest := []) rfl (Nat.le_of_ble_eq_true rfl) ⟨Nat.le_of_ble_eq_true rfl, Nat.le_of_ble_eq_true rfl⟩ ⟨Nat.le_of_ble_eq_true rfl, Nat.le_of_ble_eq_true rfl⟩ (k' := 0) (z' := 0) (N' := N) rfl rfl rfl (fun r τ hp => ?_)
  obtain ⟨rfl, hτ⟩ := hp
  rw [hτ]
  clear hτ
  refine m_iinc F (v := 3) (lv' := [(1, .int 3), (0, .ref m)]) e_X10_freshText_13 rfl (by decide) (by decide) rfl ?_
  refine m_goto F e_X10_freshText_16 ?_
  refine m_iload_n F rfl e_X10_freshText_2 ?_
  refine m_iconst F (v := 5) (by decide) e_X10_freshText_3 ?_
  refine m_icmp_ge F e_X10_freshText_4 (fun q => absurd q (by decide)) (fun _ => ?_)
  refine m_aload_n F rfl e_X10_freshText_7 ?_
  refine m_iload_n F rfl e_X10_freshText_8 ?_
  refine m_iconst F (v := 0) (by decide) e_X10_freshText_9 ?_
  refine m_callV F e_X10_freshText_10 (k_reads0 (x_l X) V _ _ m v_thrown v_taped v_lines v_size v_at v_place v_sort v_value v_fault v_faultPlace v_lastFault v_lastPlace v_undoable v_hasImage v_drawn 3 (by omega) h_obj h_number ) cb_X10_reads ml_X10_170 im_X10_reads se_X10_reads h_obj rfl rfl (rest := []) rfl (Nat.le_of_ble_eq_true rfl) ⟨Nat.le_of_ble_eq_true rfl, Nat.le_of_ble_eq_true rfl⟩ ⟨Nat.le_of_ble_eq_true rfl, Nat.le_of_ble_eq_true rfl⟩ (k' := 0) (z' := 0) (N' := N) rfl rfl rfl (fun r τ hp => ?_)
  obtain ⟨rfl, hτ⟩ := hp
  rw [hτ]
  clear hτ
  refine m_iinc F (v := 4) (lv' := [(1, .int 4), (0, .ref m)]) e_X10_freshText_13 rfl (by decide) (by decide) rfl ?_
  refine m_goto F e_X10_freshText_16 ?_
  refine m_iload_n F rfl e_X10_freshText_2 ?_
  refine m_iconst F (v := 5) (by decide) e_X10_freshText_3 ?_
  refine m_icmp_ge F e_X10_freshText_4 (fun q => absurd q (by decide)) (fun _ => ?_)
  refine m_aload_n F rfl e_X10_freshText_7 ?_
  refine m_iload_n F rfl e_X10_freshText_8 ?_
  refine m_iconst F (v := 0) (by decide) e_X10_freshText_9 ?_
  refine m_callV F e_X10_freshText_10 (k_reads0 (x_l X) V _ _ m v_thrown v_taped v_lines v_size v_at v_place v_sort v_value v_fault v_faultPlace v_lastFault v_lastPlace v_undoable v_hasImage v_drawn 4 (by omega) h_obj h_number ) cb_X10_reads ml_X10_170 im_X10_reads se_X10_reads h_obj rfl rfl (rest := []) rfl (Nat.le_of_ble_eq_true rfl) ⟨Nat.le_of_ble_eq_true rfl, Nat.le_of_ble_eq_true rfl⟩ ⟨Nat.le_of_ble_eq_true rfl, Nat.le_of_ble_eq_true rfl⟩ (k' := 0) (z' := 0) (N' := N) rfl rfl rfl (fun r τ hp => ?_)
  obtain ⟨rfl, hτ⟩ := hp
  rw [hτ]
  clear hτ
  refine m_iinc F (v := 5) (lv' := [(1, .int 5), (0, .ref m)]) e_X10_freshText_13 rfl (by decide) (by decide) rfl ?_
  refine m_goto F e_X10_freshText_16 ?_
  refine m_iload_n F rfl e_X10_freshText_2 ?_
  refine m_iconst F (v := 5) (by decide) e_X10_freshText_3 ?_
  refine m_icmp_ge F e_X10_freshText_4 (fun _ => ?_) (fun q => absurd (by decide) q)
  exact m_vret F hQ e_X10_freshText_19 (⟨rfl, rfl⟩)
set_option maxRecDepth 20000 in
theorem lp_takeText0 {V : VX} {X : MX} {N : Nat} {σ : Mem} {Post : Option Value → Mem → Prop} (F : Fx V X yX10_takeText cX10_takeText 2 none (rmd 1 0 0)) (hQ : Rt V X 0 0 N Post) {m : Nat} {v_thrown v_taped v_lines v_size v_at v_place v_sort v_value v_fault v_faultPlace v_lastFault v_lastPlace v_undoable v_hasImage v_drawn : Int32} (h_obj : σ m = some (ob 8 [.int v_thrown, .ref (m + 1), .int v_taped, .ref (m + 2), .ref (m + 3), .ref (m + 4), .ref (m + 5), .ref (m + 6), .ref (m + 7), .ref (m + 8), .ref (m + 9), .ref (m + 10), .ref (m + 11), .ref (m + 12), .ref (m + 13), .ref (m + 14), .ref (m + 15), .int v_lines, .int v_size, .int v_at, .int v_place, .int v_sort, .int v_value, .int v_fault, .int v_faultPlace, .int v_lastFault, .int v_lastPlace, .ref (m + 16), .ref (m + 17), .ref (m + 18), .ref (m + 19), .ref (m + 20), .int v_undoable, .int v_hasImage, .ref (m + 21), .ref (m + 22), .int v_drawn])) (h_number : σ (m + 2) = some (aI V 10 (fun _ => 0))) (h_name : σ (m + 3) = some (aI V 8 (fun _ => 0))) (h_starts : σ (m + 4) = some (aI V 8 (fun _ => 0))) (h_term : σ (m + 5) = some (aI V 8 (fun _ => 0))) (h_toldRate : σ (m + 6) = some (aI V 8 (fun _ => 0))) (h_marks : σ (m + 7) = some (aI V 8 (fun _ => 0))) (h_fair : σ (m + 8) = some (aI V 8 (fun _ => 0))) (h_fee : σ (m + 9) = some (aI V 8 (fun _ => 0))) (h_toldPay : σ (m + 10) = some (aI V 384 (fun _ => 0))) (h_changeAt : σ (m + 11) = some (aI V 16 (fun _ => 0))) (h_changeTo : σ (m + 12) = some (aI V 16 (fun _ => 0))) (h_optionOf : σ (m + 13) = some (aI V 8 (fun _ => 0))) (h_optionMany : σ (m + 14) = some (aI V 8 (fun _ => 0))) (h_optionPays : σ (m + 15) = some (aI V 8 (fun _ => 0))) (hp : Post none σ) : ∀ n i : Nat, i ≤ 192 → 192 - i < n → Wm V X 2 N σ 0 0 179 [(1, .int (nI i)), (0, .ref m)] [] := by
  intro n
  induction n with
  | zero => intro i h1 h2; exact absurd h2 (by omega)
  | succ n ih =>
    intro i h1 h2
    refine m_iload_n F rfl e_X10_takeText_179 ?_
    refine m_sipush F (v := 192) (by decide) e_X10_takeText_180 ?_
    refine m_icmp_ge F e_X10_takeText_183 (fun q183 => ?_) (fun q183 => ?_)
    · have c183 : i ≥ 192 := (nI_leI (a := 192) (b := i) (by omega) (by omega)).mp q183
      have hi : i = 192 := by omega
      subst hi
      refine m_iconst F (v := 0) (by decide) e_X10_takeText_208 ?_
      refine m_istore_n F (lv' := [(1, .int 0), (0, .ref m)]) e_X10_takeText_209 (by decide) rfl ?_
      refine m_iload_n F rfl e_X10_takeText_210 ?_
      refine m_bipush F (v := 8) (by decide) e_X10_takeText_211 ?_
      refine m_icmp_ge F e_X10_takeText_213 (fun q => absurd q (by decide)) (fun _ => ?_)
      refine m_aload_n F rfl e_X10_takeText_216 ?_
      refine m_get F e_X10_takeText_217 fl_X10_40 h_obj rfl ?_
      refine m_iload_n F rfl e_X10_takeText_220 ?_
      refine m_aload_n F rfl e_X10_takeText_221 ?_
      refine m_get F e_X10_takeText_222 fl_X10_40 h_obj rfl ?_
      refine m_bipush F (v := 8) (by decide) e_X10_takeText_225 ?_
      refine m_iload_n F rfl e_X10_takeText_227 ?_
      refine m_iadd F e_X10_takeText_228 ?_
      refine Wm.topE (w := 8) (by decide) ?_
      refine m_iald F (j := 8) e_X10_takeText_229 h_changeAt (by decide) (by unfold vp_in; decide) ?_
      refine Wm.topE (w := 0) (rfl) ?_
      refine m_iast F (j := 0) e_X10_takeText_230 h_changeAt (by decide) (by unfold vp_in; decide) upd_c (up_self h_changeAt).symm ?_
      refine m_aload_n F rfl e_X10_takeText_231 ?_
      refine m_get F e_X10_takeText_232 fl_X10_43 h_obj rfl ?_
      refine m_iload_n F rfl e_X10_takeText_235 ?_
      refine m_aload_n F rfl e_X10_takeText_236 ?_
      refine m_get F e_X10_takeText_237 fl_X10_43 h_obj rfl ?_
      refine m_bipush F (v := 8) (by decide) e_X10_takeText_240 ?_
      refine m_iload_n F rfl e_X10_takeText_242 ?_
      refine m_iadd F e_X10_takeText_243 ?_
      refine Wm.topE (w := 8) (by decide) ?_
      refine m_iald F (j := 8) e_X10_takeText_244 h_changeTo (by decide) (by unfold vp_in; decide) ?_
      refine Wm.topE (w := 0) (rfl) ?_
      refine m_iast F (j := 0) e_X10_takeText_245 h_changeTo (by decide) (by unfold vp_in; decide) upd_c (up_self h_changeTo).symm ?_
      refine m_iinc F (v := 1) (lv' := [(1, .int 1), (0, .ref m)]) e_X10_takeText_246 rfl (by decide) (by decide) rfl ?_
      refine m_goto F e_X10_takeText_249 ?_
      refine m_iload_n F rfl e_X10_takeText_210 ?_
      refine m_bipush F (v := 8) (by decide) e_X10_takeText_211 ?_
      refine m_icmp_ge F e_X10_takeText_213 (fun q => absurd q (by decide)) (fun _ => ?_)
      refine m_aload_n F rfl e_X10_takeText_216 ?_
      refine m_get F e_X10_takeText_217 fl_X10_40 h_obj rfl ?_
      refine m_iload_n F rfl e_X10_takeText_220 ?_
      refine m_aload_n F rfl e_X10_takeText_221 ?_
      refine m_get F e_X10_takeText_222 fl_X10_40 h_obj rfl ?_
      refine m_bipush F (v := 8) (by decide) e_X10_takeText_225 ?_
      refine m_iload_n F rfl e_X10_takeText_227 ?_
      refine m_iadd F e_X10_takeText_228 ?_
      refine Wm.topE (w := 9) (by decide) ?_
      refine m_iald F (j := 9) e_X10_takeText_229 h_changeAt (by decide) (by unfold vp_in; decide) ?_
      refine Wm.topE (w := 0) (rfl) ?_
      refine m_iast F (j := 1) e_X10_takeText_230 h_changeAt (by decide) (by unfold vp_in; decide) upd_c (up_self h_changeAt).symm ?_
      refine m_aload_n F rfl e_X10_takeText_231 ?_
      refine m_get F e_X10_takeText_232 fl_X10_43 h_obj rfl ?_
      refine m_iload_n F rfl e_X10_takeText_235 ?_
      refine m_aload_n F rfl e_X10_takeText_236 ?_
      refine m_get F e_X10_takeText_237 fl_X10_43 h_obj rfl ?_
      refine m_bipush F (v := 8) (by decide) e_X10_takeText_240 ?_
      refine m_iload_n F rfl e_X10_takeText_242 ?_
      refine m_iadd F e_X10_takeText_243 ?_
      refine Wm.topE (w := 9) (by decide) ?_
      refine m_iald F (j := 9) e_X10_takeText_244 h_changeTo (by decide) (by unfold vp_in; decide) ?_
      refine Wm.topE (w := 0) (rfl) ?_
      refine m_iast F (j := 1) e_X10_takeText_245 h_changeTo (by decide) (by unfold vp_in; decide) upd_c (up_self h_changeTo).symm ?_
      refine m_iinc F (v := 2) (lv' := [(1, .int 2), (0, .ref m)]) e_X10_takeText_246 rfl (by decide) (by decide) rfl ?_
      refine m_goto F e_X10_takeText_249 ?_
      refine m_iload_n F rfl e_X10_takeText_210 ?_
      refine m_bipush F (v := 8) (by decide) e_X10_takeText_211 ?_
      refine m_icmp_ge F e_X10_takeText_213 (fun q => absurd q (by decide)) (fun _ => ?_)
      refine m_aload_n F rfl e_X10_takeText_216 ?_
      refine m_get F e_X10_takeText_217 fl_X10_40 h_obj rfl ?_
      refine m_iload_n F rfl e_X10_takeText_220 ?_
      refine m_aload_n F rfl e_X10_takeText_221 ?_
      refine m_get F e_X10_takeText_222 fl_X10_40 h_obj rfl ?_
      refine m_bipush F (v := 8) (by decide) e_X10_takeText_225 ?_
      refine m_iload_n F rfl e_X10_takeText_227 ?_
      refine m_iadd F e_X10_takeText_228 ?_
      refine Wm.topE (w := 10) (by decide) ?_
      refine m_iald F (j := 10) e_X10_takeText_229 h_changeAt (by decide) (by unfold vp_in; decide) ?_
      refine Wm.topE (w := 0) (rfl) ?_
      refine m_iast F (j := 2) e_X10_takeText_230 h_changeAt (by decide) (by unfold vp_in; decide) upd_c (up_self h_changeAt).symm ?_
      refine m_aload_n F rfl e_X10_takeText_231 ?_
      refine m_get F e_X10_takeText_232 fl_X10_43 h_obj rfl ?_
      refine m_iload_n F rfl e_X10_takeText_235 ?_
      refine m_aload_n F rfl e_X10_takeText_236 ?_
      refine m_get F e_X10_takeText_237 fl_X10_43 h_obj rfl ?_
      refine m_bipush F (v := 8) (by decide) e_X10_takeText_240 ?_
      refine m_iload_n F rfl e_X10_takeText_242 ?_
      refine m_iadd F e_X10_takeText_243 ?_
      refine Wm.topE (w := 10) (by decide) ?_
      refine m_iald F (j := 10) e_X10_takeText_244 h_changeTo (by decide) (by unfold vp_in; decide) ?_
      refine Wm.topE (w := 0) (rfl) ?_
      refine m_iast F (j := 2) e_X10_takeText_245 h_changeTo (by decide) (by unfold vp_in; decide) upd_c (up_self h_changeTo).symm ?_
      refine m_iinc F (v := 3) (lv' := [(1, .int 3), (0, .ref m)]) e_X10_takeText_246 rfl (by decide) (by decide) rfl ?_
      refine m_goto F e_X10_takeText_249 ?_
      refine m_iload_n F rfl e_X10_takeText_210 ?_
      refine m_bipush F (v := 8) (by decide) e_X10_takeText_211 ?_
      refine m_icmp_ge F e_X10_takeText_213 (fun q => absurd q (by decide)) (fun _ => ?_)
      refine m_aload_n F rfl e_X10_takeText_216 ?_
      refine m_get F e_X10_takeText_217 fl_X10_40 h_obj rfl ?_
      refine m_iload_n F rfl e_X10_takeText_220 ?_
      refine m_aload_n F rfl e_X10_takeText_221 ?_
      refine m_get F e_X10_takeText_222 fl_X10_40 h_obj rfl ?_
      refine m_bipush F (v := 8) (by decide) e_X10_takeText_225 ?_
      refine m_iload_n F rfl e_X10_takeText_227 ?_
      refine m_iadd F e_X10_takeText_228 ?_
      refine Wm.topE (w := 11) (by decide) ?_
      refine m_iald F (j := 11) e_X10_takeText_229 h_changeAt (by decide) (by unfold vp_in; decide) ?_
      refine Wm.topE (w := 0) (rfl) ?_
      refine m_iast F (j := 3) e_X10_takeText_230 h_changeAt (by decide) (by unfold vp_in; decide) upd_c (up_self h_changeAt).symm ?_
      refine m_aload_n F rfl e_X10_takeText_231 ?_
      refine m_get F e_X10_takeText_232 fl_X10_43 h_obj rfl ?_
      refine m_iload_n F rfl e_X10_takeText_235 ?_
      refine m_aload_n F rfl e_X10_takeText_236 ?_
      refine m_get F e_X10_takeText_237 fl_X10_43 h_obj rfl ?_
      refine m_bipush F (v := 8) (by decide) e_X10_takeText_240 ?_
      refine m_iload_n F rfl e_X10_takeText_242 ?_
      refine m_iadd F e_X10_takeText_243 ?_
      refine Wm.topE (w := 11) (by decide) ?_
      refine m_iald F (j := 11) e_X10_takeText_244 h_changeTo (by decide) (by unfold vp_in; decide) ?_
      refine Wm.topE (w := 0) (rfl) ?_
      refine m_iast F (j := 3) e_X10_takeText_245 h_changeTo (by decide) (by unfold vp_in; decide) upd_c (up_self h_changeTo).symm ?_
      refine m_iinc F (v := 4) (lv' := [(1, .int 4), (0, .ref m)]) e_X10_takeText_246 rfl (by decide) (by decide) rfl ?_
      refine m_goto F e_X10_takeText_249 ?_
      refine m_iload_n F rfl e_X10_takeText_210 ?_
      refine m_bipush F (v := 8) (by decide) e_X10_takeText_211 ?_
      refine m_icmp_ge F e_X10_takeText_213 (fun q => absurd q (by decide)) (fun _ => ?_)
      refine m_aload_n F rfl e_X10_takeText_216 ?_
      refine m_get F e_X10_takeText_217 fl_X10_40 h_obj rfl ?_
      refine m_iload_n F rfl e_X10_takeText_220 ?_
      refine m_aload_n F rfl e_X10_takeText_221 ?_
      refine m_get F e_X10_takeText_222 fl_X10_40 h_obj rfl ?_
      refine m_bipush F (v := 8) (by decide) e_X10_takeText_225 ?_
      refine m_iload_n F rfl e_X10_takeText_227 ?_
      refine m_iadd F e_X10_takeText_228 ?_
      refine Wm.topE (w := 12) (by decide) ?_
      refine m_iald F (j := 12) e_X10_takeText_229 h_changeAt (by decide) (by unfold vp_in; decide) ?_
      refine Wm.topE (w := 0) (rfl) ?_
      refine m_iast F (j := 4) e_X10_takeText_230 h_changeAt (by decide) (by unfold vp_in; decide) upd_c (up_self h_changeAt).symm ?_
      refine m_aload_n F rfl e_X10_takeText_231 ?_
      refine m_get F e_X10_takeText_232 fl_X10_43 h_obj rfl ?_
      refine m_iload_n F rfl e_X10_takeText_235 ?_
      refine m_aload_n F rfl e_X10_takeText_236 ?_
      refine m_get F e_X10_takeText_237 fl_X10_43 h_obj rfl ?_
      refine m_bipush F (v := 8) (by decide) e_X10_takeText_240 ?_
      refine m_iload_n F rfl e_X10_takeText_242 ?_
      refine m_iadd F e_X10_takeText_243 ?_
      refine Wm.topE (w := 12) (by decide) ?_
      refine m_iald F (j := 12) e_X10_takeText_244 h_changeTo (by decide) (by unfold vp_in; decide) ?_
      refine Wm.topE (w := 0) (rfl) ?_
      refine m_iast F (j := 4) e_X10_takeText_245 h_changeTo (by decide) (by unfold vp_in; decide) upd_c (up_self h_changeTo).symm ?_
      refine m_iinc F (v := 5) (lv' := [(1, .int 5), (0, .ref m)]) e_X10_takeText_246 rfl (by decide) (by decide) rfl ?_
      refine m_goto F e_X10_takeText_249 ?_
      refine m_iload_n F rfl e_X10_takeText_210 ?_
      refine m_bipush F (v := 8) (by decide) e_X10_takeText_211 ?_
      refine m_icmp_ge F e_X10_takeText_213 (fun q => absurd q (by decide)) (fun _ => ?_)
      refine m_aload_n F rfl e_X10_takeText_216 ?_
      refine m_get F e_X10_takeText_217 fl_X10_40 h_obj rfl ?_
      refine m_iload_n F rfl e_X10_takeText_220 ?_
      refine m_aload_n F rfl e_X10_takeText_221 ?_
      refine m_get F e_X10_takeText_222 fl_X10_40 h_obj rfl ?_
      refine m_bipush F (v := 8) (by decide) e_X10_takeText_225 ?_
      refine m_iload_n F rfl e_X10_takeText_227 ?_
      refine m_iadd F e_X10_takeText_228 ?_
      refine Wm.topE (w := 13) (by decide) ?_
      refine m_iald F (j := 13) e_X10_takeText_229 h_changeAt (by decide) (by unfold vp_in; decide) ?_
      refine Wm.topE (w := 0) (rfl) ?_
      refine m_iast F (j := 5) e_X10_takeText_230 h_changeAt (by decide) (by unfold vp_in; decide) upd_c (up_self h_changeAt).symm ?_
      refine m_aload_n F rfl e_X10_takeText_231 ?_
      refine m_get F e_X10_takeText_232 fl_X10_43 h_obj rfl ?_
      refine m_iload_n F rfl e_X10_takeText_235 ?_
      refine m_aload_n F rfl e_X10_takeText_236 ?_
      refine m_get F e_X10_takeText_237 fl_X10_43 h_obj rfl ?_
      refine m_bipush F (v := 8) (by decide) e_X10_takeText_240 ?_
      refine m_iload_n F rfl e_X10_takeText_242 ?_
      refine m_iadd F e_X10_takeText_243 ?_
      refine Wm.topE (w := 13) (by decide) ?_
      refine m_iald F (j := 13) e_X10_takeText_244 h_changeTo (by decide) (by unfold vp_in; decide) ?_
      refine Wm.topE (w := 0) (rfl) ?_
      refine m_iast F (j := 5) e_X10_takeText_245 h_changeTo (by decide) (by unfold vp_in; decide) upd_c (up_self h_changeTo).symm ?_
      refine m_iinc F (v := 6) (lv' := [(1, .int 6), (0, .ref m)]) e_X10_takeText_246 rfl (by decide) (by decide) rfl ?_
      refine m_goto F e_X10_takeText_249 ?_
      refine m_iload_n F rfl e_X10_takeText_210 ?_
      refine m_bipush F (v := 8) (by decide) e_X10_takeText_211 ?_
      refine m_icmp_ge F e_X10_takeText_213 (fun q => absurd q (by decide)) (fun _ => ?_)
      refine m_aload_n F rfl e_X10_takeText_216 ?_
      refine m_get F e_X10_takeText_217 fl_X10_40 h_obj rfl ?_
      refine m_iload_n F rfl e_X10_takeText_220 ?_
      refine m_aload_n F rfl e_X10_takeText_221 ?_
      refine m_get F e_X10_takeText_222 fl_X10_40 h_obj rfl ?_
      refine m_bipush F (v := 8) (by decide) e_X10_takeText_225 ?_
      refine m_iload_n F rfl e_X10_takeText_227 ?_
      refine m_iadd F e_X10_takeText_228 ?_
      refine Wm.topE (w := 14) (by decide) ?_
      refine m_iald F (j := 14) e_X10_takeText_229 h_changeAt (by decide) (by unfold vp_in; decide) ?_
      refine Wm.topE (w := 0) (rfl) ?_
      refine m_iast F (j := 6) e_X10_takeText_230 h_changeAt (by decide) (by unfold vp_in; decide) upd_c (up_self h_changeAt).symm ?_
      refine m_aload_n F rfl e_X10_takeText_231 ?_
      refine m_get F e_X10_takeText_232 fl_X10_43 h_obj rfl ?_
      refine m_iload_n F rfl e_X10_takeText_235 ?_
      refine m_aload_n F rfl e_X10_takeText_236 ?_
      refine m_get F e_X10_takeText_237 fl_X10_43 h_obj rfl ?_
      refine m_bipush F (v := 8) (by decide) e_X10_takeText_240 ?_
      refine m_iload_n F rfl e_X10_takeText_242 ?_
      refine m_iadd F e_X10_takeText_243 ?_
      refine Wm.topE (w := 14) (by decide) ?_
      refine m_iald F (j := 14) e_X10_takeText_244 h_changeTo (by decide) (by unfold vp_in; decide) ?_
      refine Wm.topE (w := 0) (rfl) ?_
      refine m_iast F (j := 6) e_X10_takeText_245 h_changeTo (by decide) (by unfold vp_in; decide) upd_c (up_self h_changeTo).symm ?_
      refine m_iinc F (v := 7) (lv' := [(1, .int 7), (0, .ref m)]) e_X10_takeText_246 rfl (by decide) (by decide) rfl ?_
      refine m_goto F e_X10_takeText_249 ?_
      refine m_iload_n F rfl e_X10_takeText_210 ?_
      refine m_bipush F (v := 8) (by decide) e_X10_takeText_211 ?_
      refine m_icmp_ge F e_X10_takeText_213 (fun q => absurd q (by decide)) (fun _ => ?_)
      refine m_aload_n F rfl e_X10_takeText_216 ?_
      refine m_get F e_X10_takeText_217 fl_X10_40 h_obj rfl ?_
      refine m_iload_n F rfl e_X10_takeText_220 ?_
      refine m_aload_n F rfl e_X10_takeText_221 ?_
      refine m_get F e_X10_takeText_222 fl_X10_40 h_obj rfl ?_
      refine m_bipush F (v := 8) (by decide) e_X10_takeText_225 ?_
      refine m_iload_n F rfl e_X10_takeText_227 ?_
      refine m_iadd F e_X10_takeText_228 ?_
      refine Wm.topE (w := 15) (by decide) ?_
      refine m_iald F (j := 15) e_X10_takeText_229 h_changeAt (by decide) (by unfold vp_in; decide) ?_
      refine Wm.topE (w := 0) (rfl) ?_
      refine m_iast F (j := 7) e_X10_takeText_230 h_changeAt (by decide) (by unfold vp_in; decide) upd_c (up_self h_changeAt).symm ?_
      refine m_aload_n F rfl e_X10_takeText_231 ?_
      refine m_get F e_X10_takeText_232 fl_X10_43 h_obj rfl ?_
      refine m_iload_n F rfl e_X10_takeText_235 ?_
      refine m_aload_n F rfl e_X10_takeText_236 ?_
      refine m_get F e_X10_takeText_237 fl_X10_43 h_obj rfl ?_
      refine m_bipush F (v := 8) (by decide) e_X10_takeText_240 ?_
      refine m_iload_n F rfl e_X10_takeText_242 ?_
      refine m_iadd F e_X10_takeText_243 ?_
      refine Wm.topE (w := 15) (by decide) ?_
      refine m_iald F (j := 15) e_X10_takeText_244 h_changeTo (by decide) (by unfold vp_in; decide) ?_
      refine Wm.topE (w := 0) (rfl) ?_
      refine m_iast F (j := 7) e_X10_takeText_245 h_changeTo (by decide) (by unfold vp_in; decide) upd_c (up_self h_changeTo).symm ?_
      refine m_iinc F (v := 8) (lv' := [(1, .int 8), (0, .ref m)]) e_X10_takeText_246 rfl (by decide) (by decide) rfl ?_
      refine m_goto F e_X10_takeText_249 ?_
      refine m_iload_n F rfl e_X10_takeText_210 ?_
      refine m_bipush F (v := 8) (by decide) e_X10_takeText_211 ?_
      refine m_icmp_ge F e_X10_takeText_213 (fun _ => ?_) (fun q => absurd (by decide) q)
      exact m_vret F hQ e_X10_takeText_252 (hp)
    · have c183 : i < 192 := by have hh := mt (nI_leI (a := 192) (b := i) (by omega) (by omega)).mpr q183; omega
      refine m_aload_n F rfl e_X10_takeText_186 ?_
      refine m_get F e_X10_takeText_187 fl_X10_37 h_obj rfl ?_
      refine m_iload_n F rfl e_X10_takeText_190 ?_
      refine m_aload_n F rfl e_X10_takeText_191 ?_
      refine m_get F e_X10_takeText_192 fl_X10_37 h_obj rfl ?_
      refine m_sipush F (v := 192) (by decide) e_X10_takeText_195 ?_
      refine m_iload_n F rfl e_X10_takeText_198 ?_
      refine m_iadd F e_X10_takeText_199 ?_
      refine Wm.topE (w := nI (192 + i)) (nI_add 192 i) ?_
      refine m_iald F (j := 192 + i) e_X10_takeText_200 h_toldPay (nI_clamp (by omega)) (vp_in_nI (by omega) (by omega)) ?_
      refine Wm.topE (w := 0) (rfl) ?_
      refine m_iast F (j := i) e_X10_takeText_201 h_toldPay (nI_clamp (by omega)) (vp_in_nI (by omega) (by omega)) upd_c (up_self h_toldPay).symm ?_
      refine m_iinc F (v := nI (i + 1)) (lv' := [(1, .int (nI (i + 1))), (0, .ref m)]) e_X10_takeText_202 rfl (nI_add i 1) (by decide) rfl ?_
      refine m_goto F e_X10_takeText_205 ?_
      exact ih (i + 1) (by omega) (by omega)
set_option maxRecDepth 20000 in
theorem k_takeText0 (l : Launch) (V : VX) (N : Nat) (σ : Mem) (m : Nat) (v_thrown v_taped v_lines v_size v_at v_place v_sort v_value v_fault v_faultPlace v_lastFault v_lastPlace v_undoable v_hasImage v_drawn : Int32)  (h_obj : σ m = some (ob 8 [.int v_thrown, .ref (m + 1), .int v_taped, .ref (m + 2), .ref (m + 3), .ref (m + 4), .ref (m + 5), .ref (m + 6), .ref (m + 7), .ref (m + 8), .ref (m + 9), .ref (m + 10), .ref (m + 11), .ref (m + 12), .ref (m + 13), .ref (m + 14), .ref (m + 15), .int v_lines, .int v_size, .int v_at, .int v_place, .int v_sort, .int v_value, .int v_fault, .int v_faultPlace, .int v_lastFault, .int v_lastPlace, .ref (m + 16), .ref (m + 17), .ref (m + 18), .ref (m + 19), .ref (m + 20), .int v_undoable, .int v_hasImage, .ref (m + 21), .ref (m + 22), .int v_drawn])) (h_number : σ (m + 2) = some (aI V 10 (fun _ => 0))) (h_name : σ (m + 3) = some (aI V 8 (fun _ => 0))) (h_starts : σ (m + 4) = some (aI V 8 (fun _ => 0))) (h_term : σ (m + 5) = some (aI V 8 (fun _ => 0))) (h_toldRate : σ (m + 6) = some (aI V 8 (fun _ => 0))) (h_marks : σ (m + 7) = some (aI V 8 (fun _ => 0))) (h_fair : σ (m + 8) = some (aI V 8 (fun _ => 0))) (h_fee : σ (m + 9) = some (aI V 8 (fun _ => 0))) (h_toldPay : σ (m + 10) = some (aI V 384 (fun _ => 0))) (h_changeAt : σ (m + 11) = some (aI V 16 (fun _ => 0))) (h_changeTo : σ (m + 12) = some (aI V 16 (fun _ => 0))) (h_optionOf : σ (m + 13) = some (aI V 8 (fun _ => 0))) (h_optionMany : σ (m + 14) = some (aI V 8 (fun _ => 0))) (h_optionPays : σ (m + 15) = some (aI V 8 (fun _ => 0)))  : Ct l V yX10_takeText cX10_takeText 2 none 1 0 0 N σ [.ref m] (fun r τ => r = none ∧ τ = σ) := by
  refine Ct.of (by decide) (Nat.le_of_ble_eq_true rfl) [(0, .ref m)] rfl (fun X hX F hQ => ?_)
  refine m_iconst F (v := 0) (by decide) e_X10_takeText_0 ?_
  refine m_istore_n F (lv' := [(1, .int 0), (0, .ref m)]) e_X10_takeText_1 (by decide) rfl ?_
  refine m_iload_n F rfl e_X10_takeText_2 ?_
  refine m_iconst F (v := 5) (by decide) e_X10_takeText_3 ?_
  refine m_icmp_ge F e_X10_takeText_4 (fun q => absurd q (by decide)) (fun _ => ?_)
  refine m_aload_n F rfl e_X10_takeText_7 ?_
  refine m_get F e_X10_takeText_8 fl_X10_13 h_obj rfl ?_
  refine m_iload_n F rfl e_X10_takeText_11 ?_
  refine m_aload_n F rfl e_X10_takeText_12 ?_
  refine m_iload_n F rfl e_X10_takeText_13 ?_
  refine m_callV F e_X10_takeText_14 (k_reading0 (x_l X) V _ _ m v_thrown v_taped v_lines v_size v_at v_place v_sort v_value v_fault v_faultPlace v_lastFault v_lastPlace v_undoable v_hasImage v_drawn 0 (by omega) h_obj h_number ) cb_X10_reading ml_X10_157 im_X10_reading se_X10_reading h_obj rfl rfl (rest := [.int 0, .ref (m + 2)]) rfl (Nat.le_of_ble_eq_true rfl) ⟨Nat.le_of_ble_eq_true rfl, Nat.le_of_ble_eq_true rfl⟩ ⟨Nat.le_of_ble_eq_true rfl, Nat.le_of_ble_eq_true rfl⟩ (k' := 0) (z' := 0) (N' := N) rfl rfl rfl (fun r τ hp => ?_)
  obtain ⟨rfl, hτ⟩ := hp
  rw [hτ]
  clear hτ
  refine m_iast F (j := 0) e_X10_takeText_17 h_number (by decide) (by unfold vp_in; decide) upd_c (up_self h_number).symm ?_
  refine m_iinc F (v := 1) (lv' := [(1, .int 1), (0, .ref m)]) e_X10_takeText_18 rfl (by decide) (by decide) rfl ?_
  refine m_goto F e_X10_takeText_21 ?_
  refine m_iload_n F rfl e_X10_takeText_2 ?_
  refine m_iconst F (v := 5) (by decide) e_X10_takeText_3 ?_
  refine m_icmp_ge F e_X10_takeText_4 (fun q => absurd q (by decide)) (fun _ => ?_)
  refine m_aload_n F rfl e_X10_takeText_7 ?_
  refine m_get F e_X10_takeText_8 fl_X10_13 h_obj rfl ?_
  refine m_iload_n F rfl e_X10_takeText_11 ?_
  refine m_aload_n F rfl e_X10_takeText_12 ?_
  refine m_iload_n F rfl e_X10_takeText_13 ?_
  refine m_callV F e_X10_takeText_14 (k_reading0 (x_l X) V _ _ m v_thrown v_taped v_lines v_size v_at v_place v_sort v_value v_fault v_faultPlace v_lastFault v_lastPlace v_undoable v_hasImage v_drawn 1 (by omega) h_obj h_number ) cb_X10_reading ml_X10_157 im_X10_reading se_X10_reading h_obj rfl rfl (rest := [.int 1, .ref (m + 2)]) rfl (Nat.le_of_ble_eq_true rfl) ⟨Nat.le_of_ble_eq_true rfl, Nat.le_of_ble_eq_true rfl⟩ ⟨Nat.le_of_ble_eq_true rfl, Nat.le_of_ble_eq_true rfl⟩ (k' := 0) (z' := 0) (N' := N) rfl rfl rfl (fun r τ hp => ?_)
  obtain ⟨rfl, hτ⟩ := hp
  rw [hτ]
  clear hτ
  refine m_iast F (j := 1) e_X10_takeText_17 h_number (by decide) (by unfold vp_in; decide) upd_c (up_self h_number).symm ?_
  refine m_iinc F (v := 2) (lv' := [(1, .int 2), (0, .ref m)]) e_X10_takeText_18 rfl (by decide) (by decide) rfl ?_
  refine m_goto F e_X10_takeText_21 ?_
  refine m_iload_n F rfl e_X10_takeText_2 ?_
  refine m_iconst F (v := 5) (by decide) e_X10_takeText_3 ?_
  refine m_icmp_ge F e_X10_takeText_4 (fun q => absurd q (by decide)) (fun _ => ?_)
  refine m_aload_n F rfl e_X10_takeText_7 ?_
  refine m_get F e_X10_takeText_8 fl_X10_13 h_obj rfl ?_
  refine m_iload_n F rfl e_X10_takeText_11 ?_
  refine m_aload_n F rfl e_X10_takeText_12 ?_
  refine m_iload_n F rfl e_X10_takeText_13 ?_
  refine m_callV F e_X10_takeText_14 (k_reading0 (x_l X) V _ _ m v_thrown v_taped v_lines v_size v_at v_place v_sort v_value v_fault v_faultPlace v_lastFault v_lastPlace v_undoable v_hasImage v_drawn 2 (by omega) h_obj h_number ) cb_X10_reading ml_X10_157 im_X10_reading se_X10_reading h_obj rfl rfl (rest := [.int 2, .ref (m + 2)]) rfl (Nat.le_of_ble_eq_true rfl) ⟨Nat.le_of_ble_eq_true rfl, Nat.le_of_ble_eq_true rfl⟩ ⟨Nat.le_of_ble_eq_true rfl, Nat.le_of_ble_eq_true rfl⟩ (k' := 0) (z' := 0) (N' := N) rfl rfl rfl (fun r τ hp => ?_)
  obtain ⟨rfl, hτ⟩ := hp
  rw [hτ]
  clear hτ
  refine m_iast F (j := 2) e_X10_takeText_17 h_number (by decide) (by unfold vp_in; decide) upd_c (up_self h_number).symm ?_
  refine m_iinc F (v := 3) (lv' := [(1, .int 3), (0, .ref m)]) e_X10_takeText_18 rfl (by decide) (by decide) rfl ?_
  refine m_goto F e_X10_takeText_21 ?_
  refine m_iload_n F rfl e_X10_takeText_2 ?_
  refine m_iconst F (v := 5) (by decide) e_X10_takeText_3 ?_
  refine m_icmp_ge F e_X10_takeText_4 (fun q => absurd q (by decide)) (fun _ => ?_)
  refine m_aload_n F rfl e_X10_takeText_7 ?_
  refine m_get F e_X10_takeText_8 fl_X10_13 h_obj rfl ?_
  refine m_iload_n F rfl e_X10_takeText_11 ?_
  refine m_aload_n F rfl e_X10_takeText_12 ?_
  refine m_iload_n F rfl e_X10_takeText_13 ?_
  refine m_callV F e_X10_takeText_14 (k_reading0 (x_l X) V _ _ m v_thrown v_taped v_lines v_size v_at v_place v_sort v_value v_fault v_faultPlace v_lastFault v_lastPlace v_undoable v_hasImage v_drawn 3 (by omega) h_obj h_number ) cb_X10_reading ml_X10_157 im_X10_reading se_X10_reading h_obj rfl rfl (rest := [.int 3, .ref (m + 2)]) rfl (Nat.le_of_ble_eq_true rfl) ⟨Nat.le_of_ble_eq_true rfl, Nat.le_of_ble_eq_true rfl⟩ ⟨Nat.le_of_ble_eq_true rfl, Nat.le_of_ble_eq_true rfl⟩ (k' := 0) (z' := 0) (N' := N) rfl rfl rfl (fun r τ hp => ?_)
  obtain ⟨rfl, hτ⟩ := hp
  rw [hτ]
  clear hτ
  refine m_iast F (j := 3) e_X10_takeText_17 h_number (by decide) (by unfold vp_in; decide) upd_c (up_self h_number).symm ?_
  refine m_iinc F (v := 4) (lv' := [(1, .int 4), (0, .ref m)]) e_X10_takeText_18 rfl (by decide) (by decide) rfl ?_
  refine m_goto F e_X10_takeText_21 ?_
  refine m_iload_n F rfl e_X10_takeText_2 ?_
  refine m_iconst F (v := 5) (by decide) e_X10_takeText_3 ?_
  refine m_icmp_ge F e_X10_takeText_4 (fun q => absurd q (by decide)) (fun _ => ?_)
  refine m_aload_n F rfl e_X10_takeText_7 ?_
  refine m_get F e_X10_takeText_8 fl_X10_13 h_obj rfl ?_
  refine m_iload_n F rfl e_X10_takeText_11 ?_
  refine m_aload_n F rfl e_X10_takeText_12 ?_
  refine m_iload_n F rfl e_X10_takeText_13 ?_
  refine m_callV F e_X10_takeText_14 (k_reading0 (x_l X) V _ _ m v_thrown v_taped v_lines v_size v_at v_place v_sort v_value v_fault v_faultPlace v_lastFault v_lastPlace v_undoable v_hasImage v_drawn 4 (by omega) h_obj h_number ) cb_X10_reading ml_X10_157 im_X10_reading se_X10_reading h_obj rfl rfl (rest := [.int 4, .ref (m + 2)]) rfl (Nat.le_of_ble_eq_true rfl) ⟨Nat.le_of_ble_eq_true rfl, Nat.le_of_ble_eq_true rfl⟩ ⟨Nat.le_of_ble_eq_true rfl, Nat.le_of_ble_eq_true rfl⟩ (k' := 0) (z' := 0) (N' := N) rfl rfl rfl (fun r τ hp => ?_)
  obtain ⟨rfl, hτ⟩ := hp
  rw [hτ]
  clear hτ
  refine m_iast F (j := 4) e_X10_takeText_17 h_number (by decide) (by unfold vp_in; decide) upd_c (up_self h_number).symm ?_
  refine m_iinc F (v := 5) (lv' := [(1, .int 5), (0, .ref m)]) e_X10_takeText_18 rfl (by decide) (by decide) rfl ?_
  refine m_goto F e_X10_takeText_21 ?_
  refine m_iload_n F rfl e_X10_takeText_2 ?_
  refine m_iconst F (v := 5) (by decide) e_X10_takeText_3 ?_
  refine m_icmp_ge F e_X10_takeText_4 (fun _ => ?_) (fun q => absurd (by decide) q)
  refine m_iconst F (v := 0) (by decide) e_X10_takeText_24 ?_
  refine m_istore_n F (lv' := [(1, .int 0), (0, .ref m)]) e_X10_takeText_25 (by decide) rfl ?_
  refine m_iload_n F rfl e_X10_takeText_26 ?_
  refine m_iconst F (v := 4) (by decide) e_X10_takeText_27 ?_
  refine m_icmp_ge F e_X10_takeText_28 (fun q => absurd q (by decide)) (fun _ => ?_)
  refine m_aload_n F rfl e_X10_takeText_31 ?_
  refine m_get F e_X10_takeText_32 fl_X10_16 h_obj rfl ?_
  refine m_iload_n F rfl e_X10_takeText_35 ?_
  refine m_aload_n F rfl e_X10_takeText_36 ?_
  refine m_get F e_X10_takeText_37 fl_X10_16 h_obj rfl ?_
  refine m_iconst F (v := 4) (by decide) e_X10_takeText_40 ?_
  refine m_iload_n F rfl e_X10_takeText_41 ?_
  refine m_iadd F e_X10_takeText_42 ?_
  refine Wm.topE (w := 4) (by decide) ?_
  refine m_iald F (j := 4) e_X10_takeText_43 h_name (by decide) (by unfold vp_in; decide) ?_
  refine Wm.topE (w := 0) (rfl) ?_
  refine m_iast F (j := 0) e_X10_takeText_44 h_name (by decide) (by unfold vp_in; decide) upd_c (up_self h_name).symm ?_
  refine m_aload_n F rfl e_X10_takeText_45 ?_
  refine m_get F e_X10_takeText_46 fl_X10_19 h_obj rfl ?_
  refine m_iload_n F rfl e_X10_takeText_49 ?_
  refine m_aload_n F rfl e_X10_takeText_50 ?_
  refine m_get F e_X10_takeText_51 fl_X10_19 h_obj rfl ?_
  refine m_iconst F (v := 4) (by decide) e_X10_takeText_54 ?_
  refine m_iload_n F rfl e_X10_takeText_55 ?_
  refine m_iadd F e_X10_takeText_56 ?_
  refine Wm.topE (w := 4) (by decide) ?_
  refine m_iald F (j := 4) e_X10_takeText_57 h_starts (by decide) (by unfold vp_in; decide) ?_
  refine Wm.topE (w := 0) (rfl) ?_
  refine m_iast F (j := 0) e_X10_takeText_58 h_starts (by decide) (by unfold vp_in; decide) upd_c (up_self h_starts).symm ?_
  refine m_aload_n F rfl e_X10_takeText_59 ?_
  refine m_get F e_X10_takeText_60 fl_X10_22 h_obj rfl ?_
  refine m_iload_n F rfl e_X10_takeText_63 ?_
  refine m_aload_n F rfl e_X10_takeText_64 ?_
  refine m_get F e_X10_takeText_65 fl_X10_22 h_obj rfl ?_
  refine m_iconst F (v := 4) (by decide) e_X10_takeText_68 ?_
  refine m_iload_n F rfl e_X10_takeText_69 ?_
  refine m_iadd F e_X10_takeText_70 ?_
  refine Wm.topE (w := 4) (by decide) ?_
  refine m_iald F (j := 4) e_X10_takeText_71 h_term (by decide) (by unfold vp_in; decide) ?_
  refine Wm.topE (w := 0) (rfl) ?_
  refine m_iast F (j := 0) e_X10_takeText_72 h_term (by decide) (by unfold vp_in; decide) upd_c (up_self h_term).symm ?_
  refine m_aload_n F rfl e_X10_takeText_73 ?_
  refine m_get F e_X10_takeText_74 fl_X10_25 h_obj rfl ?_
  refine m_iload_n F rfl e_X10_takeText_77 ?_
  refine m_aload_n F rfl e_X10_takeText_78 ?_
  refine m_get F e_X10_takeText_79 fl_X10_25 h_obj rfl ?_
  refine m_iconst F (v := 4) (by decide) e_X10_takeText_82 ?_
  refine m_iload_n F rfl e_X10_takeText_83 ?_
  refine m_iadd F e_X10_takeText_84 ?_
  refine Wm.topE (w := 4) (by decide) ?_
  refine m_iald F (j := 4) e_X10_takeText_85 h_toldRate (by decide) (by unfold vp_in; decide) ?_
  refine Wm.topE (w := 0) (rfl) ?_
  refine m_iast F (j := 0) e_X10_takeText_86 h_toldRate (by decide) (by unfold vp_in; decide) upd_c (up_self h_toldRate).symm ?_
  refine m_aload_n F rfl e_X10_takeText_87 ?_
  refine m_get F e_X10_takeText_88 fl_X10_28 h_obj rfl ?_
  refine m_iload_n F rfl e_X10_takeText_91 ?_
  refine m_aload_n F rfl e_X10_takeText_92 ?_
  refine m_get F e_X10_takeText_93 fl_X10_28 h_obj rfl ?_
  refine m_iconst F (v := 4) (by decide) e_X10_takeText_96 ?_
  refine m_iload_n F rfl e_X10_takeText_97 ?_
  refine m_iadd F e_X10_takeText_98 ?_
  refine Wm.topE (w := 4) (by decide) ?_
  refine m_iald F (j := 4) e_X10_takeText_99 h_marks (by decide) (by unfold vp_in; decide) ?_
  refine Wm.topE (w := 0) (rfl) ?_
  refine m_iast F (j := 0) e_X10_takeText_100 h_marks (by decide) (by unfold vp_in; decide) upd_c (up_self h_marks).symm ?_
  refine m_aload_n F rfl e_X10_takeText_101 ?_
  refine m_get F e_X10_takeText_102 fl_X10_31 h_obj rfl ?_
  refine m_iload_n F rfl e_X10_takeText_105 ?_
  refine m_aload_n F rfl e_X10_takeText_106 ?_
  refine m_get F e_X10_takeText_107 fl_X10_31 h_obj rfl ?_
  refine m_iconst F (v := 4) (by decide) e_X10_takeText_110 ?_
  refine m_iload_n F rfl e_X10_takeText_111 ?_
  refine m_iadd F e_X10_takeText_112 ?_
  refine Wm.topE (w := 4) (by decide) ?_
  refine m_iald F (j := 4) e_X10_takeText_113 h_fair (by decide) (by unfold vp_in; decide) ?_
  refine Wm.topE (w := 0) (rfl) ?_
  refine m_iast F (j := 0) e_X10_takeText_114 h_fair (by decide) (by unfold vp_in; decide) upd_c (up_self h_fair).symm ?_
  refine m_aload_n F rfl e_X10_takeText_115 ?_
  refine m_get F e_X10_takeText_116 fl_X10_34 h_obj rfl ?_
  refine m_iload_n F rfl e_X10_takeText_119 ?_
  refine m_aload_n F rfl e_X10_takeText_120 ?_
  refine m_get F e_X10_takeText_121 fl_X10_34 h_obj rfl ?_
  refine m_iconst F (v := 4) (by decide) e_X10_takeText_124 ?_
  refine m_iload_n F rfl e_X10_takeText_125 ?_
  refine m_iadd F e_X10_takeText_126 ?_
  refine Wm.topE (w := 4) (by decide) ?_
  refine m_iald F (j := 4) e_X10_takeText_127 h_fee (by decide) (by unfold vp_in; decide) ?_
  refine Wm.topE (w := 0) (rfl) ?_
  refine m_iast F (j := 0) e_X10_takeText_128 h_fee (by decide) (by unfold vp_in; decide) upd_c (up_self h_fee).symm ?_
  refine m_aload_n F rfl e_X10_takeText_129 ?_
  refine m_get F e_X10_takeText_130 fl_X10_46 h_obj rfl ?_
  refine m_iload_n F rfl e_X10_takeText_133 ?_
  refine m_aload_n F rfl e_X10_takeText_134 ?_
  refine m_get F e_X10_takeText_135 fl_X10_46 h_obj rfl ?_
  refine m_iconst F (v := 4) (by decide) e_X10_takeText_138 ?_
  refine m_iload_n F rfl e_X10_takeText_139 ?_
  refine m_iadd F e_X10_takeText_140 ?_
  refine Wm.topE (w := 4) (by decide) ?_
  refine m_iald F (j := 4) e_X10_takeText_141 h_optionOf (by decide) (by unfold vp_in; decide) ?_
  refine Wm.topE (w := 0) (rfl) ?_
  refine m_iast F (j := 0) e_X10_takeText_142 h_optionOf (by decide) (by unfold vp_in; decide) upd_c (up_self h_optionOf).symm ?_
  refine m_aload_n F rfl e_X10_takeText_143 ?_
  refine m_get F e_X10_takeText_144 fl_X10_49 h_obj rfl ?_
  refine m_iload_n F rfl e_X10_takeText_147 ?_
  refine m_aload_n F rfl e_X10_takeText_148 ?_
  refine m_get F e_X10_takeText_149 fl_X10_49 h_obj rfl ?_
  refine m_iconst F (v := 4) (by decide) e_X10_takeText_152 ?_
  refine m_iload_n F rfl e_X10_takeText_153 ?_
  refine m_iadd F e_X10_takeText_154 ?_
  refine Wm.topE (w := 4) (by decide) ?_
  refine m_iald F (j := 4) e_X10_takeText_155 h_optionMany (by decide) (by unfold vp_in; decide) ?_
  refine Wm.topE (w := 0) (rfl) ?_
  refine m_iast F (j := 0) e_X10_takeText_156 h_optionMany (by decide) (by unfold vp_in; decide) upd_c (up_self h_optionMany).symm ?_
  refine m_aload_n F rfl e_X10_takeText_157 ?_
  refine m_get F e_X10_takeText_158 fl_X10_52 h_obj rfl ?_
  refine m_iload_n F rfl e_X10_takeText_161 ?_
  refine m_aload_n F rfl e_X10_takeText_162 ?_
  refine m_get F e_X10_takeText_163 fl_X10_52 h_obj rfl ?_
  refine m_iconst F (v := 4) (by decide) e_X10_takeText_166 ?_
  refine m_iload_n F rfl e_X10_takeText_167 ?_
  refine m_iadd F e_X10_takeText_168 ?_
  refine Wm.topE (w := 4) (by decide) ?_
  refine m_iald F (j := 4) e_X10_takeText_169 h_optionPays (by decide) (by unfold vp_in; decide) ?_
  refine Wm.topE (w := 0) (rfl) ?_
  refine m_iast F (j := 0) e_X10_takeText_170 h_optionPays (by decide) (by unfold vp_in; decide) upd_c (up_self h_optionPays).symm ?_
  refine m_iinc F (v := 1) (lv' := [(1, .int 1), (0, .ref m)]) e_X10_takeText_171 rfl (by decide) (by decide) rfl ?_
  refine m_goto F e_X10_takeText_174 ?_
  refine m_iload_n F rfl e_X10_takeText_26 ?_
  refine m_iconst F (v := 4) (by decide) e_X10_takeText_27 ?_
  refine m_icmp_ge F e_X10_takeText_28 (fun q => absurd q (by decide)) (fun _ => ?_)
  refine m_aload_n F rfl e_X10_takeText_31 ?_
  refine m_get F e_X10_takeText_32 fl_X10_16 h_obj rfl ?_
  refine m_iload_n F rfl e_X10_takeText_35 ?_
  refine m_aload_n F rfl e_X10_takeText_36 ?_
  refine m_get F e_X10_takeText_37 fl_X10_16 h_obj rfl ?_
  refine m_iconst F (v := 4) (by decide) e_X10_takeText_40 ?_
  refine m_iload_n F rfl e_X10_takeText_41 ?_
  refine m_iadd F e_X10_takeText_42 ?_
  refine Wm.topE (w := 5) (by decide) ?_
  refine m_iald F (j := 5) e_X10_takeText_43 h_name (by decide) (by unfold vp_in; decide) ?_
  refine Wm.topE (w := 0) (rfl) ?_
  refine m_iast F (j := 1) e_X10_takeText_44 h_name (by decide) (by unfold vp_in; decide) upd_c (up_self h_name).symm ?_
  refine m_aload_n F rfl e_X10_takeText_45 ?_
  refine m_get F e_X10_takeText_46 fl_X10_19 h_obj rfl ?_
  refine m_iload_n F rfl e_X10_takeText_49 ?_
  refine m_aload_n F rfl e_X10_takeText_50 ?_
  refine m_get F e_X10_takeText_51 fl_X10_19 h_obj rfl ?_
  refine m_iconst F (v := 4) (by decide) e_X10_takeText_54 ?_
  refine m_iload_n F rfl e_X10_takeText_55 ?_
  refine m_iadd F e_X10_takeText_56 ?_
  refine Wm.topE (w := 5) (by decide) ?_
  refine m_iald F (j := 5) e_X10_takeText_57 h_starts (by decide) (by unfold vp_in; decide) ?_
  refine Wm.topE (w := 0) (rfl) ?_
  refine m_iast F (j := 1) e_X10_takeText_58 h_starts (by decide) (by unfold vp_in; decide) upd_c (up_self h_starts).symm ?_
  refine m_aload_n F rfl e_X10_takeText_59 ?_
  refine m_get F e_X10_takeText_60 fl_X10_22 h_obj rfl ?_
  refine m_iload_n F rfl e_X10_takeText_63 ?_
  refine m_aload_n F rfl e_X10_takeText_64 ?_
  refine m_get F e_X10_takeText_65 fl_X10_22 h_obj rfl ?_
  refine m_iconst F (v := 4) (by decide) e_X10_takeText_68 ?_
  refine m_iload_n F rfl e_X10_takeText_69 ?_
  refine m_iadd F e_X10_takeText_70 ?_
  refine Wm.topE (w := 5) (by decide) ?_
  refine m_iald F (j := 5) e_X10_takeText_71 h_term (by decide) (by unfold vp_in; decide) ?_
  refine Wm.topE (w := 0) (rfl) ?_
  refine m_iast F (j := 1) e_X10_takeText_72 h_term (by decide) (by unfold vp_in; decide) upd_c (up_self h_term).symm ?_
  refine m_aload_n F rfl e_X10_takeText_73 ?_
  refine m_get F e_X10_takeText_74 fl_X10_25 h_obj rfl ?_
  refine m_iload_n F rfl e_X10_takeText_77 ?_
  refine m_aload_n F rfl e_X10_takeText_78 ?_
  refine m_get F e_X10_takeText_79 fl_X10_25 h_obj rfl ?_
  refine m_iconst F (v := 4) (by decide) e_X10_takeText_82 ?_
  refine m_iload_n F rfl e_X10_takeText_83 ?_
  refine m_iadd F e_X10_takeText_84 ?_
  refine Wm.topE (w := 5) (by decide) ?_
  refine m_iald F (j := 5) e_X10_takeText_85 h_toldRate (by decide) (by unfold vp_in; decide) ?_
  refine Wm.topE (w := 0) (rfl) ?_
  refine m_iast F (j := 1) e_X10_takeText_86 h_toldRate (by decide) (by unfold vp_in; decide) upd_c (up_self h_toldRate).symm ?_
  refine m_aload_n F rfl e_X10_takeText_87 ?_
  refine m_get F e_X10_takeText_88 fl_X10_28 h_obj rfl ?_
  refine m_iload_n F rfl e_X10_takeText_91 ?_
  refine m_aload_n F rfl e_X10_takeText_92 ?_
  refine m_get F e_X10_takeText_93 fl_X10_28 h_obj rfl ?_
  refine m_iconst F (v := 4) (by decide) e_X10_takeText_96 ?_
  refine m_iload_n F rfl e_X10_takeText_97 ?_
  refine m_iadd F e_X10_takeText_98 ?_
  refine Wm.topE (w := 5) (by decide) ?_
  refine m_iald F (j := 5) e_X10_takeText_99 h_marks (by decide) (by unfold vp_in; decide) ?_
  refine Wm.topE (w := 0) (rfl) ?_
  refine m_iast F (j := 1) e_X10_takeText_100 h_marks (by decide) (by unfold vp_in; decide) upd_c (up_self h_marks).symm ?_
  refine m_aload_n F rfl e_X10_takeText_101 ?_
  refine m_get F e_X10_takeText_102 fl_X10_31 h_obj rfl ?_
  refine m_iload_n F rfl e_X10_takeText_105 ?_
  refine m_aload_n F rfl e_X10_takeText_106 ?_
  refine m_get F e_X10_takeText_107 fl_X10_31 h_obj rfl ?_
  refine m_iconst F (v := 4) (by decide) e_X10_takeText_110 ?_
  refine m_iload_n F rfl e_X10_takeText_111 ?_
  refine m_iadd F e_X10_takeText_112 ?_
  refine Wm.topE (w := 5) (by decide) ?_
  refine m_iald F (j := 5) e_X10_takeText_113 h_fair (by decide) (by unfold vp_in; decide) ?_
  refine Wm.topE (w := 0) (rfl) ?_
  refine m_iast F (j := 1) e_X10_takeText_114 h_fair (by decide) (by unfold vp_in; decide) upd_c (up_self h_fair).symm ?_
  refine m_aload_n F rfl e_X10_takeText_115 ?_
  refine m_get F e_X10_takeText_116 fl_X10_34 h_obj rfl ?_
  refine m_iload_n F rfl e_X10_takeText_119 ?_
  refine m_aload_n F rfl e_X10_takeText_120 ?_
  refine m_get F e_X10_takeText_121 fl_X10_34 h_obj rfl ?_
  refine m_iconst F (v := 4) (by decide) e_X10_takeText_124 ?_
  refine m_iload_n F rfl e_X10_takeText_125 ?_
  refine m_iadd F e_X10_takeText_126 ?_
  refine Wm.topE (w := 5) (by decide) ?_
  refine m_iald F (j := 5) e_X10_takeText_127 h_fee (by decide) (by unfold vp_in; decide) ?_
  refine Wm.topE (w := 0) (rfl) ?_
  refine m_iast F (j := 1) e_X10_takeText_128 h_fee (by decide) (by unfold vp_in; decide) upd_c (up_self h_fee).symm ?_
  refine m_aload_n F rfl e_X10_takeText_129 ?_
  refine m_get F e_X10_takeText_130 fl_X10_46 h_obj rfl ?_
  refine m_iload_n F rfl e_X10_takeText_133 ?_
  refine m_aload_n F rfl e_X10_takeText_134 ?_
  refine m_get F e_X10_takeText_135 fl_X10_46 h_obj rfl ?_
  refine m_iconst F (v := 4) (by decide) e_X10_takeText_138 ?_
  refine m_iload_n F rfl e_X10_takeText_139 ?_
  refine m_iadd F e_X10_takeText_140 ?_
  refine Wm.topE (w := 5) (by decide) ?_
  refine m_iald F (j := 5) e_X10_takeText_141 h_optionOf (by decide) (by unfold vp_in; decide) ?_
  refine Wm.topE (w := 0) (rfl) ?_
  refine m_iast F (j := 1) e_X10_takeText_142 h_optionOf (by decide) (by unfold vp_in; decide) upd_c (up_self h_optionOf).symm ?_
  refine m_aload_n F rfl e_X10_takeText_143 ?_
  refine m_get F e_X10_takeText_144 fl_X10_49 h_obj rfl ?_
  refine m_iload_n F rfl e_X10_takeText_147 ?_
  refine m_aload_n F rfl e_X10_takeText_148 ?_
  refine m_get F e_X10_takeText_149 fl_X10_49 h_obj rfl ?_
  refine m_iconst F (v := 4) (by decide) e_X10_takeText_152 ?_
  refine m_iload_n F rfl e_X10_takeText_153 ?_
  refine m_iadd F e_X10_takeText_154 ?_
  refine Wm.topE (w := 5) (by decide) ?_
  refine m_iald F (j := 5) e_X10_takeText_155 h_optionMany (by decide) (by unfold vp_in; decide) ?_
  refine Wm.topE (w := 0) (rfl) ?_
  refine m_iast F (j := 1) e_X10_takeText_156 h_optionMany (by decide) (by unfold vp_in; decide) upd_c (up_self h_optionMany).symm ?_
  refine m_aload_n F rfl e_X10_takeText_157 ?_
  refine m_get F e_X10_takeText_158 fl_X10_52 h_obj rfl ?_
  refine m_iload_n F rfl e_X10_takeText_161 ?_
  refine m_aload_n F rfl e_X10_takeText_162 ?_
  refine m_get F e_X10_takeText_163 fl_X10_52 h_obj rfl ?_
  refine m_iconst F (v := 4) (by decide) e_X10_takeText_166 ?_
  refine m_iload_n F rfl e_X10_takeText_167 ?_
  refine m_iadd F e_X10_takeText_168 ?_
  refine Wm.topE (w := 5) (by decide) ?_
  refine m_iald F (j := 5) e_X10_takeText_169 h_optionPays (by decide) (by unfold vp_in; decide) ?_
  refine Wm.topE (w := 0) (rfl) ?_
  refine m_iast F (j := 1) e_X10_takeText_170 h_optionPays (by decide) (by unfold vp_in; decide) upd_c (up_self h_optionPays).symm ?_
  refine m_iinc F (v := 2) (lv' := [(1, .int 2), (0, .ref m)]) e_X10_takeText_171 rfl (by decide) (by decide) rfl ?_
  refine m_goto F e_X10_takeText_174 ?_
  refine m_iload_n F rfl e_X10_takeText_26 ?_
  refine m_iconst F (v := 4) (by decide) e_X10_takeText_27 ?_
  refine m_icmp_ge F e_X10_takeText_28 (fun q => absurd q (by decide)) (fun _ => ?_)
  refine m_aload_n F rfl e_X10_takeText_31 ?_
  refine m_get F e_X10_takeText_32 fl_X10_16 h_obj rfl ?_
  refine m_iload_n F rfl e_X10_takeText_35 ?_
  refine m_aload_n F rfl e_X10_takeText_36 ?_
  refine m_get F e_X10_takeText_37 fl_X10_16 h_obj rfl ?_
  refine m_iconst F (v := 4) (by decide) e_X10_takeText_40 ?_
  refine m_iload_n F rfl e_X10_takeText_41 ?_
  refine m_iadd F e_X10_takeText_42 ?_
  refine Wm.topE (w := 6) (by decide) ?_
  refine m_iald F (j := 6) e_X10_takeText_43 h_name (by decide) (by unfold vp_in; decide) ?_
  refine Wm.topE (w := 0) (rfl) ?_
  refine m_iast F (j := 2) e_X10_takeText_44 h_name (by decide) (by unfold vp_in; decide) upd_c (up_self h_name).symm ?_
  refine m_aload_n F rfl e_X10_takeText_45 ?_
  refine m_get F e_X10_takeText_46 fl_X10_19 h_obj rfl ?_
  refine m_iload_n F rfl e_X10_takeText_49 ?_
  refine m_aload_n F rfl e_X10_takeText_50 ?_
  refine m_get F e_X10_takeText_51 fl_X10_19 h_obj rfl ?_
  refine m_iconst F (v := 4) (by decide) e_X10_takeText_54 ?_
  refine m_iload_n F rfl e_X10_takeText_55 ?_
  refine m_iadd F e_X10_takeText_56 ?_
  refine Wm.topE (w := 6) (by decide) ?_
  refine m_iald F (j := 6) e_X10_takeText_57 h_starts (by decide) (by unfold vp_in; decide) ?_
  refine Wm.topE (w := 0) (rfl) ?_
  refine m_iast F (j := 2) e_X10_takeText_58 h_starts (by decide) (by unfold vp_in; decide) upd_c (up_self h_starts).symm ?_
  refine m_aload_n F rfl e_X10_takeText_59 ?_
  refine m_get F e_X10_takeText_60 fl_X10_22 h_obj rfl ?_
  refine m_iload_n F rfl e_X10_takeText_63 ?_
  refine m_aload_n F rfl e_X10_takeText_64 ?_
  refine m_get F e_X10_takeText_65 fl_X10_22 h_obj rfl ?_
  refine m_iconst F (v := 4) (by decide) e_X10_takeText_68 ?_
  refine m_iload_n F rfl e_X10_takeText_69 ?_
  refine m_iadd F e_X10_takeText_70 ?_
  refine Wm.topE (w := 6) (by decide) ?_
  refine m_iald F (j := 6) e_X10_takeText_71 h_term (by decide) (by unfold vp_in; decide) ?_
  refine Wm.topE (w := 0) (rfl) ?_
  refine m_iast F (j := 2) e_X10_takeText_72 h_term (by decide) (by unfold vp_in; decide) upd_c (up_self h_term).symm ?_
  refine m_aload_n F rfl e_X10_takeText_73 ?_
  refine m_get F e_X10_takeText_74 fl_X10_25 h_obj rfl ?_
  refine m_iload_n F rfl e_X10_takeText_77 ?_
  refine m_aload_n F rfl e_X10_takeText_78 ?_
  refine m_get F e_X10_takeText_79 fl_X10_25 h_obj rfl ?_
  refine m_iconst F (v := 4) (by decide) e_X10_takeText_82 ?_
  refine m_iload_n F rfl e_X10_takeText_83 ?_
  refine m_iadd F e_X10_takeText_84 ?_
  refine Wm.topE (w := 6) (by decide) ?_
  refine m_iald F (j := 6) e_X10_takeText_85 h_toldRate (by decide) (by unfold vp_in; decide) ?_
  refine Wm.topE (w := 0) (rfl) ?_
  refine m_iast F (j := 2) e_X10_takeText_86 h_toldRate (by decide) (by unfold vp_in; decide) upd_c (up_self h_toldRate).symm ?_
  refine m_aload_n F rfl e_X10_takeText_87 ?_
  refine m_get F e_X10_takeText_88 fl_X10_28 h_obj rfl ?_
  refine m_iload_n F rfl e_X10_takeText_91 ?_
  refine m_aload_n F rfl e_X10_takeText_92 ?_
  refine m_get F e_X10_takeText_93 fl_X10_28 h_obj rfl ?_
  refine m_iconst F (v := 4) (by decide) e_X10_takeText_96 ?_
  refine m_iload_n F rfl e_X10_takeText_97 ?_
  refine m_iadd F e_X10_takeText_98 ?_
  refine Wm.topE (w := 6) (by decide) ?_
  refine m_iald F (j := 6) e_X10_takeText_99 h_marks (by decide) (by unfold vp_in; decide) ?_
  refine Wm.topE (w := 0) (rfl) ?_
  refine m_iast F (j := 2) e_X10_takeText_100 h_marks (by decide) (by unfold vp_in; decide) upd_c (up_self h_marks).symm ?_
  refine m_aload_n F rfl e_X10_takeText_101 ?_
  refine m_get F e_X10_takeText_102 fl_X10_31 h_obj rfl ?_
  refine m_iload_n F rfl e_X10_takeText_105 ?_
  refine m_aload_n F rfl e_X10_takeText_106 ?_
  refine m_get F e_X10_takeText_107 fl_X10_31 h_obj rfl ?_
  refine m_iconst F (v := 4) (by decide) e_X10_takeText_110 ?_
  refine m_iload_n F rfl e_X10_takeText_111 ?_
  refine m_iadd F e_X10_takeText_112 ?_
  refine Wm.topE (w := 6) (by decide) ?_
  refine m_iald F (j := 6) e_X10_takeText_113 h_fair (by decide) (by unfold vp_in; decide) ?_
  refine Wm.topE (w := 0) (rfl) ?_
  refine m_iast F (j := 2) e_X10_takeText_114 h_fair (by decide) (by unfold vp_in; decide) upd_c (up_self h_fair).symm ?_
  refine m_aload_n F rfl e_X10_takeText_115 ?_
  refine m_get F e_X10_takeText_116 fl_X10_34 h_obj rfl ?_
  refine m_iload_n F rfl e_X10_takeText_119 ?_
  refine m_aload_n F rfl e_X10_takeText_120 ?_
  refine m_get F e_X10_takeText_121 fl_X10_34 h_obj rfl ?_
  refine m_iconst F (v := 4) (by decide) e_X10_takeText_124 ?_
  refine m_iload_n F rfl e_X10_takeText_125 ?_
  refine m_iadd F e_X10_takeText_126 ?_
  refine Wm.topE (w := 6) (by decide) ?_
  refine m_iald F (j := 6) e_X10_takeText_127 h_fee (by decide) (by unfold vp_in; decide) ?_
  refine Wm.topE (w := 0) (rfl) ?_
  refine m_iast F (j := 2) e_X10_takeText_128 h_fee (by decide) (by unfold vp_in; decide) upd_c (up_self h_fee).symm ?_
  refine m_aload_n F rfl e_X10_takeText_129 ?_
  refine m_get F e_X10_takeText_130 fl_X10_46 h_obj rfl ?_
  refine m_iload_n F rfl e_X10_takeText_133 ?_
  refine m_aload_n F rfl e_X10_takeText_134 ?_
  refine m_get F e_X10_takeText_135 fl_X10_46 h_obj rfl ?_
  refine m_iconst F (v := 4) (by decide) e_X10_takeText_138 ?_
  refine m_iload_n F rfl e_X10_takeText_139 ?_
  refine m_iadd F e_X10_takeText_140 ?_
  refine Wm.topE (w := 6) (by decide) ?_
  refine m_iald F (j := 6) e_X10_takeText_141 h_optionOf (by decide) (by unfold vp_in; decide) ?_
  refine Wm.topE (w := 0) (rfl) ?_
  refine m_iast F (j := 2) e_X10_takeText_142 h_optionOf (by decide) (by unfold vp_in; decide) upd_c (up_self h_optionOf).symm ?_
  refine m_aload_n F rfl e_X10_takeText_143 ?_
  refine m_get F e_X10_takeText_144 fl_X10_49 h_obj rfl ?_
  refine m_iload_n F rfl e_X10_takeText_147 ?_
  refine m_aload_n F rfl e_X10_takeText_148 ?_
  refine m_get F e_X10_takeText_149 fl_X10_49 h_obj rfl ?_
  refine m_iconst F (v := 4) (by decide) e_X10_takeText_152 ?_
  refine m_iload_n F rfl e_X10_takeText_153 ?_
  refine m_iadd F e_X10_takeText_154 ?_
  refine Wm.topE (w := 6) (by decide) ?_
  refine m_iald F (j := 6) e_X10_takeText_155 h_optionMany (by decide) (by unfold vp_in; decide) ?_
  refine Wm.topE (w := 0) (rfl) ?_
  refine m_iast F (j := 2) e_X10_takeText_156 h_optionMany (by decide) (by unfold vp_in; decide) upd_c (up_self h_optionMany).symm ?_
  refine m_aload_n F rfl e_X10_takeText_157 ?_
  refine m_get F e_X10_takeText_158 fl_X10_52 h_obj rfl ?_
  refine m_iload_n F rfl e_X10_takeText_161 ?_
  refine m_aload_n F rfl e_X10_takeText_162 ?_
  refine m_get F e_X10_takeText_163 fl_X10_52 h_obj rfl ?_
  refine m_iconst F (v := 4) (by decide) e_X10_takeText_166 ?_
  refine m_iload_n F rfl e_X10_takeText_167 ?_
  refine m_iadd F e_X10_takeText_168 ?_
  refine Wm.topE (w := 6) (by decide) ?_
  refine m_iald F (j := 6) e_X10_takeText_169 h_optionPays (by decide) (by unfold vp_in; decide) ?_
  refine Wm.topE (w := 0) (rfl) ?_
  refine m_iast F (j := 2) e_X10_takeText_170 h_optionPays (by decide) (by unfold vp_in; decide) upd_c (up_self h_optionPays).symm ?_
  refine m_iinc F (v := 3) (lv' := [(1, .int 3), (0, .ref m)]) e_X10_takeText_171 rfl (by decide) (by decide) rfl ?_
  refine m_goto F e_X10_takeText_174 ?_
  refine m_iload_n F rfl e_X10_takeText_26 ?_
  refine m_iconst F (v := 4) (by decide) e_X10_takeText_27 ?_
  refine m_icmp_ge F e_X10_takeText_28 (fun q => absurd q (by decide)) (fun _ => ?_)
  refine m_aload_n F rfl e_X10_takeText_31 ?_
  refine m_get F e_X10_takeText_32 fl_X10_16 h_obj rfl ?_
  refine m_iload_n F rfl e_X10_takeText_35 ?_
  refine m_aload_n F rfl e_X10_takeText_36 ?_
  refine m_get F e_X10_takeText_37 fl_X10_16 h_obj rfl ?_
  refine m_iconst F (v := 4) (by decide) e_X10_takeText_40 ?_
  refine m_iload_n F rfl e_X10_takeText_41 ?_
  refine m_iadd F e_X10_takeText_42 ?_
  refine Wm.topE (w := 7) (by decide) ?_
  refine m_iald F (j := 7) e_X10_takeText_43 h_name (by decide) (by unfold vp_in; decide) ?_
  refine Wm.topE (w := 0) (rfl) ?_
  refine m_iast F (j := 3) e_X10_takeText_44 h_name (by decide) (by unfold vp_in; decide) upd_c (up_self h_name).symm ?_
  refine m_aload_n F rfl e_X10_takeText_45 ?_
  refine m_get F e_X10_takeText_46 fl_X10_19 h_obj rfl ?_
  refine m_iload_n F rfl e_X10_takeText_49 ?_
  refine m_aload_n F rfl e_X10_takeText_50 ?_
  refine m_get F e_X10_takeText_51 fl_X10_19 h_obj rfl ?_
  refine m_iconst F (v := 4) (by decide) e_X10_takeText_54 ?_
  refine m_iload_n F rfl e_X10_takeText_55 ?_
  refine m_iadd F e_X10_takeText_56 ?_
  refine Wm.topE (w := 7) (by decide) ?_
  refine m_iald F (j := 7) e_X10_takeText_57 h_starts (by decide) (by unfold vp_in; decide) ?_
  refine Wm.topE (w := 0) (rfl) ?_
  refine m_iast F (j := 3) e_X10_takeText_58 h_starts (by decide) (by unfold vp_in; decide) upd_c (up_self h_starts).symm ?_
  refine m_aload_n F rfl e_X10_takeText_59 ?_
  refine m_get F e_X10_takeText_60 fl_X10_22 h_obj rfl ?_
  refine m_iload_n F rfl e_X10_takeText_63 ?_
  refine m_aload_n F rfl e_X10_takeText_64 ?_
  refine m_get F e_X10_takeText_65 fl_X10_22 h_obj rfl ?_
  refine m_iconst F (v := 4) (by decide) e_X10_takeText_68 ?_
  refine m_iload_n F rfl e_X10_takeText_69 ?_
  refine m_iadd F e_X10_takeText_70 ?_
  refine Wm.topE (w := 7) (by decide) ?_
  refine m_iald F (j := 7) e_X10_takeText_71 h_term (by decide) (by unfold vp_in; decide) ?_
  refine Wm.topE (w := 0) (rfl) ?_
  refine m_iast F (j := 3) e_X10_takeText_72 h_term (by decide) (by unfold vp_in; decide) upd_c (up_self h_term).symm ?_
  refine m_aload_n F rfl e_X10_takeText_73 ?_
  refine m_get F e_X10_takeText_74 fl_X10_25 h_obj rfl ?_
  refine m_iload_n F rfl e_X10_takeText_77 ?_
  refine m_aload_n F rfl e_X10_takeText_78 ?_
  refine m_get F e_X10_takeText_79 fl_X10_25 h_obj rfl ?_
  refine m_iconst F (v := 4) (by decide) e_X10_takeText_82 ?_
  refine m_iload_n F rfl e_X10_takeText_83 ?_
  refine m_iadd F e_X10_takeText_84 ?_
  refine Wm.topE (w := 7) (by decide) ?_
  refine m_iald F (j := 7) e_X10_takeText_85 h_toldRate (by decide) (by unfold vp_in; decide) ?_
  refine Wm.topE (w := 0) (rfl) ?_
  refine m_iast F (j := 3) e_X10_takeText_86 h_toldRate (by decide) (by unfold vp_in; decide) upd_c (up_self h_toldRate).symm ?_
  refine m_aload_n F rfl e_X10_takeText_87 ?_
  refine m_get F e_X10_takeText_88 fl_X10_28 h_obj rfl ?_
  refine m_iload_n F rfl e_X10_takeText_91 ?_
  refine m_aload_n F rfl e_X10_takeText_92 ?_
  refine m_get F e_X10_takeText_93 fl_X10_28 h_obj rfl ?_
  refine m_iconst F (v := 4) (by decide) e_X10_takeText_96 ?_
  refine m_iload_n F rfl e_X10_takeText_97 ?_
  refine m_iadd F e_X10_takeText_98 ?_
  refine Wm.topE (w := 7) (by decide) ?_
  refine m_iald F (j := 7) e_X10_takeText_99 h_marks (by decide) (by unfold vp_in; decide) ?_
  refine Wm.topE (w := 0) (rfl) ?_
  refine m_iast F (j := 3) e_X10_takeText_100 h_marks (by decide) (by unfold vp_in; decide) upd_c (up_self h_marks).symm ?_
  refine m_aload_n F rfl e_X10_takeText_101 ?_
  refine m_get F e_X10_takeText_102 fl_X10_31 h_obj rfl ?_
  refine m_iload_n F rfl e_X10_takeText_105 ?_
  refine m_aload_n F rfl e_X10_takeText_106 ?_
  refine m_get F e_X10_takeText_107 fl_X10_31 h_obj rfl ?_
  refine m_iconst F (v := 4) (by decide) e_X10_takeText_110 ?_
  refine m_iload_n F rfl e_X10_takeText_111 ?_
  refine m_iadd F e_X10_takeText_112 ?_
  refine Wm.topE (w := 7) (by decide) ?_
  refine m_iald F (j := 7) e_X10_takeText_113 h_fair (by decide) (by unfold vp_in; decide) ?_
  refine Wm.topE (w := 0) (rfl) ?_
  refine m_iast F (j := 3) e_X10_takeText_114 h_fair (by decide) (by unfold vp_in; decide) upd_c (up_self h_fair).symm ?_
  refine m_aload_n F rfl e_X10_takeText_115 ?_
  refine m_get F e_X10_takeText_116 fl_X10_34 h_obj rfl ?_
  refine m_iload_n F rfl e_X10_takeText_119 ?_
  refine m_aload_n F rfl e_X10_takeText_120 ?_
  refine m_get F e_X10_takeText_121 fl_X10_34 h_obj rfl ?_
  refine m_iconst F (v := 4) (by decide) e_X10_takeText_124 ?_
  refine m_iload_n F rfl e_X10_takeText_125 ?_
  refine m_iadd F e_X10_takeText_126 ?_
  refine Wm.topE (w := 7) (by decide) ?_
  refine m_iald F (j := 7) e_X10_takeText_127 h_fee (by decide) (by unfold vp_in; decide) ?_
  refine Wm.topE (w := 0) (rfl) ?_
  refine m_iast F (j := 3) e_X10_takeText_128 h_fee (by decide) (by unfold vp_in; decide) upd_c (up_self h_fee).symm ?_
  refine m_aload_n F rfl e_X10_takeText_129 ?_
  refine m_get F e_X10_takeText_130 fl_X10_46 h_obj rfl ?_
  refine m_iload_n F rfl e_X10_takeText_133 ?_
  refine m_aload_n F rfl e_X10_takeText_134 ?_
  refine m_get F e_X10_takeText_135 fl_X10_46 h_obj rfl ?_
  refine m_iconst F (v := 4) (by decide) e_X10_takeText_138 ?_
  refine m_iload_n F rfl e_X10_takeText_139 ?_
  refine m_iadd F e_X10_takeText_140 ?_
  refine Wm.topE (w := 7) (by decide) ?_
  refine m_iald F (j := 7) e_X10_takeText_141 h_optionOf (by decide) (by unfold vp_in; decide) ?_
  refine Wm.topE (w := 0) (rfl) ?_
  refine m_iast F (j := 3) e_X10_takeText_142 h_optionOf (by decide) (by unfold vp_in; decide) upd_c (up_self h_optionOf).symm ?_
  refine m_aload_n F rfl e_X10_takeText_143 ?_
  refine m_get F e_X10_takeText_144 fl_X10_49 h_obj rfl ?_
  refine m_iload_n F rfl e_X10_takeText_147 ?_
  refine m_aload_n F rfl e_X10_takeText_148 ?_
  refine m_get F e_X10_takeText_149 fl_X10_49 h_obj rfl ?_
  refine m_iconst F (v := 4) (by decide) e_X10_takeText_152 ?_
  refine m_iload_n F rfl e_X10_takeText_153 ?_
  refine m_iadd F e_X10_takeText_154 ?_
  refine Wm.topE (w := 7) (by decide) ?_
  refine m_iald F (j := 7) e_X10_takeText_155 h_optionMany (by decide) (by unfold vp_in; decide) ?_
  refine Wm.topE (w := 0) (rfl) ?_
  refine m_iast F (j := 3) e_X10_takeText_156 h_optionMany (by decide) (by unfold vp_in; decide) upd_c (up_self h_optionMany).symm ?_
  refine m_aload_n F rfl e_X10_takeText_157 ?_
  refine m_get F e_X10_takeText_158 fl_X10_52 h_obj rfl ?_
  refine m_iload_n F rfl e_X10_takeText_161 ?_
  refine m_aload_n F rfl e_X10_takeText_162 ?_
  refine m_get F e_X10_takeText_163 fl_X10_52 h_obj rfl ?_
  refine m_iconst F (v := 4) (by decide) e_X10_takeText_166 ?_
  refine m_iload_n F rfl e_X10_takeText_167 ?_
  refine m_iadd F e_X10_takeText_168 ?_
  refine Wm.topE (w := 7) (by decide) ?_
  refine m_iald F (j := 7) e_X10_takeText_169 h_optionPays (by decide) (by unfold vp_in; decide) ?_
  refine Wm.topE (w := 0) (rfl) ?_
  refine m_iast F (j := 3) e_X10_takeText_170 h_optionPays (by decide) (by unfold vp_in; decide) upd_c (up_self h_optionPays).symm ?_
  refine m_iinc F (v := 4) (lv' := [(1, .int 4), (0, .ref m)]) e_X10_takeText_171 rfl (by decide) (by decide) rfl ?_
  refine m_goto F e_X10_takeText_174 ?_
  refine m_iload_n F rfl e_X10_takeText_26 ?_
  refine m_iconst F (v := 4) (by decide) e_X10_takeText_27 ?_
  refine m_icmp_ge F e_X10_takeText_28 (fun _ => ?_) (fun q => absurd (by decide) q)
  refine m_iconst F (v := 0) (by decide) e_X10_takeText_177 ?_
  refine m_istore_n F (lv' := [(1, .int 0), (0, .ref m)]) e_X10_takeText_178 (by decide) rfl ?_
  exact lp_takeText0 F hQ h_obj h_number h_name h_starts h_term h_toldRate h_marks h_fair h_fee h_toldPay h_changeAt h_changeTo h_optionOf h_optionMany h_optionPays ⟨rfl, rfl⟩ 193 0 (by omega) (by omega)
set_option maxRecDepth 20000 in
theorem lp_begins1 {V : VX} {X : MX} {N : Nat} {σ : Mem} (F : Fx V X yX10_begins cX10_begins 4 none (rmd 1 0 0)) {m : Nat} {v_thrown v_taped v_lines v_size v_at v_place v_sort v_value v_fault v_faultPlace v_lastFault v_lastPlace v_undoable v_hasImage v_drawn : Int32} (h_obj : σ m = some (ob 8 [.int v_thrown, .ref (m + 1), .int v_taped, .ref (m + 2), .ref (m + 3), .ref (m + 4), .ref (m + 5), .ref (m + 6), .ref (m + 7), .ref (m + 8), .ref (m + 9), .ref (m + 10), .ref (m + 11), .ref (m + 12), .ref (m + 13), .ref (m + 14), .ref (m + 15), .int v_lines, .int v_size, .int v_at, .int v_place, .int v_sort, .int v_value, .int v_fault, .int v_faultPlace, .int v_lastFault, .int v_lastPlace, .ref (m + 16), .ref (m + 17), .ref (m + 18), .ref (m + 19), .ref (m + 20), .int v_undoable, .int v_hasImage, .ref (m + 21), .ref (m + 22), .int v_drawn])) (h_number : σ (m + 2) = some (aI V 10 (fun _ => 0))) {f : Nat → Int64} (hk : Wm V X 4 N (va_up σ (m + 16) (some (aJ V 1113 (fillJ f 0 0 1113)))) 0 0 22 [(1, .int (nI 1113)), (0, .ref m)] []) : ∀ n i : Nat, i ≤ 1113 → 1113 - i < n → Wm V X 4 N (va_up σ (m + 16) (some (aJ V 1113 (fillJ f 0 0 i)))) 0 0 2 [(1, .int (nI i)), (0, .ref m)] [] := by
  intro n
  induction n with
  | zero => intro i h1 h2; exact absurd h2 (by omega)
  | succ n ih =>
    intro i h1 h2
    refine m_iload_n F rfl e_X10_begins_2 ?_
    refine m_sipush F (v := 1113) (by decide) e_X10_begins_3 ?_
    refine m_icmp_ge F e_X10_begins_6 (fun q6 => ?_) (fun q6 => ?_)
    · have c6 : i ≥ 1113 := (nI_leI (a := 1113) (b := i) (by omega) (by omega)).mp q6
      have hi : i = 1113 := by omega
      subst hi
      exact hk
    · have c6 : i < 1113 := by have hh := mt (nI_leI (a := 1113) (b := i) (by omega) (by omega)).mpr q6; omega
      refine m_aload_n F rfl e_X10_begins_9 ?_
      refine m_get F e_X10_begins_10 fl_X10_59 (ru_ne (by omega) h_obj) rfl ?_
      refine m_iload_n F rfl e_X10_begins_13 ?_
      refine m_lconst F (v := 0) (by decide) e_X10_begins_14 ?_
      refine m_last F (j := i) e_X10_begins_15 ru_eq (nI_clamp (by omega)) (vp_in_nI (by omega) (by omega)) rfl (bx_uu _ _ _ _) ?_
      refine m_iinc F (v := nI (i + 1)) (lv' := [(1, .int (nI (i + 1))), (0, .ref m)]) e_X10_begins_16 rfl (nI_add i 1) (by decide) rfl ?_
      refine m_goto F e_X10_begins_19 ?_
      refine Wm.memE (congrArg (fun g => va_up σ (m + 16) (some (aJ V 1113 g))) (fillJ_upd (by omega))) ?_
      exact ih (i + 1) (by omega) (by omega)
set_option maxRecDepth 20000 in
theorem lp_begins2 {V : VX} {X : MX} {N : Nat} {σ : Mem} {Post : Option Value → Mem → Prop} (F : Fx V X yX10_begins cX10_begins 4 none (rmd 1 0 0)) (hQ : Rt V X 0 0 N Post) {m : Nat} {v_thrown v_taped v_lines v_size v_at v_place v_sort v_value v_fault v_faultPlace v_lastFault v_lastPlace v_undoable v_hasImage v_drawn : Int32} (h_obj : σ m = some (ob 8 [.int v_thrown, .ref (m + 1), .int v_taped, .ref (m + 2), .ref (m + 3), .ref (m + 4), .ref (m + 5), .ref (m + 6), .ref (m + 7), .ref (m + 8), .ref (m + 9), .ref (m + 10), .ref (m + 11), .ref (m + 12), .ref (m + 13), .ref (m + 14), .ref (m + 15), .int v_lines, .int v_size, .int v_at, .int v_place, .int v_sort, .int v_value, .int v_fault, .int v_faultPlace, .int v_lastFault, .int v_lastPlace, .ref (m + 16), .ref (m + 17), .ref (m + 18), .ref (m + 19), .ref (m + 20), .int v_undoable, .int v_hasImage, .ref (m + 21), .ref (m + 22), .int v_drawn])) (h_number : σ (m + 2) = some (aI V 10 (fun _ => 0))) {f : Nat → Int64} (hp : Post none (va_up σ (m + 16) (some (aJ V 1113 (fillJ f 1000 644 (644 + 100)))))) : ∀ n i : Nat, i ≤ 100 → 100 - i < n → Wm V X 4 N (va_up σ (m + 16) (some (aJ V 1113 (fillJ f 1000 644 (644 + i))))) 0 0 24 [(1, .int (nI i)), (0, .ref m)] [] := by
  intro n
  induction n with
  | zero => intro i h1 h2; exact absurd h2 (by omega)
  | succ n ih =>
    intro i h1 h2
    refine m_iload_n F rfl e_X10_begins_24 ?_
    refine m_bipush F (v := 99) (by decide) e_X10_begins_25 ?_
    refine m_icmp_gt F e_X10_begins_27 (fun q27 => ?_) (fun q27 => ?_)
    · have c27 : i > 99 := (nI_ltI (a := 99) (b := i) (by omega) (by omega)).mp q27
      have hi : i = 100 := by omega
      subst hi
      refine m_iconst F (v := 0) (by decide) e_X10_begins_94 ?_
      refine m_istore_n F (lv' := [(1, .int 0), (0, .ref m)]) e_X10_begins_95 (by decide) rfl ?_
      refine m_iload_n F rfl e_X10_begins_96 ?_
      refine m_aload_n F rfl e_X10_begins_97 ?_
      refine m_callV F e_X10_begins_98 (k_leases0 (x_l X) V _ _ m v_thrown v_taped v_lines v_size v_at v_place v_sort v_value v_fault v_faultPlace v_lastFault v_lastPlace v_undoable v_hasImage v_drawn  (ru_ne (by omega) h_obj) (ru_ne (by omega) h_number) ) cb_X10_leases ml_X10_221 im_X10_leases se_X10_leases (ru_ne (by omega) h_obj) rfl rfl (rest := [.int 0]) rfl (Nat.le_of_ble_eq_true rfl) ⟨Nat.le_of_ble_eq_true rfl, Nat.le_of_ble_eq_true rfl⟩ ⟨Nat.le_of_ble_eq_true rfl, Nat.le_of_ble_eq_true rfl⟩ (k' := 0) (z' := 0) (N' := N) rfl rfl rfl (fun r τ hp => ?_)
      obtain ⟨rfl, rfl⟩ := hp
      refine m_icmp_ge F e_X10_begins_101 (fun _ => ?_) (fun q => absurd (by decide) q)
      exact m_vret F hQ e_X10_begins_274 (hp)
    · have c27 : i ≤ 99 := by have hh := mt (nI_ltI (a := 99) (b := i) (by omega) (by omega)).mpr q27; omega
      refine m_aload_n F rfl e_X10_begins_30 ?_
      refine m_get F e_X10_begins_31 fl_X10_59 (ru_ne (by omega) h_obj) rfl ?_
      refine m_sipush F (v := 644) (by decide) e_X10_begins_34 ?_
      refine m_iload_n F rfl e_X10_begins_37 ?_
      refine m_iadd F e_X10_begins_38 ?_
      refine Wm.topE (w := nI (644 + i)) (nI_add 644 i) ?_
      refine m_ldc2 F kc_X10_224 e_X10_begins_39 ?_
      refine m_last F (j := 644 + i) e_X10_begins_42 ru_eq (nI_clamp (by omega)) (vp_in_nI (by omega) (by omega)) rfl (bx_uu _ _ _ _) ?_
      refine m_iconst F (v := 0) (by decide) e_X10_begins_43 ?_
      refine m_istore_n F (lv' := [(2, .int 0), (1, .int (nI i)), (0, .ref m)]) e_X10_begins_44 (by decide) rfl ?_
      refine m_iload_n F rfl e_X10_begins_45 ?_
      refine m_aload_n F rfl e_X10_begins_46 ?_
      refine m_get F e_X10_begins_47 fl_X10_13 (ru_ne (by omega) h_obj) rfl ?_
      refine m_iconst F (v := 2) (by decide) e_X10_begins_50 ?_
      refine m_iald F (j := 2) e_X10_begins_51 (ru_ne (by omega) h_number) (by decide) (by unfold vp_in; decide) ?_
      refine Wm.topE (w := 0) (rfl) ?_
      refine m_icmp_ge F e_X10_begins_52 (fun _ => ?_) (fun q => absurd (by decide) q)
      refine m_iinc F (v := nI (i + 1)) (lv' := [(1, .int (nI (i + 1))), (2, .int 0), (0, .ref m)]) e_X10_begins_88 rfl (nI_add i 1) (by decide) rfl ?_
      refine m_goto F e_X10_begins_91 ?_
      refine Wm.lvsub (lv' := [(1, .int (nI (i + 1))), (0, .ref m)]) ?_ [0, 2] rfl
      refine Wm.memE (congrArg (fun g => va_up σ (m + 16) (some (aJ V 1113 g))) (fillJ_upd (by omega))) ?_
      exact ih (i + 1) (by omega) (by omega)
set_option maxRecDepth 20000 in
theorem k_begins0 (l : Launch) (V : VX) (N : Nat) (σ : Mem) (m : Nat) (v_thrown v_taped v_lines v_size v_at v_place v_sort v_value v_fault v_faultPlace v_lastFault v_lastPlace v_undoable v_hasImage v_drawn : Int32) (f : Nat → Int64) (h_obj : σ m = some (ob 8 [.int v_thrown, .ref (m + 1), .int v_taped, .ref (m + 2), .ref (m + 3), .ref (m + 4), .ref (m + 5), .ref (m + 6), .ref (m + 7), .ref (m + 8), .ref (m + 9), .ref (m + 10), .ref (m + 11), .ref (m + 12), .ref (m + 13), .ref (m + 14), .ref (m + 15), .int v_lines, .int v_size, .int v_at, .int v_place, .int v_sort, .int v_value, .int v_fault, .int v_faultPlace, .int v_lastFault, .int v_lastPlace, .ref (m + 16), .ref (m + 17), .ref (m + 18), .ref (m + 19), .ref (m + 20), .int v_undoable, .int v_hasImage, .ref (m + 21), .ref (m + 22), .int v_drawn])) (h_number : σ (m + 2) = some (aI V 10 (fun _ => 0))) (h_s : σ (m + 16) = some (aJ V 1113 f))  : Ct l V yX10_begins cX10_begins 4 none 1 0 0 N σ [.ref m] (fun r τ => r = none ∧ τ = va_up σ (m + 16) (some (aJ V 1113 sZ))) := by
  refine Ct.of (by decide) (Nat.le_of_ble_eq_true rfl) [(0, .ref m)] rfl (fun X hX F hQ => ?_)
  refine m_iconst F (v := 0) (by decide) e_X10_begins_0 ?_
  refine m_istore_n F (lv' := [(1, .int 0), (0, .ref m)]) e_X10_begins_1 (by decide) rfl ?_
  refine Wm.memE (up_self h_s) ?_
  refine Wm.memE (congrArg (fun g => va_up σ (m + 16) (some (aJ V 1113 g))) (fillJ_0 (lo := 0) (v := 0)).symm) ?_
  refine lp_begins1 F h_obj h_number ?_ 1114 0 (by omega) (by omega)
  refine reJ (g := (fun _ => 0)) (fun j hj => by simp only [fillJ]; rw [if_pos ⟨Nat.zero_le _, hj⟩]) ?_
  refine m_iconst F (v := 0) (by decide) e_X10_begins_22 ?_
  refine m_istore_n F (lv' := [(1, .int 0), (0, .ref m)]) e_X10_begins_23 (by decide) rfl ?_
  refine Wm.memE (congrArg (fun g => va_up σ (m + 16) (some (aJ V 1113 g))) (fillJ_0 (lo := 644) (v := 1000)).symm) ?_
  exact lp_begins2 F hQ h_obj h_number ⟨rfl, rfl⟩ 101 0 (by omega) (by omega)
