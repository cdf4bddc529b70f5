theorem m_tret {V : VX} {X : MX} {y : MethodName} {cc : ByteArray} {nL Nf mc ms pc n : Nat} {ty : FieldType} {R : Room} {σ : Mem} {lv : List (Nat × Value)} {Post : Option Value → Mem → Prop} (F : Fx V X y cc nL (some ty) R) (hQ : Rt V X mc ms Nf Post) {v : Int32} (d : DC cc pc 1 n .ireturn) (hn : narrow ty (.int v) = .int v) (hp : Post (some (.int v)) σ) : Wm V X nL Nf σ mc ms pc lv [.int v] := by
  obtain ⟨d, rfl⟩ := d
  intro H locs ls h1 h2 h3
  rw [show x_Q X = _ from hQ]
  exact W.zret F.e F.b F.rt hn (fun t ht hW => ⟨_, σ, rfl, hp, by rw [ht]; exact h1⟩) h2 d F.lk
theorem m_i2c {V : VX} {X : MX} {y : MethodName} {cc : ByteArray} {nL N k z pc n : Nat} {ret : Option FieldType} {R : Room} {σ : Mem} {lv : List (Nat × Value)} {st : List Value} (F : Fx V X y cc nL ret R) {x w : Int32} (d : DC cc pc 1 n (.i2c)) (hv : (x.toUInt32 % 65536).toInt32 = w) (kk : Wm V X nL N σ k z n lv (.int w :: st)) : Wm V X nL N σ k z pc lv (.int x :: st) := by
  obtain ⟨d, rfl⟩ := d
  exact fun H locs ls h1 h2 h3 => lv_i2c F.e F.b d hv (kk H locs ls h1 h2 h3)
theorem wb_chr {i : Nat} (h : i < 48) : ((wbL.getD i 0 &&& 255).toUInt32 % 65536).toInt32 = wbL.getD i 0 ∧ narrow .char (.int (wbL.getD i 0)) = .int (wbL.getD i 0) := by
  have key : ∀ i, i < 48 → ((wbL.getD i 0 &&& 255).toUInt32 % 65536).toInt32 = wbL.getD i 0 ∧ narrow .char (.int (wbL.getD i 0)) = .int (wbL.getD i 0) := by decide +kernel
  exact key i h
theorem wb_47 {i : Nat} (h : i < 48) (h2 : wbL.getD i 0 ≠ 32) : i < 47 := by
  rcases Nat.lt_or_ge i 47 with h3 | h3
  · exact h3
  · exact absurd (show wbL.getD i 0 = 32 by rw [show i = 47 by omega]; decide) h2
set_option maxRecDepth 20000 in
theorem q_isLatin1 (l : Launch) (V : VX) (N : Nat) (σ : Mem)   : Ct l V yJ0_isLatin1_aae02 cJ0_isLatin1_aae02 1 (some .boolean) 0 0 0 N σ [.ref (adS V 4)] (fun r τ => τ = σ ∧ r = some (.int 1)) := by
  refine Ct.of (by decide) (Nat.le_of_ble_eq_true rfl) [(0, .ref (adS V 4))] rfl (fun X hX F hQ => ?_)
  refine m_gs F e_J0_isLatin1_aae02_0 F.sw.2.2.2.2.2.2.2.2.2.2.1 fj_J0_38 ?_
  refine m_if_eq F e_J0_isLatin1_aae02_3 (fun q => absurd q (by decide)) (fun _ => ?_)
  refine m_aload_n F rfl e_J0_isLatin1_aae02_6 ?_
  refine m_gof F e_J0_isLatin1_aae02_7 F.sw.2.2.2.2.2.2.2.1 fj_J0_15 ?_
  refine m_if_ne F e_J0_isLatin1_aae02_10 (fun q => absurd (by decide) q) (fun _ => ?_)
  refine m_iconst F (v := 1) (by decide) e_J0_isLatin1_aae02_13 ?_
  refine m_goto F e_J0_isLatin1_aae02_14 ?_
  exact m_tret F hQ e_J0_isLatin1_aae02_18 (by decide) ⟨rfl, rfl⟩
set_option maxRecDepth 20000 in
theorem q_coder (l : Launch) (V : VX) (N : Nat) (σ : Mem)   : Ct l V yJ0_coder_7d493 cJ0_coder_7d493 1 (some .byte) 0 0 0 N σ [.ref (adS V 4)] (fun r τ => τ = σ ∧ r = some (.int 0)) := by
  refine Ct.of (by decide) (Nat.le_of_ble_eq_true rfl) [(0, .ref (adS V 4))] rfl (fun X hX F hQ => ?_)
  refine m_gs F e_J0_coder_7d493_0 F.sw.2.2.2.2.2.2.2.2.2.2.1 fj_J0_38 ?_
  refine m_if_eq F e_J0_coder_7d493_3 (fun q => absurd q (by decide)) (fun _ => ?_)
  refine m_aload_n F rfl e_J0_coder_7d493_6 ?_
  refine m_gof F e_J0_coder_7d493_7 F.sw.2.2.2.2.2.2.2.1 fj_J0_15 ?_
  refine m_goto F e_J0_coder_7d493_10 ?_
  exact m_tret F hQ e_J0_coder_7d493_14 (by decide) ⟨rfl, rfl⟩
set_option maxRecDepth 20000 in
theorem q_length (l : Launch) (V : VX) (N : Nat) (σ : Mem)   : Ct l V yJ0_length_8abf5 cJ0_length_8abf5 1 (some .int) 1 0 0 N σ [.ref (adS V 4)] (fun r τ => τ = σ ∧ r = some (.int 48)) := by
  refine Ct.of (by decide) (Nat.le_of_ble_eq_true rfl) [(0, .ref (adS V 4))] rfl (fun X hX F hQ => ?_)
  refine m_aload_n F rfl e_J0_length_8abf5_0 ?_
  refine m_gof F e_J0_length_8abf5_1 F.sw.2.2.2.2.2.2.2.2.1 fj_J0_9 ?_
  refine m_tlen F e_J0_length_8abf5_4 F.sw.2.2.2.2.2.2.2.2.2.1 (v := 48) (by decide) ?_
  refine m_aload_n F rfl e_J0_length_8abf5_5 ?_
  refine m_callO F e_J0_length_8abf5_6 (q_coder (x_l X) V _ _) cb_J0_coder_7d493 ml_J0_335 im_J0_coder_7d493 se_J0_coder_7d493 F.sw.2.2.2.2.2.2.1 rfl (rest := [.int 48]) rfl (Nat.le_of_ble_eq_true rfl) ⟨Nat.le_of_ble_eq_true rfl, Nat.le_of_ble_eq_true rfl⟩ ⟨Nat.le_of_ble_eq_true rfl, Nat.le_of_ble_eq_true rfl⟩ (k' := 0) (z' := 0) (N' := N) rfl rfl rfl (fun r σ7391 hp => ?_)
  obtain ⟨rfl, rfl⟩ := hp
  refine m_ishr F e_J0_length_8abf5_9 ?_
  refine Wm.topE (w := 48) (by decide) ?_
  exact m_iret F hQ e_J0_length_8abf5_10 ⟨rfl, rfl⟩
set_option maxRecDepth 20000 in
theorem q_pcIndex0 (l : Launch) (V : VX) (N : Nat) (σ : Mem) (i n : Nat) (hi : i < n) (hn : n ≤ 48) : Ct l V yJ3_checkIndex_8e157 cJ3_checkIndex_8e157 3 (some .int) 0 0 0 N σ [.int (nI i), .int (nI n), .null] (fun r τ => τ = σ ∧ r = some (.int (nI i))) := by
  refine Ct.of (by decide) (Nat.le_of_ble_eq_true rfl) [(0, .int (nI i)), (1, .int (nI n)), (2, .null)] rfl (fun X hX F hQ => ?_)
  refine m_iload_n F rfl e_J3_checkIndex_8e157_0 ?_
  refine m_if_lt F e_J3_checkIndex_8e157_1 (fun q1 => ?_) (fun q1 => ?_)
  · have c1 : i < 0 := (nI_ltI (a := i) (b := 0) (by omega) (by omega)).mp q1
    exfalso; omega
  · have c1 : i ≥ 0 := by have hh := mt (nI_ltI (a := i) (b := 0) (by omega) (by omega)).mpr q1; omega
    refine m_iload_n F rfl e_J3_checkIndex_8e157_4 ?_
    refine m_iload_n F rfl e_J3_checkIndex_8e157_5 ?_
    refine m_icmp_lt F e_J3_checkIndex_8e157_6 (fun q6 => ?_) (fun q6 => ?_)
    · have c6 : i < n := (nI_ltI (a := i) (b := n) (by omega) (by omega)).mp q6
      refine m_iload_n F rfl e_J3_checkIndex_8e157_16 ?_
      exact m_iret F hQ e_J3_checkIndex_8e157_17 ⟨rfl, rfl⟩
    · have c6 : i ≥ n := by have hh := mt (nI_ltI (a := i) (b := n) (by omega) (by omega)).mpr q6; omega
      exfalso; omega
set_option maxRecDepth 20000 in
theorem q_pcIndex1 (l : Launch) (V : VX) (N : Nat) (σ : Mem) (i n : Nat) (t : Nat) (hi : i < n) (hn : n ≤ 48) : Ct l V yJ3_checkIndex_8e157 cJ3_checkIndex_8e157 3 (some .int) 0 0 0 N σ [.int (nI i), .int (nI n), .ref t] (fun r τ => τ = σ ∧ r = some (.int (nI i))) := by
  refine Ct.of (by decide) (Nat.le_of_ble_eq_true rfl) [(0, .int (nI i)), (1, .int (nI n)), (2, .ref t)] rfl (fun X hX F hQ => ?_)
  refine m_iload_n F rfl e_J3_checkIndex_8e157_0 ?_
  refine m_if_lt F e_J3_checkIndex_8e157_1 (fun q1 => ?_) (fun q1 => ?_)
  · have c1 : i < 0 := (nI_ltI (a := i) (b := 0) (by omega) (by omega)).mp q1
    exfalso; omega
  · have c1 : i ≥ 0 := by have hh := mt (nI_ltI (a := i) (b := 0) (by omega) (by omega)).mpr q1; omega
    refine m_iload_n F rfl e_J3_checkIndex_8e157_4 ?_
    refine m_iload_n F rfl e_J3_checkIndex_8e157_5 ?_
    refine m_icmp_lt F e_J3_checkIndex_8e157_6 (fun q6 => ?_) (fun q6 => ?_)
    · have c6 : i < n := (nI_ltI (a := i) (b := n) (by omega) (by omega)).mp q6
      refine m_iload_n F rfl e_J3_checkIndex_8e157_16 ?_
      exact m_iret F hQ e_J3_checkIndex_8e157_17 ⟨rfl, rfl⟩
    · have c6 : i ≥ n := by have hh := mt (nI_ltI (a := i) (b := n) (by omega) (by omega)).mpr q6; omega
      exfalso; omega
set_option maxRecDepth 20000 in
theorem q_checkIndex (l : Launch) (V : VX) (N : Nat) (σ : Mem) (i n : Nat) (hi : i < n) (hn : n ≤ 48) : Ct l V yJ0_checkIndex_df160 cJ0_checkIndex_df160 2 none 1 0 0 N σ [.int (nI i), .int (nI n)] (fun r τ => τ = σ ∧ r = none) := by
  refine Ct.of (by decide) (Nat.le_of_ble_eq_true rfl) [(0, .int (nI i)), (1, .int (nI n))] rfl (fun X hX F hQ => ?_)
  refine m_iload_n F rfl e_J0_checkIndex_df160_0 ?_
  refine m_iload_n F rfl e_J0_checkIndex_df160_1 ?_
  refine m_gsq F e_J0_checkIndex_df160_2 F.sw.2.2.2.2.2.2.2.2.2.2.2 fj_J0_1053 (fun v hv => ?_)
  rcases hv with rfl | ⟨t, rfl⟩
  · refine m_callS F e_J0_checkIndex_df160_5 (q_pcIndex0 (x_l X) V _ _ i n hi hn) cb_J3_checkIndex_8e157 ml_J0_1059 sm_J3_checkIndex_8e157 rfl (rest := []) rfl (Nat.le_of_ble_eq_true rfl) ⟨Nat.le_of_ble_eq_true rfl, Nat.le_of_ble_eq_true rfl⟩ ⟨Nat.le_of_ble_eq_true rfl, Nat.le_of_ble_eq_true rfl⟩ (k' := 0) (z' := 0) (N' := N) rfl rfl rfl (fun r σ7392 hp => ?_)
    obtain ⟨rfl, rfl⟩ := hp
    refine m_pop F rfl e_J0_checkIndex_df160_8 ?_
    exact m_vret F hQ e_J0_checkIndex_df160_9 ⟨rfl, rfl⟩
  · refine m_callS F e_J0_checkIndex_df160_5 (q_pcIndex1 (x_l X) V _ _ i n t hi hn) cb_J3_checkIndex_8e157 ml_J0_1059 sm_J3_checkIndex_8e157 rfl (rest := []) rfl (Nat.le_of_ble_eq_true rfl) ⟨Nat.le_of_ble_eq_true rfl, Nat.le_of_ble_eq_true rfl⟩ ⟨Nat.le_of_ble_eq_true rfl, Nat.le_of_ble_eq_true rfl⟩ (k' := 0) (z' := 0) (N' := N) rfl rfl rfl (fun r σ7393 hp => ?_)
    obtain ⟨rfl, rfl⟩ := hp
    refine m_pop F rfl e_J0_checkIndex_df160_8 ?_
    exact m_vret F hQ e_J0_checkIndex_df160_9 ⟨rfl, rfl⟩
set_option maxRecDepth 20000 in
theorem q_latAt (l : Launch) (V : VX) (N : Nat) (σ : Mem) (i : Nat) (hi : i < 48) : Ct l V yJ1_charAt_3b067 cJ1_charAt_3b067 2 (some .char) 2 0 0 N σ [.ref (adS V 5), .int (nI i)] (fun r τ => τ = σ ∧ r = some (.int (wbL.getD i 0))) := by
  refine Ct.of (by decide) (Nat.le_of_ble_eq_true rfl) [(0, .ref (adS V 5)), (1, .int (nI i))] rfl (fun X hX F hQ => ?_)
  refine m_iload_n F rfl e_J1_charAt_3b067_0 ?_
  refine m_aload_n F rfl e_J1_charAt_3b067_1 ?_
  refine m_tlen F e_J1_charAt_3b067_2 F.sw.2.2.2.2.2.2.2.2.2.1 (v := 48) (by decide) ?_
  refine m_callS F e_J1_charAt_3b067_3 (q_checkIndex (x_l X) V _ _ i 48 hi (by omega)) cb_J0_checkIndex_df160 ml_J1_9 sm_J0_checkIndex_df160 rfl (rest := []) rfl (Nat.le_of_ble_eq_true rfl) ⟨Nat.le_of_ble_eq_true rfl, Nat.le_of_ble_eq_true rfl⟩ ⟨Nat.le_of_ble_eq_true rfl, Nat.le_of_ble_eq_true rfl⟩ (k' := 0) (z' := 0) (N' := N) rfl rfl rfl (fun r σ7394 hp => ?_)
  obtain ⟨rfl, rfl⟩ := hp
  refine m_aload_n F rfl e_J1_charAt_3b067_6 ?_
  refine m_iload_n F rfl e_J1_charAt_3b067_7 ?_
  refine m_tb F e_J1_charAt_3b067_8 F.sw.2.2.2.2.2.2.2.2.2.1 (i := nI i) (vp_in_nI (by omega) (by decide)) (v := .int (wbL.getD i 0)) (by show Value.int (wbL.getD (nI i).toNatClampNeg 0) = _; rw [nI_clamp (by omega)]) ?_
  refine m_sipush F (v := 255) (by decide) e_J1_charAt_3b067_9 ?_
  refine m_iand F e_J1_charAt_3b067_12 ?_
  refine m_i2c F e_J1_charAt_3b067_13 (wb_chr hi).1 ?_
  exact m_tret F hQ e_J1_charAt_3b067_14 (wb_chr hi).2 ⟨rfl, rfl⟩
set_option maxRecDepth 20000 in
theorem q_charAt (l : Launch) (V : VX) (N : Nat) (σ : Mem) (i : Nat) (hi : i < 48) : Ct l V yJ0_charAt_5068e cJ0_charAt_5068e 2 (some .char) 3 0 0 N σ [.ref (adS V 4), .int (nI i)] (fun r τ => τ = σ ∧ r = some (.int (wbL.getD i 0))) := by
  refine Ct.of (by decide) (Nat.le_of_ble_eq_true rfl) [(0, .ref (adS V 4)), (1, .int (nI i))] rfl (fun X hX F hQ => ?_)
  refine m_aload_n F rfl e_J0_charAt_5068e_0 ?_
  refine m_callO F e_J0_charAt_5068e_1 (q_isLatin1 (x_l X) V _ _) cb_J0_isLatin1_aae02 ml_J0_492 im_J0_isLatin1_aae02 se_J0_isLatin1_aae02 F.sw.2.2.2.2.2.2.1 rfl (rest := []) rfl (Nat.le_of_ble_eq_true rfl) ⟨Nat.le_of_ble_eq_true rfl, Nat.le_of_ble_eq_true rfl⟩ ⟨Nat.le_of_ble_eq_true rfl, Nat.le_of_ble_eq_true rfl⟩ (k' := 0) (z' := 0) (N' := N) rfl rfl rfl (fun r σ7395 hp => ?_)
  obtain ⟨rfl, rfl⟩ := hp
  refine m_if_eq F e_J0_charAt_5068e_4 (fun q => absurd q (by decide)) (fun _ => ?_)
  refine m_aload_n F rfl e_J0_charAt_5068e_7 ?_
  refine m_gof F e_J0_charAt_5068e_8 F.sw.2.2.2.2.2.2.2.2.1 fj_J0_9 ?_
  refine m_iload_n F rfl e_J0_charAt_5068e_11 ?_
  refine m_callS F e_J0_charAt_5068e_12 (q_latAt (x_l X) V _ _ i hi) cb_J1_charAt_3b067 ml_J0_495 sm_J1_charAt_3b067 rfl (rest := []) rfl (Nat.le_of_ble_eq_true rfl) ⟨Nat.le_of_ble_eq_true rfl, Nat.le_of_ble_eq_true rfl⟩ ⟨Nat.le_of_ble_eq_true rfl, Nat.le_of_ble_eq_true rfl⟩ (k' := 0) (z' := 0) (N' := N) rfl rfl rfl (fun r σ7396 hp => ?_)
  obtain ⟨rfl, rfl⟩ := hp
  exact m_tret F hQ e_J0_charAt_5068e_15 (wb_chr hi).2 ⟨rfl, rfl⟩
