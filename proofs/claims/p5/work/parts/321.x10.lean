/-! the tape's bytes -/
theorem kd_two : ∀ o, o < 1457 → (kd o = 2 → o = 1) ∧ (kd o = 4 → o = 129) := by decide +kernel
theorem kA_2 {b a : Nat} (h : kA b a = 2) : a = b + 1 := by
  obtain ⟨h1, h2, h3⟩ := kA_in h (by decide)
  have h4 := (kd_two _ h2).1 h3
  omega
/-- byte k of an int, 0 .. 255 -/
def bt (x : Int32) (k : Nat) : Nat := ((x >>> (nI (24 - 8 * k) &&& 31)) &&& 255).toBitVec.toNat
theorem low8 (y : Int32) : (y &&& 255).toBitVec.toNat < 256 := by
  rw [Int32.toBitVec_and, BitVec.toNat_and]
  exact Nat.lt_of_le_of_lt Nat.and_le_right (by decide)
theorem nI_bv (x : Int32) : nI x.toBitVec.toNat = x := by
  apply Int32.toBitVec_inj.mp
  show BitVec.ofNat 32 x.toBitVec.toNat = x.toBitVec
  simp
theorem sx_low (y : Int32) : y.toInt8.toInt32 = sx ((y &&& 255).toBitVec.toNat) := by
  unfold sx
  rw [nI_bv]
  congr 1
  apply Int8.toBitVec_inj.mp
  rw [Int32.toBitVec_toInt8, Int32.toBitVec_toInt8, Int32.toBitVec_and]
  apply BitVec.eq_of_getLsbD_eq
  intro i hi
  have key : ∀ i, i < 8 → (255 : Int32).toBitVec.getLsbD i = true := by decide
  rw [BitVec.getLsbD_signExtend, BitVec.getLsbD_signExtend]
  rw [if_pos (show i < 32 by omega), if_pos (show i < 32 by omega), BitVec.getLsbD_and, key i hi, Bool.and_true]
theorem bt_lt {x : Int32} {k : Nat} : bt x k < 256 := low8 _
theorem bt_sx {x w : Int32} {k : Nat} (h : w = nI (24 - 8 * k)) : (x >>> (w &&& 31)).toInt8.toInt32 = sx (bt x k) := by rw [h]; exact sx_low _
theorem bt_nI {x w : Int32} {k : Nat} (h : w = nI (24 - 8 * k)) : (x >>> (w &&& 31)) &&& 255 = nI (bt x k) := by rw [h]; exact (nI_bv _).symm
/-- byte k of a call of feed -/
def fb (x1 x2 x3 x4 x5 : Int32) (k : Nat) : Nat := bt (if k < 4 then x1 else if k < 8 then x2 else if k < 12 then x3 else if k < 16 then x4 else x5) (k % 4)
theorem BY.put {V : VX} {σ τ : Mem} {tp m : Nat} {t : Nat → Nat} {v : Int32} (h : BY V σ tp m t) (e : ∀ f, σ tp = some (aB V 700 f) → τ tp = some (aB V 700 (fun i => if i = m then v else f i))) (h1 : t m < 256) (hv : v = sx (t m)) : BY V τ tp (m + 1) t := by
  obtain ⟨f, h2, h3⟩ := h
  refine ⟨_, e f h2, fun i hi => ?_⟩
  by_cases q : i = m
  · subst q; exact ⟨h1, by simp only [if_true]; exact hv⟩
  · refine ⟨(h3 i (by omega)).1, ?_⟩
    simp only [if_neg q]
    exact (h3 i (by omega)).2
theorem BY.to {V : VX} {σ : Mem} {tp m m2 : Nat} {t : Nat → Nat} (h : BY V σ tp m t) (hm : m2 ≤ m) : BY V σ tp m2 t := by
  obtain ⟨f, h2, h3⟩ := h
  exact ⟨f, h2, fun i hi => h3 i (by omega)⟩
section YROWS
variable {V : VX} {X : MX} {y : MethodName} {cc : ByteArray} {nL N k z pc n : Nat} {ret : Option FieldType} {R : Room} {σ : Mem} {lv : List (Nat × Value)} {st : List Value} {E : PE} {q : Nat} {ks : List Nat} {σ0 : Mem}
theorem t_bastX {G : GH} (F : Fx V X y cc nL ret R) {a len j : Nat} {i x x' : Int32} (d : DC cc pc 1 n .bastore) (hC : ∀ c, CellTy V G E a q c ↔ ∃ f, c = some (aB V len f)) (h : HK V G E ks σ0 σ) (hk : kA E.1 a = q) (hj : i.toNatClampNeg = j) (hin : vp_in i len) (hx : narrow .byte (.int x) = .int x') (hq : q ∉ ks) (kk : ∀ σ' : Mem, HK V G E ks σ0 σ' → (∀ x, x ≠ a → σ' x = σ x) → (∀ f, σ a = some (aB V len f) → σ' a = some (aB V len (fun i => if i = j then x' else f i))) → Wm V X nL N σ' k z n lv st) : Wm V X nL N σ k z pc lv (.int x :: .int i :: .ref a :: st) := by
  have h1 := h.1 a
  rw [hk] at h1
  obtain ⟨f, h2⟩ := (hC _).mp h1
  have hu : upd f j x' = fun i => if i = j then x' else f i := by funext i; unfold upd; rfl
  refine m_bast F d h2 hj hin hx rfl rfl (kk _ (h.up ?_ (by rw [hk]; exact hq)) (fun x hx => va_up_ne _ _ hx) (fun g hg => ?_))
  · rw [hk]; exact (hC _).mpr ⟨_, rfl⟩
  · rw [h2] at hg
    have h3 : f = g := by
      have h4 := congrArg (fun e : Option va_E => match e with | some (.inl (_, _, .inl f)) => f | _ => fun _ => 0) hg
      exact h4
    rw [va_up_self, hu, h3]
theorem t_putTX {G : GH} (F : Fx V X y cc nL ret R) {index a b M Z T T' : Nat} (d : DC cc pc 3 n (.putfield index)) (fp : FP y.cls index 7 1 false .int) (h : HK V G (b, M, Z, T) ks σ0 σ) (hk : kA b a = 1) (hq : 1 ∉ ks) (kk : ∀ σ' : Mem, HK V G (b, M, Z, T') ks σ0 σ' → (∀ x, x ≠ a → σ' x = σ x) → (∀ i, i ≠ 1 → fld σ' a i = fld σ a i) → fld σ' a 1 = some (.int (nI T')) → Wm V X nL N σ' k z n lv st) : Wm V X nL N σ k z pc lv (.int (nI T') :: .ref a :: st) := by
  have h1 := h.1 a
  rw [show kA (b, M, Z, T).1 a = 1 from hk] at h1
  obtain ⟨fs, h2, h3⟩ := h1
  have hH : HT V G (b, M, Z, T') (va_up σ a (some (ob 7 (fs.set 1 (.int (nI T')))))) := by
    refine ht_special (Z := Z) (T := T) h.1 hk (fun y hy => (kA_1 hy).trans (kA_1 hk).symm) (fun y hy q => ?_) ⟨_, rfl, tyl_swap h3 (fun j hj hne w q => tyvT (by clear q; revert j; decide) q) rfl (by decide)⟩
    exact CellTy.to (E := (b, M, Z, T)) rfl (fun e => absurd e hy) (fun _ t ht v q => tyvT (by clear q; revert t; decide) q) (fun t ht v q => tyvT (by omega) q) q
  refine m_put F d fp h2 rfl rfl (by rw [h3.1]; decide) rfl rfl (kk _ ⟨hH, fun y hy => (va_up_ne _ _ (fun e => hq (by rw [e] at hy; rw [← hk]; exact hy))).trans (h.2 y hy)⟩ (fun y hy => va_up_ne _ _ hy) (fun i hi => ?_) (fld_of (va_up_self _ _ _) (List.getElem?_set_self (by rw [h3.1]; decide))))
  unfold fld
  rw [va_up_self, h2]
  show (fs.set 1 (.int (nI T')))[i]? = fs[i]?
  exact List.getElem?_set_ne (fun e => hi e.symm)
end YROWS
set_option maxRecDepth 20000 in
theorem s_X9_putOnTapeE (l : Launch) (V : VX) (G : GH) (b M Z T N : Nat) (σ : Mem) (a : Nat) (x901 : Int32) (t : Nat → Nat) (h0 : HT V G (b, M, Z, T) σ) (hk : kA b a = 1) (hp0 : T ≤ 696) (hG : okG G) (hBy : BY V σ (b + 1) T t) (ht : ∀ k, k < 4 → t (T + k) = bt x901 k) (hM : M + 0 ≤ 1000000000) : Ct l V yX9_putOnTape cX9_putOnTape 3 none 0 0 0 N σ [.ref a, .int x901] (fun r τ => HK V G (b, M, Z, T + 4) [0, 3, 4, 5, 6, 7, 8, 9, 10, 11, 12, 13, 14, 15, 16, 17, 18, 19] σ τ ∧ BY V τ (b + 1) (T + 4) t ∧ r = none) := by
  refine Ct.of (by decide) (Nat.le_of_ble_eq_true rfl) [(0, .ref a), (1, .int x901)] rfl (fun X hX F hQ => ?_)
  have h1 : HK V G (b, M, Z, T) [0, 3, 4, 5, 6, 7, 8, 9, 10, 11, 12, 13, 14, 15, 16, 17, 18, 19] σ σ := HK.start h0
  refine m_bipush F (v := 24) (by decide) e_X9_putOnTape_0 ?_
  refine m_istore_n F (lv' := [(2, .int 24), (0, .ref a), (1, .int x901)]) e_X9_putOnTape_2 (by decide) rfl ?_
  refine m_iload_n F rfl e_X9_putOnTape_3 ?_
  refine m_if_lt F e_X9_putOnTape_4 (fun q => absurd q (by decide)) (fun _ => ?_)
  refine m_aload_n F rfl e_X9_putOnTape_7 ?_
  refine t_get F e_X9_putOnTape_8 fl_X9_52 (fun _ => o1) h1 hk rfl (fun v hv f7529 => ?_)
  obtain rfl : v = .int (nI (T)) := hv
  refine m_sipush F (v := 700) (by decide) e_X9_putOnTape_11 ?_
  refine m_icmp_ge F e_X9_putOnTape_14 (fun q14 => ?_) (fun q14 => ?_)
  · have c14 : T ≥ 700 := (nI_leI (a := 700) (b := T) (by omega) (by omega)).mp q14
    exfalso; omega
  · have c14 : T < 700 := by have hh := mt (nI_leI (a := 700) (b := T) (by omega) (by omega)).mpr q14; omega
    refine m_aload_n F rfl e_X9_putOnTape_17 ?_
    refine t_get F e_X9_putOnTape_18 fl_X9_9 (fun _ => o1) h1 hk rfl (fun v hv f7530 => ?_)
    obtain ⟨r7531, k7532, rfl⟩ := hv
    refine m_aload_n F rfl e_X9_putOnTape_21 ?_
    refine t_getC F e_X9_putOnTape_22 fl_X9_52 (fun _ => o1) h1 hk (f7529) ?_
    refine m_iload_n F rfl e_X9_putOnTape_25 ?_
    refine m_iload_n F rfl e_X9_putOnTape_26 ?_
    refine m_ishr F e_X9_putOnTape_27 ?_
    refine m_i2b F e_X9_putOnTape_28 ?_
    refine t_bastX F (len := 700) (j := T) e_X9_putOnTape_29 (fun _ => o2) h1 k7532 (nI_clamp (by omega)) (vp_in_nI (by omega) (by decide)) (pk_nb (x901 >>> ((24 : Int32) &&& 31))) (by decide) (fun σ7533 h7534 g7535 g7536 => ?_)
    have eby7537 : r7531 = b + 1 := kA_2 k7532
    have qby7537 : t (T) = bt x901 0 := ht 0 (by decide)
    have by7537 : BY V σ7533 (b + 1) (T + 1) t := BY.put hBy (by rw [← eby7537]; exact g7536) (by rw [qby7537]; exact bt_lt) (by rw [qby7537]; exact bt_sx (by decide))
    refine m_aload_n F rfl e_X9_putOnTape_30 ?_
    refine m_dup F rfl e_X9_putOnTape_31 ?_
    refine t_getC F e_X9_putOnTape_32 fl_X9_52 (fun _ => o1) h7534 hk ((fld_eq (g7535 a (kdn hk k7532 (by decide)))).trans f7529) ?_
    refine m_iconst F (v := 1) (by decide) e_X9_putOnTape_35 ?_
    refine m_iadd F e_X9_putOnTape_36 ?_
    refine Wm.topE (w := nI (T + 1)) (nI_add T 1) ?_
    refine t_putTX F (T' := T + 1) e_X9_putOnTape_37 fp_X9_52 h7534 hk (by decide) (fun σ7538 h7539 g7540 g7541 f7542 => ?_)
    have by7543 := BY.keep by7537 (g7540 (b + 1) (by rw [kA_1 hk]; omega))
    refine m_iinc F (v := 16) (lv' := [(2, .int 16), (0, .ref a), (1, .int x901)]) e_X9_putOnTape_40 rfl (by decide) (by decide) rfl ?_
    refine m_goto F e_X9_putOnTape_43 ?_
    refine m_iload_n F rfl e_X9_putOnTape_3 ?_
    refine m_if_lt F e_X9_putOnTape_4 (fun q => absurd q (by decide)) (fun _ => ?_)
    refine m_aload_n F rfl e_X9_putOnTape_7 ?_
    refine t_getC F e_X9_putOnTape_8 fl_X9_52 (fun _ => o1) h7539 hk (f7542) ?_
    refine m_sipush F (v := 700) (by decide) e_X9_putOnTape_11 ?_
    refine m_icmp_ge F e_X9_putOnTape_14 (fun q14 => ?_) (fun q14 => ?_)
    · have c14 : (T + 1) ≥ 700 := (nI_leI (a := 700) (b := (T + 1)) (by omega) (by omega)).mp q14
      exfalso; omega
    · have c14 : (T + 1) < 700 := by have hh := mt (nI_leI (a := 700) (b := (T + 1)) (by omega) (by omega)).mpr q14; omega
      refine m_aload_n F rfl e_X9_putOnTape_17 ?_
      refine t_getC F e_X9_putOnTape_18 fl_X9_9 (fun _ => o1) h7539 hk ((g7541 0 (by decide)).trans ((fld_eq (g7535 a (kdn hk k7532 (by decide)))).trans f7530)) ?_
      refine m_aload_n F rfl e_X9_putOnTape_21 ?_
      refine t_getC F e_X9_putOnTape_22 fl_X9_52 (fun _ => o1) h7539 hk (f7542) ?_
      refine m_iload_n F rfl e_X9_putOnTape_25 ?_
      refine m_iload_n F rfl e_X9_putOnTape_26 ?_
      refine m_ishr F e_X9_putOnTape_27 ?_
      refine m_i2b F e_X9_putOnTape_28 ?_
      refine t_bastX F (len := 700) (j := T + 1) e_X9_putOnTape_29 (fun _ => o2) h7539 k7532 (nI_clamp (by omega)) (vp_in_nI (by omega) (by decide)) (pk_nb (x901 >>> ((16 : Int32) &&& 31))) (by decide) (fun σ7544 h7545 g7546 g7547 => ?_)
      have eby7548 : r7531 = b + 1 := kA_2 k7532
      have qby7548 : t (T + 1) = bt x901 1 := ht 1 (by decide)
      have by7548 : BY V σ7544 (b + 1) (T + 1 + 1) t := BY.put by7543 (by rw [← eby7548]; exact g7547) (by rw [qby7548]; exact bt_lt) (by rw [qby7548]; exact bt_sx (by decide))
      refine m_aload_n F rfl e_X9_putOnTape_30 ?_
      refine m_dup F rfl e_X9_putOnTape_31 ?_
      refine t_getC F e_X9_putOnTape_32 fl_X9_52 (fun _ => o1) h7545 hk ((fld_eq (g7546 a (kdn hk k7532 (by decide)))).trans f7542) ?_
      refine m_iconst F (v := 1) (by decide) e_X9_putOnTape_35 ?_
      refine m_iadd F e_X9_putOnTape_36 ?_
      refine Wm.topE (w := nI (T + 2)) (nI_add (T + 1) 1) ?_
      refine t_putTX F (T' := T + 2) e_X9_putOnTape_37 fp_X9_52 h7545 hk (by decide) (fun σ7549 h7550 g7551 g7552 f7553 => ?_)
      have by7554 := BY.keep by7548 (g7551 (b + 1) (by rw [kA_1 hk]; omega))
      refine m_iinc F (v := 8) (lv' := [(2, .int 8), (0, .ref a), (1, .int x901)]) e_X9_putOnTape_40 rfl (by decide) (by decide) rfl ?_
      refine m_goto F e_X9_putOnTape_43 ?_
      refine m_iload_n F rfl e_X9_putOnTape_3 ?_
      refine m_if_lt F e_X9_putOnTape_4 (fun q => absurd q (by decide)) (fun _ => ?_)
      refine m_aload_n F rfl e_X9_putOnTape_7 ?_
      refine t_getC F e_X9_putOnTape_8 fl_X9_52 (fun _ => o1) h7550 hk (f7553) ?_
      refine m_sipush F (v := 700) (by decide) e_X9_putOnTape_11 ?_
      refine m_icmp_ge F e_X9_putOnTape_14 (fun q14 => ?_) (fun q14 => ?_)
      · have c14 : (T + 2) ≥ 700 := (nI_leI (a := 700) (b := (T + 2)) (by omega) (by omega)).mp q14
        exfalso; omega
      · have c14 : (T + 2) < 700 := by have hh := mt (nI_leI (a := 700) (b := (T + 2)) (by omega) (by omega)).mpr q14; omega
        refine m_aload_n F rfl e_X9_putOnTape_17 ?_
        refine t_getC F e_X9_putOnTape_18 fl_X9_9 (fun _ => o1) h7550 hk ((g7552 0 (by decide)).trans ((fld_eq (g7546 a (kdn hk k7532 (by decide)))).trans ((g7541 0 (by decide)).trans ((fld_eq (g7535 a (kdn hk k7532 (by decide)))).trans f7530)))) ?_
        refine m_aload_n F rfl e_X9_putOnTape_21 ?_
        refine t_getC F e_X9_putOnTape_22 fl_X9_52 (fun _ => o1) h7550 hk (f7553) ?_
        refine m_iload_n F rfl e_X9_putOnTape_25 ?_
        refine m_iload_n F rfl e_X9_putOnTape_26 ?_
        refine m_ishr F e_X9_putOnTape_27 ?_
        refine m_i2b F e_X9_putOnTape_28 ?_
        refine t_bastX F (len := 700) (j := T + 2) e_X9_putOnTape_29 (fun _ => o2) h7550 k7532 (nI_clamp (by omega)) (vp_in_nI (by omega) (by decide)) (pk_nb (x901 >>> ((8 : Int32) &&& 31))) (by decide) (fun σ7555 h7556 g7557 g7558 => ?_)
        have eby7559 : r7531 = b + 1 := kA_2 k7532
        have qby7559 : t (T + 2) = bt x901 2 := ht 2 (by decide)
        have by7559 : BY V σ7555 (b + 1) (T + 2 + 1) t := BY.put by7554 (by rw [← eby7559]; exact g7558) (by rw [qby7559]; exact bt_lt) (by rw [qby7559]; exact bt_sx (by decide))
        refine m_aload_n F rfl e_X9_putOnTape_30 ?_
        refine m_dup F rfl e_X9_putOnTape_31 ?_
        refine t_getC F e_X9_putOnTape_32 fl_X9_52 (fun _ => o1) h7556 hk ((fld_eq (g7557 a (kdn hk k7532 (by decide)))).trans f7553) ?_
        refine m_iconst F (v := 1) (by decide) e_X9_putOnTape_35 ?_
        refine m_iadd F e_X9_putOnTape_36 ?_
        refine Wm.topE (w := nI (T + 3)) (nI_add (T + 2) 1) ?_
        refine t_putTX F (T' := T + 3) e_X9_putOnTape_37 fp_X9_52 h7556 hk (by decide) (fun σ7560 h7561 g7562 g7563 f7564 => ?_)
        have by7565 := BY.keep by7559 (g7562 (b + 1) (by rw [kA_1 hk]; omega))
        refine m_iinc F (v := 0) (lv' := [(2, .int 0), (0, .ref a), (1, .int x901)]) e_X9_putOnTape_40 rfl (by decide) (by decide) rfl ?_
        refine m_goto F e_X9_putOnTape_43 ?_
        refine m_iload_n F rfl e_X9_putOnTape_3 ?_
        refine m_if_lt F e_X9_putOnTape_4 (fun q => absurd q (by decide)) (fun _ => ?_)
        refine m_aload_n F rfl e_X9_putOnTape_7 ?_
        refine t_getC F e_X9_putOnTape_8 fl_X9_52 (fun _ => o1) h7561 hk (f7564) ?_
        refine m_sipush F (v := 700) (by decide) e_X9_putOnTape_11 ?_
        refine m_icmp_ge F e_X9_putOnTape_14 (fun q14 => ?_) (fun q14 => ?_)
        · have c14 : (T + 3) ≥ 700 := (nI_leI (a := 700) (b := (T + 3)) (by omega) (by omega)).mp q14
          exfalso; omega
        · have c14 : (T + 3) < 700 := by have hh := mt (nI_leI (a := 700) (b := (T + 3)) (by omega) (by omega)).mpr q14; omega
          refine m_aload_n F rfl e_X9_putOnTape_17 ?_
          refine t_getC F e_X9_putOnTape_18 fl_X9_9 (fun _ => o1) h7561 hk ((g7563 0 (by decide)).trans ((fld_eq (g7557 a (kdn hk k7532 (by decide)))).trans ((g7552 0 (by decide)).trans ((fld_eq (g7546 a (kdn hk k7532 (by decide)))).trans ((g7541 0 (by decide)).trans ((fld_eq (g7535 a (kdn hk k7532 (by decide)))).trans f7530)))))) ?_
          refine m_aload_n F rfl e_X9_putOnTape_21 ?_
          refine t_getC F e_X9_putOnTape_22 fl_X9_52 (fun _ => o1) h7561 hk (f7564) ?_
          refine m_iload_n F rfl e_X9_putOnTape_25 ?_
          refine m_iload_n F rfl e_X9_putOnTape_26 ?_
          refine m_ishr F e_X9_putOnTape_27 ?_
          refine m_i2b F e_X9_putOnTape_28 ?_
          refine t_bastX F (len := 700) (j := T + 3) e_X9_putOnTape_29 (fun _ => o2) h7561 k7532 (nI_clamp (by omega)) (vp_in_nI (by omega) (by decide)) (pk_nb (x901 >>> ((0 : Int32) &&& 31))) (by decide) (fun σ7566 h7567 g7568 g7569 => ?_)
          have eby7570 : r7531 = b + 1 := kA_2 k7532
          have qby7570 : t (T + 3) = bt x901 3 := ht 3 (by decide)
          have by7570 : BY V σ7566 (b + 1) (T + 3 + 1) t := BY.put by7565 (by rw [← eby7570]; exact g7569) (by rw [qby7570]; exact bt_lt) (by rw [qby7570]; exact bt_sx (by decide))
          refine m_aload_n F rfl e_X9_putOnTape_30 ?_
          refine m_dup F rfl e_X9_putOnTape_31 ?_
          refine t_getC F e_X9_putOnTape_32 fl_X9_52 (fun _ => o1) h7567 hk ((fld_eq (g7568 a (kdn hk k7532 (by decide)))).trans f7564) ?_
          refine m_iconst F (v := 1) (by decide) e_X9_putOnTape_35 ?_
          refine m_iadd F e_X9_putOnTape_36 ?_
          refine Wm.topE (w := nI (T + 4)) (nI_add (T + 3) 1) ?_
          refine t_putTX F (T' := T + 4) e_X9_putOnTape_37 fp_X9_52 h7567 hk (by decide) (fun σ7571 h7572 g7573 g7574 f7575 => ?_)
          have by7576 := BY.keep by7570 (g7573 (b + 1) (by rw [kA_1 hk]; omega))
          refine m_iinc F (v := (-8)) (lv' := [(2, .int (-8)), (0, .ref a), (1, .int x901)]) e_X9_putOnTape_40 rfl (by decide) (by decide) rfl ?_
          refine m_goto F e_X9_putOnTape_43 ?_
          refine m_iload_n F rfl e_X9_putOnTape_3 ?_
          refine m_if_lt F e_X9_putOnTape_4 (fun _ => ?_) (fun q => absurd (by decide) q)
          exact m_vret F hQ e_X9_putOnTape_46 (⟨h7572, by7576, rfl⟩)
theorem fb_at0 {x1 x2 x3 x4 x5 : Int32} {k : Nat} (h : k < 4) : fb x1 x2 x3 x4 x5 (0 + k) = bt x1 k := by
  unfold fb
  rw [show (0 + k) % 4 = k by omega, if_pos (show 0 + k < 4 by omega)]
theorem fb_at1 {x1 x2 x3 x4 x5 : Int32} {k : Nat} (h : k < 4) : fb x1 x2 x3 x4 x5 (4 + k) = bt x2 k := by
  unfold fb
  rw [show (4 + k) % 4 = k by omega, if_neg (show ¬ 4 + k < 4 by omega), if_pos (show 4 + k < 8 by omega)]
theorem fb_at2 {x1 x2 x3 x4 x5 : Int32} {k : Nat} (h : k < 4) : fb x1 x2 x3 x4 x5 (8 + k) = bt x3 k := by
  unfold fb
  rw [show (8 + k) % 4 = k by omega, if_neg (show ¬ 8 + k < 4 by omega), if_neg (show ¬ 8 + k < 8 by omega), if_pos (show 8 + k < 12 by omega)]
theorem fb_at3 {x1 x2 x3 x4 x5 : Int32} {k : Nat} (h : k < 4) : fb x1 x2 x3 x4 x5 (12 + k) = bt x4 k := by
  unfold fb
  rw [show (12 + k) % 4 = k by omega, if_neg (show ¬ 12 + k < 4 by omega), if_neg (show ¬ 12 + k < 8 by omega), if_neg (show ¬ 12 + k < 12 by omega), if_pos (show 12 + k < 16 by omega)]
theorem fb_at4 {x1 x2 x3 x4 x5 : Int32} {k : Nat} (h : k < 4) : fb x1 x2 x3 x4 x5 (16 + k) = bt x5 k := by
  unfold fb
  rw [show (16 + k) % 4 = k by omega, if_neg (show ¬ 16 + k < 4 by omega), if_neg (show ¬ 16 + k < 8 by omega), if_neg (show ¬ 16 + k < 12 by omega), if_neg (show ¬ 16 + k < 16 by omega)]
set_option maxRecDepth 20000 in
theorem s_X9_feedE (l : Launch) (V : VX) (G : GH) (b M Z T N : Nat) (σ : Mem) (a : Nat) (x901 : Int32) (x902 : Int32) (x903 : Int32) (x904 : Int32) (x905 : Int32) (t : Nat → Nat) (h0 : HT V G (b, M, Z, T) σ) (hk : kA b a = 1) (hp0 : T ≤ 700) (hG : okG G) (hBy : BY V σ (b + 1) T t) (ht : ∀ k, k < 20 → t (T + k) = fb x901 x902 x903 x904 x905 k) (hM : M + 0 ≤ 1000000000) : Ct l V yX9_feed cX9_feed 6 (some .int) 1 0 0 N σ [.ref a, .int x901, .int x902, .int x903, .int x904, .int x905] (fun r τ => (700 < T + 20 ∧ HK V G (b, M, Z, T) [0, 3, 4, 5, 6, 7, 8, 9, 10, 11, 12, 13, 14, 15, 16, 17, 18, 19] σ τ ∧ τ = σ ∧ r = some (.int (-1))) ∨ (T + 20 ≤ 700 ∧ HK V G (b, M, Z, T + 20) [0, 3, 4, 5, 6, 7, 8, 9, 10, 11, 12, 13, 14, 15, 16, 17, 18, 19] σ τ ∧ BY V τ (b + 1) (T + 20) t ∧ r = some (.int (nI (T + 20))))) := by
  refine Ct.of (by decide) (Nat.le_of_ble_eq_true rfl) [(0, .ref a), (1, .int x901), (2, .int x902), (3, .int x903), (4, .int x904), (5, .int x905)] rfl (fun X hX F hQ => ?_)
  have h1 : HK V G (b, M, Z, T) [0, 3, 4, 5, 6, 7, 8, 9, 10, 11, 12, 13, 14, 15, 16, 17, 18, 19] σ σ := HK.start h0
  refine m_aload_n F rfl e_X9_feed_0 ?_
  refine t_get F e_X9_feed_1 fl_X9_52 (fun _ => o1) h1 hk rfl (fun v hv f7577 => ?_)
  obtain rfl : v = .int (nI (T)) := hv
  refine m_bipush F (v := 20) (by decide) e_X9_feed_4 ?_
  refine m_iadd F e_X9_feed_6 ?_
  refine Wm.topE (w := nI (T + 20)) (nI_add T 20) ?_
  refine m_sipush F (v := 700) (by decide) e_X9_feed_7 ?_
  refine m_icmp_le F e_X9_feed_10 (fun q10 => ?_) (fun q10 => ?_)
  · have c10 : (T + 20) ≤ 700 := (nI_leI (a := (T + 20)) (b := 700) (by omega) (by omega)).mp q10
    refine m_aload_n F rfl e_X9_feed_15 ?_
    refine m_iload_n F rfl e_X9_feed_16 ?_
    refine t_callV F e_X9_feed_17 (s_X9_putOnTapeE (x_l X) V G b M Z T _ _ a x901 t h1.1 hk (by omega) hG hBy (fun k hk4 => (congrArg t (by omega)).trans ((ht (0 + k) (by omega)).trans (fb_at0 hk4))) (by omega)) cb_X9_putOnTape ml_X9_56 im_X9_putOnTape se_X9_putOnTape (fun _ => o1) h1 hk rfl rfl (rest := []) rfl (Nat.le_of_ble_eq_true rfl) ⟨Nat.le_of_ble_eq_true rfl, Nat.le_of_ble_eq_true rfl⟩ ⟨Nat.le_of_ble_eq_true rfl, Nat.le_of_ble_eq_true rfl⟩ (fun r σ7578 hp => ?_)
    obtain ⟨h7579, by7581, rfl⟩ := hp
    have h7580 := HK.trans h1 h7579 (by decide)
    refine m_aload_n F rfl e_X9_feed_20 ?_
    refine m_iload_n F rfl e_X9_feed_21 ?_
    refine t_callV F e_X9_feed_22 (s_X9_putOnTapeE (x_l X) V G b M Z (T + 4) _ _ a x902 t h7580.1 hk (by omega) hG by7581 (fun k hk4 => (congrArg t (by omega)).trans ((ht (4 + k) (by omega)).trans (fb_at1 hk4))) (by omega)) cb_X9_putOnTape ml_X9_56 im_X9_putOnTape se_X9_putOnTape (fun _ => o1) h7580 hk rfl rfl (rest := []) rfl (Nat.le_of_ble_eq_true rfl) ⟨Nat.le_of_ble_eq_true rfl, Nat.le_of_ble_eq_true rfl⟩ ⟨Nat.le_of_ble_eq_true rfl, Nat.le_of_ble_eq_true rfl⟩ (fun r σ7582 hp => ?_)
    obtain ⟨h7583, by7585, rfl⟩ := hp
    have h7584 := HK.trans h7580 h7583 (by decide)
    refine m_aload_n F rfl e_X9_feed_25 ?_
    refine m_iload_n F rfl e_X9_feed_26 ?_
    refine t_callV F e_X9_feed_27 (s_X9_putOnTapeE (x_l X) V G b M Z (T + 8) _ _ a x903 t h7584.1 hk (by omega) hG by7585 (fun k hk4 => (congrArg t (by omega)).trans ((ht (8 + k) (by omega)).trans (fb_at2 hk4))) (by omega)) cb_X9_putOnTape ml_X9_56 im_X9_putOnTape se_X9_putOnTape (fun _ => o1) h7584 hk rfl rfl (rest := []) rfl (Nat.le_of_ble_eq_true rfl) ⟨Nat.le_of_ble_eq_true rfl, Nat.le_of_ble_eq_true rfl⟩ ⟨Nat.le_of_ble_eq_true rfl, Nat.le_of_ble_eq_true rfl⟩ (fun r σ7586 hp => ?_)
    obtain ⟨h7587, by7589, rfl⟩ := hp
    have h7588 := HK.trans h7584 h7587 (by decide)
    refine m_aload_n F rfl e_X9_feed_30 ?_
    refine m_iload F rfl e_X9_feed_31 ?_
    refine t_callV F e_X9_feed_33 (s_X9_putOnTapeE (x_l X) V G b M Z (T + 12) _ _ a x904 t h7588.1 hk (by omega) hG by7589 (fun k hk4 => (congrArg t (by omega)).trans ((ht (12 + k) (by omega)).trans (fb_at3 hk4))) (by omega)) cb_X9_putOnTape ml_X9_56 im_X9_putOnTape se_X9_putOnTape (fun _ => o1) h7588 hk rfl rfl (rest := []) rfl (Nat.le_of_ble_eq_true rfl) ⟨Nat.le_of_ble_eq_true rfl, Nat.le_of_ble_eq_true rfl⟩ ⟨Nat.le_of_ble_eq_true rfl, Nat.le_of_ble_eq_true rfl⟩ (fun r σ7590 hp => ?_)
    obtain ⟨h7591, by7593, rfl⟩ := hp
    have h7592 := HK.trans h7588 h7591 (by decide)
    refine m_aload_n F rfl e_X9_feed_36 ?_
    refine m_iload F rfl e_X9_feed_37 ?_
    refine t_callV F e_X9_feed_39 (s_X9_putOnTapeE (x_l X) V G b M Z (T + 16) _ _ a x905 t h7592.1 hk (by omega) hG by7593 (fun k hk4 => (congrArg t (by omega)).trans ((ht (16 + k) (by omega)).trans (fb_at4 hk4))) (by omega)) cb_X9_putOnTape ml_X9_56 im_X9_putOnTape se_X9_putOnTape (fun _ => o1) h7592 hk rfl rfl (rest := []) rfl (Nat.le_of_ble_eq_true rfl) ⟨Nat.le_of_ble_eq_true rfl, Nat.le_of_ble_eq_true rfl⟩ ⟨Nat.le_of_ble_eq_true rfl, Nat.le_of_ble_eq_true rfl⟩ (fun r σ7594 hp => ?_)
    obtain ⟨h7595, by7597, rfl⟩ := hp
    have h7596 := HK.trans h7592 h7595 (by decide)
    refine m_aload_n F rfl e_X9_feed_42 ?_
    refine t_get F e_X9_feed_43 fl_X9_52 (fun _ => o1) h7596 hk rfl (fun v hv f7598 => ?_)
    obtain rfl : v = .int (nI (T + 20)) := hv
    exact m_iret F hQ e_X9_feed_46 (Or.inr ⟨by omega, h7596, by7597, rfl⟩)
  · have c10 : (T + 20) > 700 := by have hh := mt (nI_leI (a := (T + 20)) (b := 700) (by omega) (by omega)).mpr q10; omega
    refine m_iconst F (v := (-1)) (by decide) e_X9_feed_13 ?_
    exact m_iret F hQ e_X9_feed_14 (Or.inl ⟨by omega, h1, rfl, rfl⟩)
set_option maxRecDepth 20000 in
theorem lp_J7_fill_53178_4E_5 {V : VX} {G : GH} {X : MX} {b M Z T N : Nat} {σ : Mem}  {r901 : Nat} {x902 : Int32}  (F : Fx V X yJ7_fill_53178 cJ7_fill_53178 4 none (rmd 0 0 0)) (hQ : Rt V X 0 0 N (fun r τ => HK V G (b, M, Z, T) [0, 1, 2, 3, 5, 6, 7, 8, 9, 10, 11, 12, 13, 14, 15, 16, 17, 18, 19] σ τ ∧ (∃ f, τ r901 = some (aI V 4 f) ∧ ∀ i, i < 4 → f i = x902) ∧ r = none)) (k901 : kA b r901 = 4) (hM : M + 0 ≤ 1000000000)  : ∀ (fuel : Nat) (i : Nat) (τ : Mem), HK V G (b, M, Z, T) [0, 1, 2, 3, 5, 6, 7, 8, 9, 10, 11, 12, 13, 14, 15, 16, 17, 18, 19] σ τ → (i ≤ 4 ∧ ∃ f, τ r901 = some (aI V 4 f) ∧ ∀ j, j < i → f j = x902) → 4 - i < fuel → Wm V X 4 N τ 0 0 5 [(2, .int (nI i)), (3, .int 4), (0, .ref r901), (1, .int x902)] [] := by
  intro fuel
  induction fuel with
  | zero => intro i τ h1 hi hm; exact absurd hm (Nat.not_lt_zero _)
  | succ fuel ih =>
    intro i τ h1 hi hm
    obtain ⟨hi0, f, hf1, hf2⟩ := hi
    refine m_iload_n F rfl e_J7_fill_53178_5 ?_
    refine m_iload_n F rfl e_J7_fill_53178_6 ?_
    refine m_icmp_ge F e_J7_fill_53178_7 (fun q7 => ?_) (fun q7 => ?_)
    · have c7 : i ≥ 4 := (nI_leI (a := 4) (b := i) (by omega) (by omega)).mp q7
      exact m_vret F hQ e_J7_fill_53178_20 (⟨h1, ⟨f, hf1, fun j hj => hf2 j (by omega)⟩, rfl⟩)
    · have c7 : i < 4 := by have hh := mt (nI_leI (a := 4) (b := i) (by omega) (by omega)).mpr q7; omega
      refine m_aload_n F rfl e_J7_fill_53178_10 ?_
      refine m_iload_n F rfl e_J7_fill_53178_11 ?_
      refine m_iload_n F rfl e_J7_fill_53178_12 ?_
      refine t_iastX F (len := 4) (j := i) e_J7_fill_53178_13 (fun _ => o4) h1 k901 (nI_clamp (by omega)) (vp_in_nI (by omega) (by decide)) (by decide) (fun σ7599 h7600 g7601 g7602 g7603 g7604 => ?_)
      have hg4 := g7604 f hf1
      refine m_iinc F (v := nI (i + 1)) (lv' := [(2, .int (nI (i + 1))), (3, .int 4), (0, .ref r901), (1, .int x902)]) e_J7_fill_53178_14 rfl (nI_add i 1) (by decide) rfl ?_
      refine m_goto F e_J7_fill_53178_17 ?_
      exact ih (i + 1) _ h7600 ⟨by omega, _, hg4, fun j hj => by show (if j = i then x902 else f j) = x902; by_cases e : j = i; (rw [if_pos e]); (rw [if_neg e]; exact hf2 j (by omega))⟩ (by omega)
set_option maxRecDepth 20000 in
theorem s_J7_fill_53178_4E (l : Launch) (V : VX) (G : GH) (b M Z T N : Nat) (σ : Mem) (r901 : Nat) (x902 : Int32) (h0 : HT V G (b, M, Z, T) σ) (k901 : kA b r901 = 4) (hM : M + 0 ≤ 1000000000) : Ct l V yJ7_fill_53178 cJ7_fill_53178 4 none 0 0 0 N σ [.ref r901, .int x902] (fun r τ => HK V G (b, M, Z, T) [0, 1, 2, 3, 5, 6, 7, 8, 9, 10, 11, 12, 13, 14, 15, 16, 17, 18, 19] σ τ ∧ (∃ f, τ r901 = some (aI V 4 f) ∧ ∀ i, i < 4 → f i = x902) ∧ r = none) := by
  refine Ct.of (by decide) (Nat.le_of_ble_eq_true rfl) [(0, .ref r901), (1, .int x902)] rfl (fun X hX F hQ => ?_)
  have h1 : HK V G (b, M, Z, T) [0, 1, 2, 3, 5, 6, 7, 8, 9, 10, 11, 12, 13, 14, 15, 16, 17, 18, 19] σ σ := HK.start h0
  obtain ⟨f0, hf0⟩ := HK.c4 h1 k901
  refine m_iconst F (v := 0) (by decide) e_J7_fill_53178_0 ?_
  refine m_istore_n F (lv' := [(2, .int 0), (0, .ref r901), (1, .int x902)]) e_J7_fill_53178_1 (by decide) rfl ?_
  refine m_aload_n F rfl e_J7_fill_53178_2 ?_
  refine t_alenI F (len := 4) e_J7_fill_53178_3 (fun _ => o4) h1 k901 (v := 4) (by decide) ?_
  refine m_istore_n F (lv' := [(3, .int 4), (2, .int 0), (0, .ref r901), (1, .int x902)]) e_J7_fill_53178_4 (by decide) rfl ?_
  refine Wm.lvsub (lv' := [(2, .int 0), (3, .int 4), (0, .ref r901), (1, .int x902)]) ?_ [1, 0, 2, 3] rfl
  exact lp_J7_fill_53178_4E_5 F hQ k901 hM (4 - 0 + 1) 0 _ h1 ⟨by omega, f0, hf0, fun j hj => absurd hj (Nat.not_lt_zero _)⟩ (Nat.lt_succ_self _)
set_option maxRecDepth 20000 in
theorem s_X2_clearE (l : Launch) (V : VX) (G : GH) (b M Z T N : Nat) (σ : Mem) (a : Nat) (h0 : HT V G (b, M, Z, T) σ) (hk : kA b a = 7) (hg : ¬ G.gd (blk (a - b)) = 1) (hM : M + 0 ≤ 1000000000) : Ct l V yX2_clear cX2_clear 1 none 2 0 0 N σ [.ref a] (fun r τ => HK V G (b, M, Z, T) [0, 1, 2, 3, 4, 5, 6, 8, 9, 11, 13, 15, 16, 17, 18, 19] σ τ ∧ BX τ a 0 (fun _ => 0) 0 0 0 ∧ r = none) := by
  refine Ct.of (by decide) (Nat.le_of_ble_eq_true rfl) [(0, .ref a)] rfl (fun X hX F hQ => ?_)
  have h1 : HK V G (b, M, Z, T) [0, 1, 2, 3, 4, 5, 6, 8, 9, 11, 13, 15, 16, 17, 18, 19] σ σ := HK.start h0
  refine m_aload_n F rfl e_X2_clear_0 ?_
  refine m_iconst F (v := 0) (by decide) e_X2_clear_1 ?_
  refine t_put F e_X2_clear_2 fp_X2_58 (fun _ => o7) h1 hk rfl ⟨0, ⟨(show 0 ≤ 4 by omega), fun e => absurd e hg⟩, rfl⟩ rfl rfl (by decide) (fun σ7605 h7606 g7607 g7608 f7609 => ?_)
  refine m_aload_n F rfl e_X2_clear_5 ?_
  refine m_iconst F (v := 0) (by decide) e_X2_clear_6 ?_
  refine t_put F e_X2_clear_7 fp_X2_62 (fun _ => o7) h7606 hk rfl ⟨0, (show 0 ≤ 4 by omega), rfl⟩ rfl rfl (by decide) (fun σ7610 h7611 g7612 g7613 f7614 => ?_)
  refine m_aload_n F rfl e_X2_clear_10 ?_
  refine m_iconst F (v := 0) (by decide) e_X2_clear_11 ?_
  refine t_put F e_X2_clear_12 fp_X2_65 (fun _ => o7) h7611 hk rfl ⟨0, (show 0 ≤ 8 by omega), rfl⟩ rfl rfl (by decide) (fun σ7615 h7616 g7617 g7618 f7619 => ?_)
  refine m_aload_n F rfl e_X2_clear_15 ?_
  refine m_iconst F (v := 0) (by decide) e_X2_clear_16 ?_
  refine t_put F e_X2_clear_17 fp_X2_68 (fun _ => o7) h7616 hk rfl ⟨0, (show 0 ≤ M by omega), rfl⟩ rfl rfl (by decide) (fun σ7620 h7621 g7622 g7623 f7624 => ?_)
  refine m_aload_n F rfl e_X2_clear_20 ?_
  refine m_iconst F (v := 0) (by decide) e_X2_clear_21 ?_
  refine t_put F e_X2_clear_22 fp_X2_71 (fun _ => o7) h7621 hk rfl ⟨_, rfl⟩ rfl rfl (by decide) (fun σ7625 h7626 g7627 g7628 f7629 => ?_)
  refine m_aload_n F rfl e_X2_clear_25 ?_
  refine t_get F e_X2_clear_26 fl_X2_23 (fun _ => o7) h7626 hk rfl (fun v hv f7630 => ?_)
  obtain rfl : v = .ref (a + 3) := hv
  refine m_sipush F (v := 1000) (by decide) e_X2_clear_29 ?_
  refine m_callS F e_X2_clear_32 (s_J7_fill_53178_10 (x_l X) V G b M Z T _ _ (a + 3) 1000 h7626.1 (kA_7 hk (r := 3) (by decide)) (by omega)) cb_J7_fill_53178 ml_X2_52 sm_J7_fill_53178 rfl (rest := []) rfl (Nat.le_of_ble_eq_true rfl) ⟨Nat.le_of_ble_eq_true rfl, Nat.le_of_ble_eq_true rfl⟩ ⟨Nat.le_of_ble_eq_true rfl, Nat.le_of_ble_eq_true rfl⟩ (k' := 0) (z' := 0) (N' := N) rfl rfl rfl (fun r σ7631 hp => ?_)
  obtain ⟨h7633, rfl⟩ := hp
  have h7632 := HK.trans h7626 h7633 (by decide)
  refine m_aload_n F rfl e_X2_clear_35 ?_
  refine t_get F e_X2_clear_36 fl_X2_33 (fun _ => o7) h7632 hk rfl (fun v hv f7634 => ?_)
  obtain rfl : v = .ref (a + 5) := hv
  refine t_callV F e_X2_clear_39 (s_X3_clear (x_l X) V G b M Z T _ _ (a + 5)  h7632.1 (kA_7 hk (r := 5) (by decide))  (by omega)) cb_X3_clear ml_X2_74 im_X3_clear se_X3_clear (fun _ => o12) h7632 (kA_7 hk (r := 5) (by decide)) rfl rfl (rest := []) rfl (Nat.le_of_ble_eq_true rfl) ⟨Nat.le_of_ble_eq_true rfl, Nat.le_of_ble_eq_true rfl⟩ ⟨Nat.le_of_ble_eq_true rfl, Nat.le_of_ble_eq_true rfl⟩ (fun r σ7635 hp => ?_)
  obtain ⟨h7637, rfl⟩ := hp
  have h7636 := HK.trans h7632 h7637 (by decide)
  exact m_vret F hQ e_X2_clear_42 (⟨h7636, BX.zero ((fld_eq (h7637.2 a (by rw [show kA _ a = 7 from hk]; decide))).trans ((fld_eq (h7633.2 a (by rw [show kA _ a = 7 from hk]; decide))).trans ((g7628 8 (by decide)).trans ((g7623 8 (by decide)).trans ((g7618 8 (by decide)).trans ((g7613 8 (by decide)).trans f7609)))))) ((fld_eq (h7637.2 a (by rw [show kA _ a = 7 from hk]; decide))).trans ((fld_eq (h7633.2 a (by rw [show kA _ a = 7 from hk]; decide))).trans ((g7628 9 (by decide)).trans ((g7623 9 (by decide)).trans ((g7618 9 (by decide)).trans f7614))))) ((fld_eq (h7637.2 a (by rw [show kA _ a = 7 from hk]; decide))).trans ((fld_eq (h7633.2 a (by rw [show kA _ a = 7 from hk]; decide))).trans ((g7628 10 (by decide)).trans ((g7623 10 (by decide)).trans f7619)))), rfl⟩)
