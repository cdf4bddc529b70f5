theorem lease_throwI {V : VX} {G : GH} {X : MX} {N b M T : Nat} {σ σ0 : Mem} {lv : List (Nat × Value)} (F : Fx V X yX9_lease cX9_lease 4 (some .int) (rmd 9 1 6)) (hQ : x_Q X = QXt V X G b M T σ0) (ht : ∀ z ∈ (x_c X).exceptionTable.toList, False) (hl : (x_l X).stackTraces = false) (h0 : HM V N σ0 (x_s X).heap) (hk : HK V G (b, M, 1, T) [0, 1, 2, 3, 4, 5, 6, 7, 8, 9, 10, 11, 12, 13, 14, 15, 16, 17, 18, 19] σ0 σ) : Wm V X 4 N σ 0 0 10 lv [] := by
  intro H locs ls h1 h2 h3
  rw [hQ]
  have hS := HM.S h0 h1 (Nat.le_refl _) h2
  have hkk : ∀ a : Nat, a < V.2.2.size → ¬ (V.2.2.size ≤ a) → (x_s X).heap[a]? = V.2.2[a]? := fun a ha _ => h0.2.2.1 a ha
  refine vx_throwS (cc := cX9_lease) (pc := 10) (own := RX9) (cls := eIX) (text := "no such lease") (names := eNM) (ik := 107) (is := 109) (ic := 111) (sa := adS V 2) (A := fun q => V.2.2.size ≤ q) F.e F.b hl F.own (by decide +kernel) (by decide +kernel) (F.ts _ kcwI) (F.ts _ iniI) F.sw.1.1
    (vx_hat (L := vx_atS RX9 111 eIX eNM) (B := TWw) (fun w hw => F.ts w (tw_tbI w hw)) tw_badI (fun w hw => va_Nw.use (tw_on hw) (F.sw.2.2.1 w hw))) tw_otI (F.sw.2.1.1.kept hkk) (F.sw.2.1.2.1.kept hkk) hS (by rw [F.ml]; exact h3.1)
    e_X9_lease_10.1 e_X9_lease_13.1 e_X9_lease_14.1 e_X9_lease_16.1 e_X9_lease_19.1 (fun z hz => absurd hz (ht z)) (by rw [F.rm]; exact Nat.le_of_ble_eq_true rfl) (by rw [F.rm]; exact Nat.le_of_ble_eq_true rfl) (by rw [F.rm]; exact Nat.le_of_ble_eq_true rfl) (by rw [F.rm]; exact Nat.le_of_ble_eq_true rfl) F.lk
    (fun t _ hz ho => ⟨Or.inl rfl, t.heap.size, σ, h1.more hz ho, hk⟩) h2 (Nat.le_of_ble_eq_true rfl) (Nat.le_of_ble_eq_true rfl)
theorem lease_throwN {V : VX} {G : GH} {X : MX} {N b M T : Nat} {σ σ0 : Mem} {lv : List (Nat × Value)} (F : Fx V X yX9_lease cX9_lease 4 (some .int) (rmd 9 1 6)) (hQ : x_Q X = QXt V X G b M T σ0) (ht : ∀ z ∈ (x_c X).exceptionTable.toList, False) (hl : (x_l X).stackTraces = false) (h0 : HM V N σ0 (x_s X).heap) (hk : HK V G (b, M, 1, T) [0, 1, 2, 3, 4, 5, 6, 7, 8, 9, 10, 11, 12, 13, 14, 15, 16, 17, 18, 19] σ0 σ) : Wm V X 4 N σ 0 0 125 lv [] := by
  intro H locs ls h1 h2 h3
  rw [hQ]
  have hS := HM.S h0 h1 (Nat.le_refl _) h2
  have hkk : ∀ a : Nat, a < V.2.2.size → ¬ (V.2.2.size ≤ a) → (x_s X).heap[a]? = V.2.2[a]? := fun a ha _ => h0.2.2.1 a ha
  refine tn_row (cc := cX9_lease) (pc := 125) (own := RX9) (E := eNS) (Y := "java/lang/RuntimeException") (r := ["java/lang/Exception"]) (ix := 13) (rx := prog_36_method_4_code) (text := "no such what") (ik := 144) (is := 146) (ic := 148) (sa := adS V 3) (A := fun q => V.2.2.size ≤ q) F.e F.b hl (by decide +kernel) (by decide +kernel) (by decide +kernel) (by decide +kernel) F.own (by decide +kernel) (by decide +kernel) (by decide +kernel) (F.ts _ kcwN) (F.ts _ iniN) F.sw.1.2.1
    (vx_hat (L := tn_atS RX9 148 eNS "java/lang/RuntimeException" ["java/lang/Exception"] 13 prog_36_method_4_code) (B := TWw) (fun w hw => F.ts w (tw_tbN w hw)) tw_badN (fun w hw => va_Nw.use (tw_on hw) (F.sw.2.2.1 w hw))) tw_otN (F.sw.2.1.1.kept hkk) (F.sw.2.1.2.1.kept hkk) hS (by rw [F.ml]; exact h3.1)
    e_X9_lease_125.1 e_X9_lease_128.1 e_X9_lease_129.1 e_X9_lease_131.1 e_X9_lease_134.1 (fun z hz => absurd hz (ht z)) (by rw [F.rm]; exact Nat.le_of_ble_eq_true rfl) (by rw [F.rm]; exact Nat.le_of_ble_eq_true rfl) (by rw [F.rm]; exact Nat.le_of_ble_eq_true rfl) (by rw [F.rm]; exact Nat.le_of_ble_eq_true rfl) F.lk
    (fun t _ hz ho => ⟨Or.inr rfl, t.heap.size, σ, h1.more hz ho, hk⟩) h2 (Nat.le_of_ble_eq_true rfl) (Nat.le_of_ble_eq_true rfl)
set_option maxRecDepth 20000 in
theorem s_X9_lease (l : Launch) (hl0 : l.stackTraces = false) (V : VX) (G : GH) (b M T N : Nat) (σ : Mem) (a : Nat) (x901 x902 : Int32) (h0 : HT V G (b, M, 1, T) σ) (hk : kA b a = 1) (hG : okG G) (hM : M + 0 ≤ 1000000000) : vx_Met l yX9_lease (.code yX9_lease cX9_lease 4 (some .int) :: tb) (rmd 9 1 6) (fun v U => v = [.ref a, .int x901, .int x902].toArray ∧ HM V N σ U.heap ∧ KU V U) (QLt V G b M T σ) (XLt V G b M T σ) 1 6 (fun q => V.2.2.size ≤ q) := by
  refine vx_ofW (cc := cX9_lease) (maxL := 4) (ret := some .int) (by decide) rfl ?_
  intro p e s m args below meth c s₁ B hml ht0 hv
  obtain ⟨rfl, hM0, hK⟩ := hv
  have hts := atoms_spec (ws := Cond.code yX9_lease cX9_lease 4 (some .int) :: tb) B.pre
  have h3 := lv_entry [.ref a, .int x901, .int x902] (n := 4) (Nat.le_of_ble_eq_true rfl)
  rw [lg_entry_eq]
  have h1 : HK V G (b, M, 1, T) [0, 1, 2, 3, 4, 5, 6, 7, 8, 9, 10, 11, 12, 13, 14, 15, 16, 17, 18, 19] σ σ := HK.start h0
  have body : ∀ X : MX, x_Q X = QXt V X G b M T σ → Fx V X yX9_lease cX9_lease 4 (some .int) (rmd 9 1 6) → (∀ z ∈ (x_c X).exceptionTable.toList, False) → (x_l X).stackTraces = false → HM V N σ (x_s X).heap → Wm V X 4 N σ 0 0 0 [(0, .ref a), (1, .int x901), (2, .int x902)] [] := by
    intro X hQ F ht hl hM
    refine m_aload_n F rfl e_X9_lease_0 ?_
    refine m_iload_n F rfl e_X9_lease_1 ?_
    refine t_callV F e_X9_lease_2 (s_X9_leaseAt (x_l X) V G b M 1 T _ _ a x901 h1.1 hk hG (by omega)) cb_X9_leaseAt ml_X9_103 im_X9_leaseAt se_X9_leaseAt (fun _ => o1) h1 hk rfl rfl (rest := []) rfl (Nat.le_of_ble_eq_true rfl) ⟨Nat.le_of_ble_eq_true rfl, Nat.le_of_ble_eq_true rfl⟩ ⟨Nat.le_of_ble_eq_true rfl, Nat.le_of_ble_eq_true rfl⟩ (fun r σ4287 hp => ?_)
    obtain ⟨h4289, c4290⟩ := hp
    have h4288 := HK.trans h1 h4289 (by decide)
    rcases c4290 with rfl | ⟨n4291, r4292, hn4291, en4291, k4293, rfl⟩
    · refine m_astore_nN F (lv' := [(3, .null), (0, .ref a), (1, .int x901), (2, .int x902)]) e_X9_lease_5 (by decide) rfl ?_
      refine m_aload_nN F rfl e_X9_lease_6 ?_
      refine m_ifnonnullN F e_X9_lease_7 ?_
      exact lease_throwI F hQ ht hl hM h4288
    · subst en4291
      refine m_astore_n F (lv' := [(3, .ref r4292), (0, .ref a), (1, .int (nI n4291)), (2, .int x902)]) e_X9_lease_5 (by decide) rfl ?_
      refine m_aload_n F rfl e_X9_lease_6 ?_
      refine m_ifnonnullR F e_X9_lease_7 ?_
      refine m_iload_n F rfl e_X9_lease_20 ?_
      by_cases ho21 : (x902 : Int32).toInt < 0 ∨ 8 < (x902 : Int32).toInt
      · refine m_tableOut F e_X9_lease_21 ho21 (tgt := 125) (by decide) ?_
        exact lease_throwN F hQ ht hl hM h4288
      have hs21 : (x902 : Int32).toInt = 0 ∨ (x902 : Int32).toInt = 1 ∨ (x902 : Int32).toInt = 2 ∨ (x902 : Int32).toInt = 3 ∨ (x902 : Int32).toInt = 4 ∨ (x902 : Int32).toInt = 5 ∨ (x902 : Int32).toInt = 6 ∨ (x902 : Int32).toInt = 7 ∨ (x902 : Int32).toInt = 8 := by omega
      rcases hs21 with hv | hv | hv | hv | hv | hv | hv | hv | hv
      · refine m_tableIn F e_X9_lease_21 (by omega) (by omega) (off := 51) (tgt := 72) (by rw [hv]; rfl) (by decide) ?_
        refine m_aload_n F rfl e_X9_lease_72 ?_
        refine t_get F e_X9_lease_73 fl_X9_114 (fun _ => o15) h4288 k4293 rfl (fun v hv f4294 => ?_)
        obtain ⟨x4295, rfl⟩ := hv
        exact m_iretX F hQ e_X9_lease_76 h4288
      · refine m_tableIn F e_X9_lease_21 (by omega) (by omega) (off := 56) (tgt := 77) (by rw [hv]; rfl) (by decide) ?_
        refine m_aload_n F rfl e_X9_lease_77 ?_
        refine t_get F e_X9_lease_78 fl_X9_119 (fun _ => o15) h4288 k4293 rfl (fun v hv f4296 => ?_)
        obtain ⟨x4297, rfl⟩ := hv
        exact m_iretX F hQ e_X9_lease_81 h4288
      · refine m_tableIn F e_X9_lease_21 (by omega) (by omega) (off := 61) (tgt := 82) (by rw [hv]; rfl) (by decide) ?_
        refine m_aload_n F rfl e_X9_lease_82 ?_
        refine t_get F e_X9_lease_83 fl_X9_122 (fun _ => o15) h4288 k4293 rfl (fun v hv f4298 => ?_)
        obtain ⟨x4299, rfl⟩ := hv
        exact m_iretX F hQ e_X9_lease_86 h4288
      · refine m_tableIn F e_X9_lease_21 (by omega) (by omega) (off := 66) (tgt := 87) (by rw [hv]; rfl) (by decide) ?_
        refine m_aload_n F rfl e_X9_lease_87 ?_
        refine t_get F e_X9_lease_88 fl_X9_125 (fun _ => o15) h4288 k4293 rfl (fun v hv f4300 => ?_)
        obtain ⟨x4301, rfl⟩ := hv
        exact m_iretX F hQ e_X9_lease_91 h4288
      · refine m_tableIn F e_X9_lease_21 (by omega) (by omega) (off := 71) (tgt := 92) (by rw [hv]; rfl) (by decide) ?_
        refine m_aload_n F rfl e_X9_lease_92 ?_
        refine t_callV F e_X9_lease_93 (s_X5_left (x_l X) V G b M 1 T _ _ r4292  h4288.1 k4293  (by omega)) cb_X5_left ml_X9_128 im_X5_left se_X5_left (fun _ => o15) h4288 k4293 rfl rfl (rest := []) rfl (Nat.le_of_ble_eq_true rfl) ⟨Nat.le_of_ble_eq_true rfl, Nat.le_of_ble_eq_true rfl⟩ ⟨Nat.le_of_ble_eq_true rfl, Nat.le_of_ble_eq_true rfl⟩ (fun r σ4302 hp => ?_)
        obtain ⟨h4304, x4305, rfl⟩ := hp
        have h4303 := HK.trans h4288 h4304 (by decide)
        exact m_iretX F hQ e_X9_lease_96 h4303
      · refine m_tableIn F e_X9_lease_21 (by omega) (by omega) (off := 76) (tgt := 97) (by rw [hv]; rfl) (by decide) ?_
        refine m_aload_n F rfl e_X9_lease_97 ?_
        refine t_get F e_X9_lease_98 fl_X9_132 (fun _ => o15) h4288 k4293 rfl (fun v hv f4306 => ?_)
        obtain ⟨x4307, rfl⟩ := hv
        exact m_iretX F hQ e_X9_lease_101 h4288
      · refine m_tableIn F e_X9_lease_21 (by omega) (by omega) (off := 81) (tgt := 102) (by rw [hv]; rfl) (by decide) ?_
        refine m_aload_n F rfl e_X9_lease_102 ?_
        refine t_get F e_X9_lease_103 fl_X9_135 (fun _ => o15) h4288 k4293 rfl (fun v hv f4308 => ?_)
        obtain ⟨x4309, rfl⟩ := hv
        exact m_iretX F hQ e_X9_lease_106 h4288
      · refine m_tableIn F e_X9_lease_21 (by omega) (by omega) (off := 86) (tgt := 107) (by rw [hv]; rfl) (by decide) ?_
        refine m_aload_n F rfl e_X9_lease_107 ?_
        refine t_get F e_X9_lease_108 fl_X9_138 (fun _ => o15) h4288 k4293 rfl (fun v hv f4310 => ?_)
        obtain ⟨n4311, hn4311, rfl⟩ := hv
        replace hn4311 : n4311 ≤ 1 := hn4311
        refine m_if_eq F e_X9_lease_111 (fun q111 => ?_) (fun q111 => ?_)
        · have c111 : n4311 = 0 := (nI_eq (a := n4311) (b := 0) (by omega) (by omega)).mp q111
          refine m_iconst F (v := 0) (by decide) e_X9_lease_118 ?_
          exact m_iretX F hQ e_X9_lease_119 h4288
        · have c111 : n4311 ≠ 0 := by have hh := mt (nI_eq (a := n4311) (b := 0) (by omega) (by omega)).mpr q111; omega
          refine m_iconst F (v := 1) (by decide) e_X9_lease_114 ?_
          refine m_goto F e_X9_lease_115 ?_
          exact m_iretX F hQ e_X9_lease_119 h4288
      · refine m_tableIn F e_X9_lease_21 (by omega) (by omega) (off := 99) (tgt := 120) (by rw [hv]; rfl) (by decide) ?_
        refine m_aload_n F rfl e_X9_lease_120 ?_
        refine t_get F e_X9_lease_121 fl_X9_141 (fun _ => o15) h4288 k4293 rfl (fun v hv f4312 => ?_)
        obtain ⟨x4313, rfl⟩ := hv
        exact m_iretX F hQ e_X9_lease_124 h4288
  exact body ((p, l, e, rmd 9 1 6, s, m, [Value.ref a, .int x901, .int x902].toArray, below, meth, c), vx_MQ below (QLt V G b M T σ) (XLt V G b M T σ) [Value.ref a, .int x901, .int x902].toArray s 1 6 (fun q => V.2.2.size ≤ q)) rfl
    ⟨B.exec, B.bytes, hml, findClass_of_methodNamed B.named, fun w hw => hts w (List.mem_cons_of_mem _ hw), hK, B.returns, B.notSynchronized, (name_of_methodNamed B.named B.method).1, rfl⟩ ht0 hl0 hM0 s.heap [] _ hM0 (fun _ h => absurd h List.not_mem_nil) h3
