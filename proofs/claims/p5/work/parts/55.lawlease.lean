section CX
variable {V : VX} {G : GH} {X : MX} {y : MethodName} {cc : ByteArray} {nL N k z pc n : Nat} {ret : Option FieldType} {R : Room} {σ : Mem} {lv : List (Nat × Value)} {st : List Value}
variable {mc ms dd maxL cn b M T : Nat} {y2 : MethodName} {c2 : ByteArray} {r2 : Option FieldType} {As rest : List Value}
theorem m_callVX (F : Fx V X y cc nL ret R) {index ci a : Nat} {fs : List Value} (d : DC cc pc 3 n (.invokevirtual index)) (hM : vx_Met (x_l X) y2 (.code y2 c2 maxL r2 :: tb) (rmd dd mc ms) (fun v U => v = (Value.ref a :: As).toArray ∧ HM V N σ U.heap ∧ KU V U) (QLt V G b M T σ) (XLt V G b M T σ) mc ms (fun q => V.2.2.size ≤ q)) (cb : CB y2 c2 maxL r2 cn) (hlink : Cond.methodLink y.cls index y2 ∈ tb) (hin : Cond.instanceMethod y2 ∈ tb) (hse : Cond.selects y2.cls y2 y2 ∈ tb) (ha : σ a = some (.inr (ci, fs))) (hci : (classes[ci]?).map (·.1) = some y2.cls) (hn : As.length = cn) (hst : st = As.reverse ++ .ref a :: rest) (hw : (rest.map fun v => v.category).sum ≤ 8) (hR : dd + 1 ≤ R.frames ∧ 8 + (maxL + 11) + 41 * dd ≤ R.locals) (hf : k + mc ≤ R.cells ∧ z + ms ≤ R.slots)
    (kr : ∀ (N' : Nat) (τ : Mem) (x : Int32), HK V G (b, M, 1, T) [0, 1, 2, 3, 4, 5, 6, 7, 8, 9, 10, 11, 12, 13, 14, 15, 16, 17, 18, 19] σ τ → Wm V X nL N' τ (k + mc) (z + ms) n lv (.int x :: rest))
    (kx : ∀ (E : String) (q9 : Addr) (ce : Cell) (N' : Nat) (τ : Mem) (H1 : Heap) (locs1 : List Loc) (ls : Array Slot), (E = eIX ∨ E = eNS) → HK V G (b, M, 1, T) [0, 1, 2, 3, 4, 5, 6, 7, 8, 9, 10, 11, 12, 13, 14, 15, 16, 17, 18, 19] σ τ → HM V N' τ H1 → (∀ q ∈ locs1, V.2.2.size ≤ q.base) → lv_has ls nL lv → H1[q9]? = some ce → ce.vm = .none → (x_s X).vm.findClass E = some ce.cls → vx_W (x_p X) (x_l X) (x_e X) (x_R X) (x_s X) (x_m X) (x_a X) (x_b X) (x_t X) (x_c X) H1 locs1 (k + mc) (z + ms) (x_Q X) (F0 (x_m X) pc ls rest) q9) : Wm V X nL N σ k z pc lv st := by
  obtain ⟨d, rfl⟩ := d
  subst hst
  intro H locs ls h1 h2 h3
  obtain ⟨q, hq, hq1⟩ := Option.map_eq_some_iff.mp hci
  have hrecv := va_recv F.ku.1 (h1.one ha) hq (q0 := 0) rfl
  rw [hq1] at hrecv
  have hb := callB_of (own := y.cls) (index := index) (y := y2) (bytes := c2) (maxL := maxL) (ret := r2) (ws := Cond.code y2 c2 maxL r2 :: tb) (rm := rmd dd mc ms) (mc := mc) (ms := ms) (R := x_R X) cn F.ts (tb_gi (cond_tb cb)) rfl rfl rfl (F.ts _ cb.2.1) (F.ts _ hlink) cb.2.2 (by rw [F.rm]; exact hR)
  have hr := vx_runV (g := F0 (x_m X) pc ls (As.reverse ++ .ref a :: rest)) (C := y2.cls) (As := As) (rest := rest) (locs := locs) (cells := k) (slots := z) (below := x_b X) (meth := x_t X) (e := x_e X) ⟨F.e, F.b, F.ml, F.own, F.ts⟩ hM ⟨hb, F.ts _ hin, F.ts _ hse⟩ ⟨pc_blind, hrecv, fun U hU hW => ⟨rfl, by rw [hU]; exact h1, F.ku.warm hW⟩⟩ rfl hn h3.1 rfl (lv_room hw) d (by rw [F.rm]; exact hf)
  intro T' hT' S
  have hLL : ∀ L : List Loc, (∀ q ∈ L, V.2.2.size ≤ q.base) → ∀ q ∈ locs ++ L, V.2.2.size ≤ q.base := fun L hL q hq => by
    rcases List.mem_append.mp hq with h | h
    · exact h2 q h
    · exact hL q h
  rcases hr T' hT' S with ⟨v, st₀, t, T2, L, h0, S', hL, e1, e2, ⟨N', r, τ, hv, ⟨hkk, x, rfl⟩, hm⟩, step⟩ | ⟨q9, st₀, t, T2, L, E, ce, h0, S', hL, e1, e2, ⟨hE, N', τ, hm, hkk⟩, hce, hcv, hcl, step⟩
  · cases hv
    obtain ⟨t2, a1, b1⟩ := kr N' τ x hkk T2.heap (locs ++ L) ls (by rw [e1]; exact hm) (hLL L hL) h3 T2 rfl S'
    exact ⟨t2, step t2 a1, b1⟩
  · obtain ⟨t2, a1, b1⟩ := kx E q9 ce N' τ T2.heap (locs ++ L) ls hE hkk (by rw [e1]; exact hm) (hLL L hL) h3 (by rw [e1]; exact hce) hcv hcl T2 rfl S'
    exact ⟨t2, step.trans a1, b1⟩
end CX
theorem m_iretL {V : VX} {G : GH} {X : MX} {y : MethodName} {cc : ByteArray} {nL N pc n b M T ou : Nat} {R : Room} {σ σ0 : Mem} {lv : List (Nat × Value)} {v : Int32} (F : Fx V X y cc nL (some .int) R) (hQ : x_Q X = MQ (x_b X) (QLL V G b M T ou σ0) (x_a X) (x_s X) 1 6 (fun q => V.2.2.size ≤ q)) (d : DC cc pc 1 n .ireturn) (hp : HT V G (b, M, 1, T) σ ∧ (∃ z, σ ou = some (aJ V 1 z)) ∧ ∀ a, a ≠ ou → kA b a ∈ [0, 1, 2, 3, 4, 5, 6, 7, 8, 9, 10, 11, 12, 13, 14, 15, 16, 17, 18, 19] → σ a = σ0 a) : Wm V X nL N σ 1 6 pc lv [.int v] := by
  obtain ⟨d, rfl⟩ := d
  intro H locs ls h1 h2 h3
  rw [hQ]
  exact W.iret F.e F.b F.rt (fun t ht hW => ⟨N, _, σ, rfl, ⟨⟨v, rfl⟩, hp⟩, by rw [ht]; exact h1⟩) h2 d F.lk
set_option maxRecDepth 20000 in
theorem s_L_lease (l : Launch) (hl0 : l.stackTraces = false) (V : VX) (G : GH) (b M T N : Nat) (σ : Mem) (a ou : Nat) (x901 x902 : Int32) (z0 : Nat → Int64) (h0 : HT V G (b, M, 1, T) σ) (hk : kA b a = 1) (hG : okG G) (hou : kA b ou = 0) (hz : σ ou = some (aJ V 1 z0)) (hM : M + 0 ≤ 1000000000) : Met l yL_lease (.codeWith yL_lease cL_lease 5 (some .int) HLt :: tb) (rmd 10 1 6) (fun v U => v = [.ref a, .int x901, .int x902, .ref ou].toArray ∧ HM V N σ U.heap ∧ KU V U) (QLL V G b M T ou σ) 1 6 (fun q => V.2.2.size ≤ q) := by
  refine va_MetW (cc := cL_lease) (maxL := 5) (ret := some .int) (hh := HLt) (by decide) rfl ?_
  intro p e s m args below meth c s₁ B hml hv
  obtain ⟨rfl, hM0, hK⟩ := hv
  have hts := atoms_spec (ws := Cond.codeWith yL_lease cL_lease 5 (some .int) HLt :: tb) B.pre
  have htab := vx_table (x := yL_lease) B (hts _ List.mem_cons_self)
  have h3 := lv_entry [.ref a, .int x901, .int x902, .ref ou] (n := 5) (Nat.le_of_ble_eq_true rfl)
  rw [lg_entry_eq]
  have body : ∀ X : MX, x_Q X = MQ (x_b X) (QLL V G b M T ou σ) (x_a X) (x_s X) 1 6 (fun q => V.2.2.size ≤ q) → Fx V X yL_lease cL_lease 5 (some .int) (rmd 10 1 6) → (x_c X).exceptionTable.toList = tableOf HLt → (x_l X).stackTraces = false → Wm V X 5 N σ 0 0 0 [(0, .ref a), (1, .int x901), (2, .int x902), (3, .ref ou)] [] := by
    intro X hQ F htb hl
    obtain ⟨fs, hfs, -⟩ : ∃ fs, σ a = some (ob 7 fs) ∧ TyL G (b, M, 1, T) a oL1 fs := by have h9 := h0 a; rw [show kA (b, M, 1, T).1 a = 1 from hk] at h9; exact h9
    refine m_aload_n F rfl e_L_lease_0 ?_
    refine m_iconst F (v := 0) (by decide) e_L_lease_1 ?_
    refine m_aload_n F rfl e_L_lease_2 ?_
    refine m_iload_n F rfl e_L_lease_3 ?_
    refine m_iload_n F rfl e_L_lease_4 ?_
    refine m_callVX F e_L_lease_5 (s_X9_lease (x_l X) hl V G b M T N σ a x901 x902 h0 hk hG hM) cb_X9_lease ml_L_7 im_X9_lease se_X9_lease hfs rfl rfl (rest := [.int 0, .ref ou]) rfl (Nat.le_of_ble_eq_true rfl) ⟨Nat.le_of_ble_eq_true rfl, Nat.le_of_ble_eq_true rfl⟩ ⟨Nat.le_of_ble_eq_true rfl, Nat.le_of_ble_eq_true rfl⟩ (fun N' τ x hkk => ?_) (fun E q9 ce N' τ H1 locs1 ls hE hkk g1 g2 g3 hce hcv hcl => ?_)
    · refine m_i2l F e_L_lease_8 ?_
      have hz' : τ ou = some (aJ V 1 z0) := (hkk.2 ou (by rw [show kA (b, M, 1, T).1 ou = 0 from hou]; decide)).trans hz
      refine m_last F e_L_lease_9 hz' (j := 0) (by decide) (by unfold vp_in; decide) rfl rfl ?_
      refine m_goto F e_L_lease_10 ?_
      refine m_iconst F (v := 0) (by decide) e_L_lease_21 ?_
      refine m_iretL F hQ e_L_lease_22 ⟨hkk.1.up (by rw [show kA (b, M, 1, T).1 ou = 0 from hou]; trivial), ⟨_, va_up_self _ _ _⟩, fun a' h1 h2 => ?_⟩
      rw [va_up_ne _ _ h1]
      exact hkk.2 a' h2
    · have hpost : HT V G (b, M, 1, T) τ ∧ (∃ z, τ ou = some (aJ V 1 z)) ∧ ∀ a', a' ≠ ou → kA b a' ∈ [0, 1, 2, 3, 4, 5, 6, 7, 8, 9, 10, 11, 12, 13, 14, 15, 16, 17, 18, 19] → τ a' = σ a' := ⟨hkk.1, ⟨z0, (hkk.2 ou (by rw [show kA (b, M, 1, T).1 ou = 0 from hou]; decide)).trans hz⟩, fun a' _ h2 => hkk.2 a' h2⟩
      rcases hE with rfl | rfl
      · refine vx_catch (own := R_law) (name := eIX) (E := eIX) F.own [] ⟨0, 10, 13, 13⟩ [⟨0, 10, 17, 15⟩] (by rw [htb]; rfl) (fun z hz => absurd hz List.not_mem_nil) (by decide) (by decide) (F.ts _ kc_L_13) (va_Nw.use rfl (F.sw.2.2.1 _ (by simp [TWw]))) hce hcv hcl ?_
        have hh : Wm V X 5 N' τ 1 6 13 [(0, .ref a), (1, .int x901), (2, .int x902), (3, .ref ou)] [.ref q9] := by
          refine m_astore F (lv' := [(4, .ref q9), (0, .ref a), (1, .int x901), (2, .int x902), (3, .ref ou)]) e_L_lease_13 (by decide) rfl ?_
          refine m_iconst F (v := 1) (by decide) e_L_lease_15 ?_
          exact m_iretL F hQ e_L_lease_16 hpost
        exact hh H1 locs1 ls g1 g2 g3
      · refine vx_catch (own := R_law) (name := eNS) (E := eNS) F.own [⟨0, 10, 13, 13⟩] ⟨0, 10, 17, 15⟩ [] (by rw [htb]; rfl) (fun z hz => by
          cases List.mem_singleton.mp hz
          exact Or.inr ⟨by decide, eIX, F.ts _ kc_L_13, F.sw.2.1.2.2⟩) (by decide) (by decide) (F.ts _ kc_L_15) (va_Nw.use rfl (F.sw.2.2.1 _ (by simp [TWw]))) hce hcv hcl ?_
        have hh : Wm V X 5 N' τ 1 6 17 [(0, .ref a), (1, .int x901), (2, .int x902), (3, .ref ou)] [.ref q9] := by
          refine m_astore F (lv' := [(4, .ref q9), (0, .ref a), (1, .int x901), (2, .int x902), (3, .ref ou)]) e_L_lease_17 (by decide) rfl ?_
          refine m_iconst F (v := 2) (by decide) e_L_lease_19 ?_
          exact m_iretL F hQ e_L_lease_20 hpost
        exact hh H1 locs1 ls g1 g2 g3
  exact body ((p, l, e, rmd 10 1 6, s, m, [Value.ref a, .int x901, .int x902, .ref ou].toArray, below, meth, c), MQ below (QLL V G b M T ou σ) [Value.ref a, .int x901, .int x902, .ref ou].toArray s 1 6 (fun q => V.2.2.size ≤ q)) rfl
    ⟨B.exec, B.bytes, hml, findClass_of_methodNamed B.named, fun w hw => hts w (List.mem_cons_of_mem _ hw), hK, B.returns, B.notSynchronized, (name_of_methodNamed B.named B.method).1, rfl⟩ htab hl0 s.heap [] _ hM0 (fun _ h => absurd h List.not_mem_nil) h3
