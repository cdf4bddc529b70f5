section STATIC
variable {V : VX} {X : MX} {y : MethodName} {cc : ByteArray} {nL N k z pc n : Nat} {ret : Option FieldType} {R : Room} {σ : Mem} {lv : List (Nat × Value)} {st : List Value}
theorem Fx.sw (F : Fx V X y cc nL ret R) : SW V (x_s X) := F.ku.2.2.2.2.2
theorem m_gsN (F : Fx V X y cc nL ret R) {index : Nat} {C n0 d0 host : String} {v : Value} (d : DC cc pc 3 n (.getstatic index)) (hZ : va_Z C n0 d0 v (gA V) (x_s X) V.2.2) (hl : va_Nw (.fieldLinkNest y.cls index C n0 d0 host) (x_s X)) (kk : Wm V X nL N σ k z n lv (v :: st)) : Wm V X nL N σ k z pc lv st := by
  obtain ⟨d, rfl⟩ := d
  intro H locs ls h1 h2 h3
  obtain ⟨cf, kf, fi, f, a, cell, g1, g2, g3, g4, g5, g6, g7, g8⟩ := hZ
  exact va_WgetsN F.e F.b F.own (va_Nw.use rfl hl) g1 g2 g3 g4 (by rw [h1.2.2.1 a (Nat.not_le.mp g8)]; exact g5) (fun e => by rw [e] at g6; cases g6) g7 rfl d (kk H locs ls h1 h2 h3)
theorem m_gs (F : Fx V X y cc nL ret R) {index : Nat} {C n0 d0 : String} {v : Value} (d : DC cc pc 3 n (.getstatic index)) (hZ : va_Z C n0 d0 v (gA V) (x_s X) V.2.2) (hl : Cond.fieldLink y.cls index C n0 d0 ∈ tb) (kk : Wm V X nL N σ k z n lv (v :: st)) : Wm V X nL N σ k z pc lv st := by
  obtain ⟨d, rfl⟩ := d
  intro H locs ls h1 h2 h3
  obtain ⟨cf, kf, fi, f, a, cell, g1, g2, g3, g4, g5, g6, g7, g8⟩ := hZ
  exact W.gets F.e F.b F.own (F.ts _ hl) g1 g2 g3 g4 (by rw [h1.2.2.1 a (Nat.not_le.mp g8)]; exact g5) (fun e => by rw [e] at g6; cases g6) g7 rfl d (kk H locs ls h1 h2 h3)
theorem m_tlen (F : Fx V X y cc nL ret R) {ty : FieldType} {t len : Nat} {f : Nat → Value} {v : Int32} (d : DC cc pc 1 n .arraylength) (hT : va_T ty t len f (gA V) (x_s X) V.2.2) (hv : Int32.ofNat len = v) (kk : Wm V X nL N σ k z n lv (.int v :: st)) : Wm V X nL N σ k z pc lv (.ref t :: st) := by
  obtain ⟨d, rfl⟩ := d
  subst hv
  intro H locs ls h1 h2 h3
  obtain ⟨cell, g1, g2, g3, g4, g5, g6, g7⟩ := hT
  exact W.alen (n := Int32.ofNat len) F.e F.b (by rw [h1.2.2.1 t (Nat.not_le.mp g7)]; exact g1) g2 g5 rfl rfl d (kk H locs ls h1 h2 h3)
theorem tin {i : Int32} {len m : Nat} (hin : vp_in i len) (h : len ≤ m) : ¬ (i < 0 ∨ m ≤ i.toNatClampNeg) := by
  intro q
  rcases q with q | q
  · exact hin (Or.inl q)
  · exact hin (Or.inr (Nat.le_trans h q))
theorem m_tq (F : Fx V X y cc nL ret R) {C : String} {t len : Nat} {f : Nat → Value} {i : Int32} {v : Value} (d : DC cc pc 1 n .aaload) (hT : va_T (.object C) t len f (gA V) (x_s X) V.2.2) (hin : vp_in i len) (hv : f i.toNatClampNeg = v) (kk : Wm V X nL N σ k z n lv (v :: st)) : Wm V X nL N σ k z pc lv (.int i :: .ref t :: st) := by
  obtain ⟨d, rfl⟩ := d
  intro H locs ls h1 h2 h3
  obtain ⟨cell, g1, g2, g3, g4, g5, g6, g7⟩ := hT
  exact W.aald (v := v) (ty := .object C) F.e F.b (by rw [h1.2.2.1 t (Nat.not_le.mp g7)]; exact g1) g2 rfl g3 (tin hin g4) (by rw [g6 _ (Nat.not_le.mp fun q => hin (Or.inr q)), hv]) rfl rfl d (kk H locs ls h1 h2 h3)
theorem m_ti (F : Fx V X y cc nL ret R) {t len : Nat} {f : Nat → Value} {i : Int32} {v : Value} (d : DC cc pc 1 n .iaload) (hT : va_T .int t len f (gA V) (x_s X) V.2.2) (hin : vp_in i len) (hv : f i.toNatClampNeg = v) (kk : Wm V X nL N σ k z n lv (v :: st)) : Wm V X nL N σ k z pc lv (.int i :: .ref t :: st) := by
  obtain ⟨d, rfl⟩ := d
  intro H locs ls h1 h2 h3
  obtain ⟨cell, g1, g2, g3, g4, g5, g6, g7⟩ := hT
  exact W.iald (v := v) F.e F.b (by rw [h1.2.2.1 t (Nat.not_le.mp g7)]; exact g1) g2 g3 (tin hin g4) (by rw [g6 _ (Nat.not_le.mp fun q => hin (Or.inr q)), hv]) rfl rfl d (kk H locs ls h1 h2 h3)
theorem m_gof (F : Fx V X y cc nL ret R) {index t : Nat} {o n0 d0 : String} {v : Value} (d : DC cc pc 3 n (.getfield index)) (hO : va_OF o n0 d0 v t (gA V) (x_s X) V.2.2) (hl : Cond.fieldLink y.cls index o n0 d0 ∈ tb) (kk : Wm V X nL N σ k z n lv (v :: st)) : Wm V X nL N σ k z pc lv (.ref t :: st) := by
  obtain ⟨d, rfl⟩ := d
  intro H locs ls h1 h2 h3
  obtain ⟨cf, kf, fi, f, cell, g1, g2, g3, g4, g5, g6⟩ := hO
  exact W.getf F.e F.b F.own (F.ts _ hl) g1 g2 (by rw [h1.2.2.1 t (Nat.not_le.mp g6)]; exact g3) g4 g5 rfl rfl d (kk H locs ls h1 h2 h3)
theorem m_ldcS (F : Fx V X y cc nL ret R) {index q : Nat} {tx : String} (d : DC cc pc 2 n (.ldc index)) (hZ : vk_R y.cls index tx q (x_s X)) (kk : Wm V X nL N σ k z n lv (.ref q :: st)) : Wm V X nL N σ k z pc lv st := by
  obtain ⟨d, rfl⟩ := d
  exact fun H locs ls h1 h2 h3 => va_ldcS F.e F.b F.own hZ d (kk H locs ls h1 h2 h3)
theorem m_gsq (F : Fx V X y cc nL ret R) {index : Nat} {C n0 d0 : String} (d : DC cc pc 3 n (.getstatic index)) (hZ : va_Zq C n0 d0 (gA V) (x_s X) V.2.2) (hl : Cond.fieldLink y.cls index C n0 d0 ∈ tb) (kk : ∀ v : Value, (v = .null ∨ ∃ t, v = .ref t) → Wm V X nL N σ k z n lv (v :: st)) : Wm V X nL N σ k z pc lv st := by
  rcases hZ with hZ | ⟨t, hZ⟩
  · exact m_gs F d hZ hl (kk _ (Or.inl rfl))
  · exact m_gs F d hZ hl (kk _ (Or.inr ⟨t, rfl⟩))
/-- a call of an object of the world: not one of the program's own -/
theorem m_callO {y2 : MethodName} {c2 : ByteArray} {maxL dd mc ms cn k' z' N' : Nat} {r2 : Option FieldType} {As rest : List Value} {Post : Option Value → Mem → Prop} (F : Fx V X y cc nL ret R) {index a : Nat} (d : DC cc pc 3 n (.invokevirtual index)) (hM : Ct (x_l X) V y2 c2 maxL r2 dd mc ms N σ (.ref a :: As) Post) (cb : CB y2 c2 maxL r2 cn) (hlink : Cond.methodLink y.cls index y2 ∈ tb) (hin : Cond.instanceMethod y2 ∈ tb) (hse : Cond.selects y2.cls y2 y2 ∈ tb) (hO : va_O y2.cls a (gA V) (x_s X) V.2.2) (hn : As.length = cn) (hst : st = As.reverse ++ .ref a :: rest) (hw : (rest.map fun v => v.category).sum ≤ 8) (hR : dd + 1 ≤ R.frames ∧ 8 + (maxL + 11) + 41 * dd ≤ R.locals) (hf : k + mc ≤ R.cells ∧ z + ms ≤ R.slots) (hk : k + mc = k') (hz : z + ms = z') (hN : N + mc = N') (kk : ∀ r τ, Post r τ → Wm V X nL N' τ k' z' n lv (r.toList ++ rest)) : Wm V X nL N σ k z pc lv st := by
  obtain ⟨d, rfl⟩ := d
  subst hk; subst hz; subst hN; subst hst
  intro H locs ls h1 h2 h3
  have hrecv : ∃ cell : Cell, H[a]? = some cell ∧ cell.vm.isStatics = false ∧ (x_s X).vm.findClass y2.cls = some cell.cls := by
    obtain ⟨cell, g1, g2, g3, g4⟩ := hO
    exact ⟨cell, by rw [h1.2.2.1 a (Nat.not_le.mp g4)]; exact g1, g2, g3⟩
  have hb := callB_of (own := y.cls) (index := index) (y := y2) (bytes := c2) (maxL := maxL) (ret := r2) (ws := Cond.code y2 c2 maxL r2 :: tb) (rm := rmd dd mc ms) (mc := mc) (ms := ms) (R := x_R X) cn F.ts (tb_gi (cond_tb cb)) rfl rfl rfl (F.ts _ cb.2.1) (F.ts _ hlink) cb.2.2 (by rw [F.rm]; exact hR)
  refine m_ran (va_runV (C := y2.cls) (As := As) (rest := rest) ⟨F.e, F.b, F.ml, F.own, F.ts⟩ hM ⟨hb, F.ts _ hin, F.ts _ hse⟩ ⟨pc_blind, hrecv, fun U hU hW => ⟨rfl, by rw [hU]; exact h1, F.ku.warm hW⟩⟩ rfl hn h3.1 rfl (lv_room hw) d (by rw [F.rm]; exact hf)) h2 h3 kk
theorem m_tb (F : Fx V X y cc nL ret R) {t len : Nat} {f : Nat → Value} {i : Int32} {v : Value} (d : DC cc pc 1 n .baload) (hT : va_T .byte t len f (gA V) (x_s X) V.2.2) (hin : vp_in i len) (hv : f i.toNatClampNeg = v) (kk : Wm V X nL N σ k z n lv (v :: st)) : Wm V X nL N σ k z pc lv (.int i :: .ref t :: st) := by
  obtain ⟨d, rfl⟩ := d
  intro H locs ls h1 h2 h3
  obtain ⟨cell, g1, g2, g3, g4, g5, g6, g7⟩ := hT
  exact W.bald (v := v) F.e F.b (by rw [h1.2.2.1 t (Nat.not_le.mp g7)]; exact g1) g2 g3 (tin hin g4) (by rw [g6 _ (Nat.not_le.mp fun q => hin (Or.inr q)), hv]) rfl rfl d (kk H locs ls h1 h2 h3)
end STATIC
