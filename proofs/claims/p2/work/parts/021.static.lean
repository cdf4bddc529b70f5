section STATIC
variable {V : VX} {X : MX} {y : MethodName} {cc : ByteArray} {nL N k z pc n : Nat} {ret : Option FieldType} {R : Room} {σ : Mem} {lv : List (Nat × Value)} {st : List Value}
theorem Fx.sw (F : Fx V X y cc nL ret R) : SW V (x_s X) := F.ku.2.2.2.2.2
theorem m_gsN (F : Fx V X y cc nL ret R) {index : Nat} {C n0 d0 host : String} {v : Value} (d : DC cc pc 3 n (.getstatic index)) (hZ : va_Z C n0 d0 v (gA V) (x_s X) V.2.2) (hl : va_Nw (.fieldLinkNest y.cls index C n0 d0 host) (x_s X)) (kk : Wm V X nL N σ k z n lv (v :: st)) : Wm V X nL N σ k z pc lv st := by
  obtain ⟨d, rfl⟩ := d
  intro H locs ls h1 h2 h3
  obtain ⟨cf, kf, fi, f, a, cell, g1, g2, g3, g4, g5, g6, g7, g8⟩ := hZ
  exact va_WgetsN F.e F.b F.own (va_Nw.use rfl hl) g1 g2 g3 g4 (by rw [h1.2.2.1 a (Nat.not_le.mp g8)]; exact g5) (fun e => by rw [e] at g6; cases g6) g7 rfl d (kk H locs ls h1 h2 h3)
theorem m_gs (F : Fx V X y cc nL ret R) {index : Nat} {C n0 d0 : String} {v : Value} (d : DC cc pc 3 n (.getstatic index)) (hZ : va_Z C n0 d0 v (gA V) (x_s X) V.2.2) (hl : Cond.fieldLink y.cls index C n0 d0 ∈ tb) (kk : Wm V X nL N σ k z n lv (v :: st)) : Wm V X nL N σ k z pc lv st := by
  obtain ⟨d, rfl⟩ := d
  intro H locs ls h1 h2 h3
  obtain ⟨cf, kf, fi, f, a, cell, g1, g2, g3, g4, g5, g6, g7, g8⟩ := hZ
  exact W.gets F.e F.b F.own (F.ts _ hl) g1 g2 g3 g4 (by rw [h1.2.2.1 a (Nat.not_le.mp g8)]; exact g5) (fun e => by rw [e] at g6; cases g6) g7 rfl d (kk H locs ls h1 h2 h3)
theorem m_tlen (F : Fx V X y cc nL ret R) {ty : FieldType} {t len : Nat} {f : Nat → Value} {v : Int32} (d : DC cc pc 1 n .arraylength) (hT : va_T ty t len f (gA V) (x_s X) V.2.2) (hv : Int32.ofNat len = v) (kk : Wm V X nL N σ k z n lv (.int v :: st)) : Wm V X nL N σ k z pc lv (.ref t :: st) := by
  obtain ⟨d, rfl⟩ := d
  subst hv
  intro H locs ls h1 h2 h3
  obtain ⟨cell, g1, g2, g3, g4, g5, g6, g7⟩ := hT
  exact W.alen (n := Int32.ofNat len) F.e F.b (by rw [h1.2.2.1 t (Nat.not_le.mp g7)]; exact g1) g2 g5 rfl rfl d (kk H locs ls h1 h2 h3)
theorem tin {i : Int32} {len m : Nat} (hin : vp_in i len) (h : len ≤ m) : ¬ (i < 0 ∨ m ≤ i.toNatClampNeg) := by
  intro q
  rcases q with q | q
  · exact hin (Or.inl q)
  · exact hin (Or.inr (Nat.le_trans h q))
theorem m_tq (F : Fx V X y cc nL ret R) {C : String} {t len : Nat} {f : Nat → Value} {i : Int32} {v : Value} (d : DC cc pc 1 n .aaload) (hT : va_T (.object C) t len f (gA V) (x_s X) V.2.2) (hin : vp_in i len) (hv : f i.toNatClampNeg = v) (kk : Wm V X nL N σ k z n lv (v :: st)) : Wm V X nL N σ k z pc lv (.int i :: .ref t :: st) := by
  obtain ⟨d, rfl⟩ := d
  intro H locs ls h1 h2 h3
  obtain ⟨cell, g1, g2, g3, g4, g5, g6, g7⟩ := hT
  exact W.aald (v := v) (ty := .object C) F.e F.b (by rw [h1.2.2.1 t (Nat.not_le.mp g7)]; exact g1) g2 rfl g3 (tin hin g4) (by rw [g6 _ (Nat.not_le.mp fun q => hin (Or.inr q)), hv]) rfl rfl d (kk H locs ls h1 h2 h3)
theorem m_ti (F : Fx V X y cc nL ret R) {t len : Nat} {f : Nat → Value} {i : Int32} {v : Value} (d : DC cc pc 1 n .iaload) (hT : va_T .int t len f (gA V) (x_s X) V.2.2) (hin : vp_in i len) (hv : f i.toNatClampNeg = v) (kk : Wm V X nL N σ k z n lv (v :: st)) : Wm V X nL N σ k z pc lv (.int i :: .ref t :: st) := by
  obtain ⟨d, rfl⟩ := d
  intro H locs ls h1 h2 h3
  obtain ⟨cell, g1, g2, g3, g4, g5, g6, g7⟩ := hT
  exact W.iald (v := v) F.e F.b (by rw [h1.2.2.1 t (Nat.not_le.mp g7)]; exact g1) g2 g3 (tin hin g4) (by rw [g6 _ (Nat.not_le.mp fun q => hin (Or.inr q)), hv]) rfl rfl d (kk H locs ls h1 h2 h3)
theorem m_gof (F : Fx V X y cc nL ret R) {index t : Nat} {o n0 d0 : String} {v : Value} (d : DC cc pc 3 n (.getfield index)) (hO : va_OF o n0 d0 v t (gA V) (x_s X) V.2.2) (hl : Cond.fieldLink y.cls index o n0 d0 ∈ tb) (kk : Wm V X nL N σ k z n lv (v :: st)) : Wm V X nL N σ k z pc lv (.ref t :: st) := by
  obtain ⟨d, rfl⟩ := d
  intro H locs ls h1 h2 h3
  obtain ⟨cf, kf, fi, f, cell, g1, g2, g3, g4, g5, g6⟩ := hO
  exact W.getf F.e F.b F.own (F.ts _ hl) g1 g2 (by rw [h1.2.2.1 t (Nat.not_le.mp g6)]; exact g3) g4 g5 rfl rfl d (kk H locs ls h1 h2 h3)
end STATIC
