/-! THE LAYER: memory is a partial map from addresses to cells; every method's words are the good ones of lw_tbl -/
def RJ7 : String := "java/util/Arrays"
abbrev classes : List vw_C := [(RX1, TX1, 2), (RX2, TX2, 13), (RX3, TX3, 3), (RX5, TX5, 18), (RX6, TX6, 4), (RX7, TX7, 13), (RX8, TX8, 3), (RX9, TX9, 13), (RX10, TX10, 37)]
abbrev tysOf (cA : Nat → ClassId) : List (ClassId × FieldType) := [(cA 0, .int), (cA 1, .long), (cA 2, .byte), (cA 3, .boolean), (cA 4, .object RX5), (cA 5, .object RX6), (cA 6, .object RX2)]
def nestW : List Cond := [.methodLinkNest RX2 32 yX3_init RX9, .methodLinkNest RX2 39 yX1_init RX9, .methodLinkNest RX2 50 yX5_init RX9, .methodLinkNest RX5 11 yX1_init RX9, .methodLinkNest RX5 23 yX8_init RX9, .methodLinkNest RX8 20 yX1_init RX9, .methodLinkNest RX2 51 yX6_init RX9, .methodLinkNest RX9 41 yX1_init RX9, .fieldLinkNest RX7 200 RX9 "KINDS" "[LLeaseLedger$Kind;" RX9]
def tb : List Cond := lw_tbl.filter goodWord
theorem tb_in {w : Cond} (i : Nat) (h : tables_1[i]? = some w) (hg : goodWord w = true) : w ∈ tb := List.mem_filter.mpr ⟨List.mem_append_right _ (List.mem_of_getElem? h), hg⟩
theorem tb_sel {w : Cond} (i : Nat) (h : (k2_sels lw_privs)[i]? = some w) (hg : goodWord w = true) : w ∈ tb := List.mem_filter.mpr ⟨List.mem_append_left _ (List.mem_of_getElem? h), hg⟩
theorem tb_all {ws : List Cond} (is : List Nat) (h : ws = is.filterMap (fun i => tables_1[i]?)) (hg : ws.all goodWord = true) : ∀ w ∈ ws, w ∈ tb := by
  intro w hw
  have h1 := List.all_eq_true.mp hg w hw
  rw [h] at hw
  obtain ⟨i, -, hi⟩ := List.mem_filterMap.mp hw
  exact tb_in i hi h1
theorem tb_good {w : Cond} (h : w ∈ tb) : (w.onTables && w.keeps) = true ∨ ∃ ty, w = .arrayClass ty := good_of_word (List.mem_filter.mp h).2
theorem tb_gi {ws : List Cond} (h : ∀ w ∈ ws, w ∈ tb) : GoodIn tb ws := fun w hw => ⟨h w hw, tb_good (h w hw)⟩
abbrev Mem : Type := Nat → Option va_E
abbrev VX : Type := va_G × (Nat → ClassId) × Heap
abbrev aI (V : VX) (n : Nat) (f : Nat → Int32) : va_E := .inl (V.2.1 0, n, .inl f)
abbrev aJ (V : VX) (n : Nat) (f : Nat → Int64) : va_E := .inl (V.2.1 1, n, .inr (.inl f))
abbrev aB (V : VX) (n : Nat) (f : Nat → Int32) : va_E := .inl (V.2.1 2, n, .inl f)
abbrev aZ (V : VX) (n : Nat) (f : Nat → Int32) : va_E := .inl (V.2.1 3, n, .inl f)
abbrev aR (i : Nat) (V : VX) (n : Nat) (f : Nat → Option Nat) : va_E := .inl (V.2.1 i, n, .inr (.inr (.inr (.inr f))))
abbrev ob (ci : Nat) (fs : List Value) : va_E := .inr (ci, fs)
abbrev eIX : String := "java/lang/IndexOutOfBoundsException"
abbrev eNS : String := "java/util/NoSuchElementException"
abbrev eNM : List String := ["java/lang/RuntimeException", "java/lang/Exception"]
def TWw : List Cond := [.castable eIX eIX, .castable eNS eNS, .declares ⟨"java/lang/RuntimeException", "<init>", "(Ljava/lang/String;)V"⟩, .declares ⟨"java/lang/Exception", "<init>", "(Ljava/lang/String;)V"⟩, .declares ⟨"java/lang/Throwable", "<init>", "(Ljava/lang/String;)V"⟩]
theorem tw_on {w : Cond} (hw : w ∈ TWw) : w.onTables = true := by
  simp only [TWw, List.mem_cons, List.not_mem_nil, or_false] at hw
  rcases hw with rfl | rfl | rfl | rfl | rfl <;> rfl
/-- addresses of what lies in the heap from the start: the nine kinds; the row KINDS, the switch's row, three texts, the bytes of the third -/
abbrev adK (V : VX) (i : Nat) : Nat := V.1.2 100 i
abbrev adS (V : VX) (j : Nat) : Nat := V.1.2 101 j
abbrev gA (V : VX) : Nat → Prop := fun q => V.2.2.size ≤ q
def kcL : List Int32 := [407948448, 538738688, 169423648, 202688512, 206733312, 680693760, 316806912, 520758766, 642945024]
def smL : List Int32 := [1, 2, 3, 4, 5, 6, 7, 8, 0]
def wbL : List Int32 := [108, 101, 97, 115, 101, 32, 112, 97, 121, 32, 101, 97, 114, 108, 121, 32, 102, 97, 105, 114, 32, 102, 101, 101, 32, 116, 105, 101, 100, 32, 105, 110, 100, 101, 120, 32, 111, 112, 116, 105, 111, 110, 32, 115, 101, 101, 100, 32]
def SW (V : VX) (U : State) : Prop :=
  (vk_R RX9 109 "no such lease" (adS V 2) U ∧ vk_R RX9 146 "no such what" (adS V 3) U ∧ vk_R RX10 130 "lease pay early fair fee tied index option seed " (adS V 4) U) ∧
  (vx_Zq Bundle.tN "UNASSIGNED_STACK" Bundle.steD (gA V) U V.2.2 ∧ vx_Zq Bundle.tN "SUPPRESSED_SENTINEL" Bundle.listD (gA V) U V.2.2 ∧ va_Nc eNS eIX U) ∧
  (∀ w ∈ TWw, va_Nw w U) ∧
  (va_Z RX9 "KINDS" "[LLeaseLedger$Kind;" (.ref (adS V 0)) (gA V) U V.2.2 ∧ va_T (.object "LeaseLedger$Kind") (adS V 0) 9 (fun j => .ref (adK V j)) (gA V) U V.2.2) ∧
  (va_Z "LeaseLedger$1" "$SwitchMap$LeaseLedger$Kind" "[I" (.ref (adS V 1)) (gA V) U V.2.2 ∧ va_T .int (adS V 1) 9 (fun j => .int (smL.getD j 0)) (gA V) U V.2.2) ∧
  (∀ i, i < 9 → va_O "LeaseLedger$Kind" (adK V i) (gA V) U V.2.2 ∧ va_OF "LeaseLedger$Kind" "code" "I" (.int (kcL.getD i 0)) (adK V i) (gA V) U V.2.2 ∧ va_OF "java/lang/Enum" "ordinal" "I" (.int (nI i)) (adK V i) (gA V) U V.2.2) ∧
  (va_O "java/lang/String" (adS V 4) (gA V) U V.2.2 ∧ va_OF "java/lang/String" "coder" "B" (.int 0) (adS V 4) (gA V) U V.2.2 ∧ va_OF "java/lang/String" "value" "[B" (.ref (adS V 5)) (adS V 4) (gA V) U V.2.2 ∧ va_T .byte (adS V 5) 48 (fun j => .int (wbL.getD j 0)) (gA V) U V.2.2 ∧ va_Z "java/lang/String" "COMPACT_STRINGS" "Z" (.int 1) (gA V) U V.2.2 ∧ va_Zq "jdk/internal/util/Preconditions" "SIOOBE_FORMATTER" "Ljava/util/function/BiFunction;" (gA V) U V.2.2)
theorem SW.go {V : VX} {u U : State} (hv : u.vm.Alike U.vm) (hr : ∀ own k tx a, vk_R own k tx a u → vk_R own k tx a U) (hw : ∀ w ∈ TWw, va_Nw w u → va_Nw w U) (h : SW V u) : SW V U := by
  obtain ⟨⟨a1, a2, a3⟩, ⟨b1, b2, b3⟩, c1, ⟨d1, d2⟩, ⟨e1, e2⟩, f1, g1, g2, g3, g4, g5, g6⟩ := h
  exact ⟨⟨hr _ _ _ _ a1, hr _ _ _ _ a2, hr _ _ _ _ a3⟩, ⟨vx_Zq.moved hv b1, vx_Zq.moved hv b2, va_Nc.moved hv b3⟩, fun w h9 => hw w h9 (c1 w h9), ⟨va_Z.moved hv d1, va_T.moved hv d2⟩, ⟨va_Z.moved hv e1, va_T.moved hv e2⟩, fun i hi => ⟨va_O.moved hv (f1 i hi).1, va_OF.moved hv (f1 i hi).2.1, va_OF.moved hv (f1 i hi).2.2⟩, va_O.moved hv g1, va_OF.moved hv g2, va_OF.moved hv g3, va_T.moved hv g4, va_Z.moved hv g5, va_Zq.moved hv g6⟩
theorem tw_warm {s U : State} (hW : s.WarmedH U.vm) {w : Cond} (hw : w ∈ TWw) (h : va_Nw w s) : va_Nw w U := by
  simp only [TWw, List.mem_cons, List.not_mem_nil, or_false] at hw
  rcases hw with rfl | rfl | rfl | rfl | rfl
  · exact va_Nw.warmC hW h
  · exact va_Nw.warmC hW h
  · exact va_Nw.warmD hW h
  · exact va_Nw.warmD hW h
  · exact va_Nw.warmD hW h
theorem SW.warm {V : VX} {s U : State} (hW : s.WarmedH U.vm) (h : SW V s) : SW V U := SW.go hW.alike (fun _ _ _ _ q => vk_R.warm hW q) (fun _ hw q => tw_warm hW hw q) h
theorem SW.call {V : VX} {U : State} {g : JFrame} {mk : MethodId} {a : Array Value} (h : SW V U) : SW V (U.calling g mk a) := SW.go (u := U) (U := U.calling g mk a) (Vm.Alike.refl U.vm) (fun _ _ _ _ q => vk_R.same (u := U) (U := U.calling g mk a) rfl q) (fun _ hw q => va_Nw.same (u := U) (U := U.calling g mk a) (tw_on hw) rfl q) h
def KU (V : VX) (U : State) : Prop := va_K V.1 classes (tysOf V.2.1) U ∧ (∀ w ∈ nestW, va_Nw w U) ∧ va_AO RX5 U ∧ va_AO RX6 U ∧ va_AO RX2 U ∧ SW V U
theorem nest_warm {s U : State} (hW : s.WarmedH U.vm) {w : Cond} (hw : w ∈ nestW) (h : va_Nw w s) : va_Nw w U := by
  simp only [nestW, List.mem_cons, List.not_mem_nil, or_false] at hw
  rcases hw with rfl | rfl | rfl | rfl | rfl | rfl | rfl | rfl | rfl
  · exact va_Nw.warmM hW h
  · exact va_Nw.warmM hW h
  · exact va_Nw.warmM hW h
  · exact va_Nw.warmM hW h
  · exact va_Nw.warmM hW h
  · exact va_Nw.warmM hW h
  · exact va_Nw.warmM hW h
  · exact va_Nw.warmM hW h
  · exact va_Nw.warmF hW h
theorem nest_on {w : Cond} (hw : w ∈ nestW) : w.onTables = true := by
  simp only [nestW, List.mem_cons, List.not_mem_nil, or_false] at hw
  rcases hw with rfl | rfl | rfl | rfl | rfl | rfl | rfl | rfl | rfl <;> rfl
theorem KU.warm {V : VX} {s U : State} (hW : s.WarmedH U.vm) (h : KU V s) : KU V U := ⟨va_K.moved hW.alike h.1, fun w hw => nest_warm hW hw (h.2.1 w hw), va_AO.moved hW.alike h.2.2.1, va_AO.moved hW.alike h.2.2.2.1, va_AO.moved hW.alike h.2.2.2.2.1, SW.warm hW h.2.2.2.2.2⟩
theorem KU.call {V : VX} {U : State} {g : JFrame} {mk : MethodId} {a : Array Value} (h : KU V U) : KU V (U.calling g mk a) := ⟨va_K.moved (u := U) (U := U.calling g mk a) (Vm.Alike.refl U.vm) h.1, fun w hw => va_Nw.same (u := U) (U := U.calling g mk a) (nest_on hw) rfl (h.2.1 w hw), va_AO.moved (u := U) (U := U.calling g mk a) (Vm.Alike.refl U.vm) h.2.2.1, va_AO.moved (u := U) (U := U.calling g mk a) (Vm.Alike.refl U.vm) h.2.2.2.1, va_AO.moved (u := U) (U := U.calling g mk a) (Vm.Alike.refl U.vm) h.2.2.2.2.1, SW.call h.2.2.2.2.2⟩
def HM (V : VX) (N : Nat) (σ : Mem) (H : Heap) : Prop := H.size = N ∧ V.2.2.size ≤ N ∧ (∀ q : Nat, q < V.2.2.size → H[q]? = V.2.2[q]?) ∧ ∀ (a : Nat) (e : va_E), σ a = some e → V.2.2.size ≤ a ∧ va_at V.1 classes (a, e) H
theorem HM.at {V : VX} {N : Nat} {σ : Mem} {H : Heap} (h : HM V N σ H) {a : Nat} {e : va_E} (ha : σ a = some e) : va_at V.1 classes (a, e) H := (h.2.2.2 a e ha).2
theorem HM.one {V : VX} {N : Nat} {σ : Mem} {H : Heap} (h : HM V N σ H) {a : Nat} {e : va_E} (ha : σ a = some e) : va_P V.1 classes [(a, e)] H := by
  intro k q hk
  match k, hk with
  | 0, hk => cases hk; exact h.at ha
  | k + 1, hk => simp at hk
theorem HM.put {V : VX} {N : Nat} {σ : Mem} {H H' : Heap} (h : HM V N σ H) {a : Nat} {e e' : va_E} (ha : σ a = some e) (hz : H'.size = H.size) (ho : ∀ q : Nat, q ≠ a → H'[q]? = H[q]?) (hn : va_at V.1 classes (a, e') H') : HM V N (va_up σ a (some e')) H' := by
  have hle := (h.2.2.2 a e ha).1
  refine ⟨hz.trans h.1, h.2.1, fun q hq => ?_, fun b x hb => ?_⟩
  · rw [ho q (by omega)]; exact h.2.2.1 q hq
  · by_cases hba : b = a
    · subst hba; rw [va_up_self] at hb; cases hb; exact ⟨hle, hn⟩
    · rw [va_up_ne _ _ hba] at hb
      exact ⟨(h.2.2.2 b x hb).1, va_at.kept (h.2.2.2 b x hb).2 (ho b hba)⟩
theorem HM.new {V : VX} {N : Nat} {σ : Mem} {H H' : Heap} (h : HM V N σ H) {e' : va_E} (hz : H'.size = H.size + 1) (ho : ∀ q : Nat, q < H.size → H'[q]? = H[q]?) (hn : va_at V.1 classes (N, e') H') : HM V (N + 1) (va_up σ N (some e')) H' := by
  have hN := h.1
  have hG := h.2.1
  refine ⟨by omega, by omega, fun q hq => ?_, fun b x hb => ?_⟩
  · rw [ho q (by omega)]; exact h.2.2.1 q hq
  · by_cases hba : b = N
    · subst hba; rw [va_up_self] at hb; cases hb; exact ⟨hG, hn⟩
    · rw [va_up_ne _ _ hba] at hb
      exact ⟨(h.2.2.2 b x hb).1, va_at.kept (h.2.2.2 b x hb).2 (ho b (h.2.2.2 b x hb).2.lt)⟩
theorem HM.lt {V : VX} {N : Nat} {σ : Mem} {H : Heap} (h : HM V N σ H) {a : Nat} {e : va_E} (ha : σ a = some e) : V.2.2.size ≤ a ∧ a < N := ⟨(h.2.2.2 a e ha).1, by have := (h.2.2.2 a e ha).2.lt; rw [h.1] at this; exact this⟩
theorem HM.mono {V : VX} {N : Nat} {σ τ : Mem} {H : Heap} (h : HM V N σ H) (hs : ∀ a e, τ a = some e → σ a = some e) : HM V N τ H := ⟨h.1, h.2.1, h.2.2.1, fun a e ha => h.2.2.2 a e (hs a e ha)⟩
theorem HM.start {V : VX} : HM V V.2.2.size (fun _ => none) V.2.2 := ⟨rfl, Nat.le_refl _, fun _ _ => rfl, fun _ _ h => by cases h⟩
-- what a method's walk keeps
abbrev MX : Type := (Program × Launch × Env × Room × State × MethodId × Array Value × List Frame × Method × Code) × (State → Prop)
abbrev x_p (X : MX) : Program := X.1.1
abbrev x_l (X : MX) : Launch := X.1.2.1
abbrev x_e (X : MX) : Env := X.1.2.2.1
abbrev x_R (X : MX) : Room := X.1.2.2.2.1
abbrev x_s (X : MX) : State := X.1.2.2.2.2.1
abbrev x_m (X : MX) : MethodId := X.1.2.2.2.2.2.1
abbrev x_a (X : MX) : Array Value := X.1.2.2.2.2.2.2.1
abbrev x_b (X : MX) : List Frame := X.1.2.2.2.2.2.2.2.1
abbrev x_t (X : MX) : Method := X.1.2.2.2.2.2.2.2.2.1
abbrev x_c (X : MX) : Code := X.1.2.2.2.2.2.2.2.2.2
abbrev x_Q (X : MX) : State → Prop := X.2
def Wm (V : VX) (X : MX) (nL N : Nat) (σ : Mem) (k z pc : Nat) (lv : List (Nat × Value)) (st : List Value) : Prop :=
  ∀ (H : Heap) (locs : List Loc) (ls : Array Slot), HM V N σ H → (∀ q ∈ locs, V.2.2.size ≤ q.base) → lv_has ls nL lv → W (x_p X) (x_l X) (x_e X) (x_R X) (x_s X) (x_m X) (x_a X) (x_b X) (x_t X) (x_c X) H locs k z (x_Q X) (F0 (x_m X) pc ls st)
def Fx (V : VX) (X : MX) (y : MethodName) (cc : ByteArray) (nL : Nat) (ret : Option FieldType) (R : Room) : Prop :=
  (x_p X).tables.exec = Jvm.exec ∧ (x_c X).code = cc ∧ (x_c X).maxLocals = nL ∧ (x_s X).vm.findClass y.cls = some (x_m X).cls ∧ (∀ w ∈ tb, w.before (x_a X) (x_s X) = true) ∧ KU V (x_s X) ∧ (x_t X).sig.returnType = ret ∧ (x_t X).locks = false ∧ (x_t X).name = y.name ∧ x_R X = R
section FX
variable {V : VX} {X : MX} {y : MethodName} {cc : ByteArray} {nL : Nat} {ret : Option FieldType} {R : Room}
theorem Fx.e (F : Fx V X y cc nL ret R) : (x_p X).tables.exec = Jvm.exec := F.1
theorem Fx.b (F : Fx V X y cc nL ret R) : (x_c X).code = cc := F.2.1
theorem Fx.ml (F : Fx V X y cc nL ret R) : (x_c X).maxLocals = nL := F.2.2.1
theorem Fx.own (F : Fx V X y cc nL ret R) : (x_s X).vm.findClass y.cls = some (x_m X).cls := F.2.2.2.1
theorem Fx.ts (F : Fx V X y cc nL ret R) : ∀ w ∈ tb, w.before (x_a X) (x_s X) = true := F.2.2.2.2.1
theorem Fx.ku (F : Fx V X y cc nL ret R) : KU V (x_s X) := F.2.2.2.2.2.1
theorem Fx.rt (F : Fx V X y cc nL ret R) : (x_t X).sig.returnType = ret := F.2.2.2.2.2.2.1
theorem Fx.lk (F : Fx V X y cc nL ret R) : (x_t X).locks = false := F.2.2.2.2.2.2.2.1
theorem Fx.nm (F : Fx V X y cc nL ret R) : (x_t X).name = y.name := F.2.2.2.2.2.2.2.2.1
theorem Fx.rm (F : Fx V X y cc nL ret R) : x_R X = R := F.2.2.2.2.2.2.2.2.2
end FX
def DC (cc : ByteArray) (pc len n : Nat) (i : Instr) : Prop := decode cc pc = .ok (i, len) ∧ pc + len = n
def DJ (cc : ByteArray) (pc tgt n : Nat) (mk : Int → Instr) : Prop := ∃ off : Int, decode cc pc = .ok (mk off, 3) ∧ (pc : Int) + off = (tgt : Int) ∧ pc + 3 = n
theorem DJ.mk {cc : ByteArray} {pc tgt n : Nat} {f : Int → Instr} (off : Int) (h : decode cc pc = .ok (f off, 3)) (h1 : (pc : Int) + off = (tgt : Int)) (h2 : pc + 3 = n) : DJ cc pc tgt n f := ⟨off, h, h1, h2⟩
def lvg (lv : List (Nat × Value)) (i : Nat) : Option Value := (lv.find? (fun q => q.1 == i)).map Prod.snd
theorem lvg_has {ls : Array Slot} {nL : Nat} {lv : List (Nat × Value)} (h : lv_has ls nL lv) {i : Nat} {v : Value} (hg : lvg lv i = some v) : ls[i]? = some (.val v) := by
  unfold lvg at hg
  obtain ⟨q, hq, rfl⟩ := Option.map_eq_some_iff.mp hg
  have h1 := List.mem_of_find?_eq_some hq
  have h2 := List.find?_some hq
  have h3 : q.1 = i := by simpa using h2
  rw [← h3]
  exact h.2.2 q h1
theorem lvg_ex {ls : Array Slot} {nL : Nat} {lv : List (Nat × Value)} (_h : lv_has ls nL lv) {i : Nat} {v : Value} (hg : lvg lv i = some v) : ∃ k : Nat, lv[k]? = some (i, v) := by
  unfold lvg at hg
  obtain ⟨q, hq, rfl⟩ := Option.map_eq_some_iff.mp hg
  have h1 := List.mem_of_find?_eq_some hq
  have h2 := List.find?_some hq
  have h3 : q.1 = i := by simpa using h2
  obtain ⟨k, hk⟩ := List.getElem?_of_mem h1
  exact ⟨k, by rw [hk, ← h3]⟩
def lvs1 (lv : List (Nat × Value)) (i : Nat) (v : Value) : List (Nat × Value) := (i, v) :: lv.filter (fun q => !(q.1 == i) && !(q.1 + 1 == i && q.2.category == 2))
def lvs2 (lv : List (Nat × Value)) (i : Nat) (v : Value) : List (Nat × Value) := (i, v) :: lv.filter (fun q => !(q.1 == i) && (!(q.1 == i + 1) && !(q.1 + 1 == i && q.2.category == 2)))
theorem Wm.mem {V : VX} {X : MX} {nL N k z pc : Nat} {σ τ : Mem} {lv : List (Nat × Value)} {st : List Value} (h : Wm V X nL N τ k z pc lv st) (hs : ∀ a e, τ a = some e → σ a = some e) : Wm V X nL N σ k z pc lv st := fun H locs ls h1 h2 h3 => h H locs ls (h1.mono hs) h2 h3
theorem Wm.lvsub {V : VX} {X : MX} {nL N k z pc : Nat} {σ : Mem} {lv lv' : List (Nat × Value)} {st : List Value} (h : Wm V X nL N σ k z pc lv' st) (ks : List Nat) (hl : lv_pick lv ks = lv') : Wm V X nL N σ k z pc lv st := fun H locs ls h1 h2 h3 => h H locs ls h1 h2 (lv_sub h3 ks hl)
theorem Wm.widen {V : VX} {X : MX} {nL N k z k' z' pc : Nat} {σ : Mem} {lv : List (Nat × Value)} {st : List Value} (h1 : k ≤ k') (h2 : z ≤ z') (h : Wm V X nL N σ k' z' pc lv st) : Wm V X nL N σ k z pc lv st := fun H locs ls a b c => W.widen h1 h2 (h H locs ls a b c)
theorem Wm.top {V : VX} {X : MX} {nL N k z pc : Nat} {σ : Mem} {lv : List (Nat × Value)} {st : List Value} {x : Int32} (h : ∀ w : Int32, w = x → Wm V X nL N σ k z pc lv (.int w :: st)) : Wm V X nL N σ k z pc lv (.int x :: st) := h x rfl
theorem Wm.topl {V : VX} {X : MX} {nL N k z pc : Nat} {σ : Mem} {lv : List (Nat × Value)} {st : List Value} {x : Int64} (h : ∀ w : Int64, w = x → Wm V X nL N σ k z pc lv (.long w :: st)) : Wm V X nL N σ k z pc lv (.long x :: st) := h x rfl
theorem Wm.topE {V : VX} {X : MX} {nL N k z pc : Nat} {σ : Mem} {lv : List (Nat × Value)} {st : List Value} {x w : Int32} (e : x = w) (h : Wm V X nL N σ k z pc lv (.int w :: st)) : Wm V X nL N σ k z pc lv (.int x :: st) := e ▸ h
theorem Wm.toplE {V : VX} {X : MX} {nL N k z pc : Nat} {σ : Mem} {lv : List (Nat × Value)} {st : List Value} {x w : Int64} (e : x = w) (h : Wm V X nL N σ k z pc lv (.long w :: st)) : Wm V X nL N σ k z pc lv (.long x :: st) := e ▸ h
theorem Wm.memE {V : VX} {X : MX} {nL N k z pc : Nat} {σ τ : Mem} {lv : List (Nat × Value)} {st : List Value} (e : σ = τ) (h : Wm V X nL N τ k z pc lv st) : Wm V X nL N σ k z pc lv st := e ▸ h
section ROWS
variable {V : VX} {X : MX} {y : MethodName} {cc : ByteArray} {nL N k z pc n : Nat} {ret : Option FieldType} {R : Room} {σ : Mem} {lv : List (Nat × Value)} {st : List Value}
theorem m_iconst (F : Fx V X y cc nL ret R) {i : Int} {v : Int32} (hv : Int32.ofInt i = v) (d : DC cc pc 1 n (.iconst i)) (kk : Wm V X nL N σ k z n lv (.int v :: st)) : Wm V X nL N σ k z pc lv (st) := by
  obtain ⟨d, rfl⟩ := d
  exact fun H locs ls h1 h2 h3 => lv_iconst F.e F.b d hv (kk H locs ls h1 h2 h3)
theorem m_bipush (F : Fx V X y cc nL ret R) {i : Int} {v : Int32} (hv : (Int8.ofInt i).toInt32 = v) (d : DC cc pc 2 n (.bipush i)) (kk : Wm V X nL N σ k z n lv (.int v :: st)) : Wm V X nL N σ k z pc lv (st) := by
  obtain ⟨d, rfl⟩ := d
  exact fun H locs ls h1 h2 h3 => lv_bipush F.e F.b d hv (kk H locs ls h1 h2 h3)
theorem m_sipush (F : Fx V X y cc nL ret R) {i : Int} {v : Int32} (hv : (Int16.ofInt i).toInt32 = v) (d : DC cc pc 3 n (.sipush i)) (kk : Wm V X nL N σ k z n lv (.int v :: st)) : Wm V X nL N σ k z pc lv (st) := by
  obtain ⟨d, rfl⟩ := d
  exact fun H locs ls h1 h2 h3 => lv_sipush F.e F.b d hv (kk H locs ls h1 h2 h3)
theorem m_lconst (F : Fx V X y cc nL ret R) {i : Fin 2} {v : Int64} (hv : Int64.ofNat (i : Nat) = v) (d : DC cc pc 1 n (.lconst i)) (kk : Wm V X nL N σ k z n lv (.long v :: st)) : Wm V X nL N σ k z pc lv (st) := by
  obtain ⟨d, rfl⟩ := d
  exact fun H locs ls h1 h2 h3 => lv_lconst F.e F.b d hv (kk H locs ls h1 h2 h3)
theorem m_null (F : Fx V X y cc nL ret R)  (d : DC cc pc 1 n (.aconst_null)) (kk : Wm V X nL N σ k z n lv (.null :: st)) : Wm V X nL N σ k z pc lv (st) := by
  obtain ⟨d, rfl⟩ := d
  exact fun H locs ls h1 h2 h3 => lv_null F.e F.b d (kk H locs ls h1 h2 h3)
theorem m_ldc (F : Fx V X y cc nL ret R) {i : Nat} {v : Int32} (hc : Cond.constant y.cls i v ∈ tb) (d : DC cc pc 2 n (.ldc i)) (kk : Wm V X nL N σ k z n lv (.int v :: st)) : Wm V X nL N σ k z pc lv (st) := by
  obtain ⟨d, rfl⟩ := d
  exact fun H locs ls h1 h2 h3 => lv_ldc F.e F.b F.own (F.ts _ hc) d (kk H locs ls h1 h2 h3)
theorem m_ldcw (F : Fx V X y cc nL ret R) {i : Nat} {v : Int32} (hc : Cond.constant y.cls i v ∈ tb) (d : DC cc pc 3 n (.ldc_w i)) (kk : Wm V X nL N σ k z n lv (.int v :: st)) : Wm V X nL N σ k z pc lv (st) := by
  obtain ⟨d, rfl⟩ := d
  exact fun H locs ls h1 h2 h3 => lv_ldcw F.e F.b F.own (F.ts _ hc) d (kk H locs ls h1 h2 h3)
theorem m_ldc2 (F : Fx V X y cc nL ret R) {i : Nat} {v : Int64} (hc : Cond.constantLong y.cls i v ∈ tb) (d : DC cc pc 3 n (.ldc2_w i)) (kk : Wm V X nL N σ k z n lv (.long v :: st)) : Wm V X nL N σ k z pc lv (st) := by
  obtain ⟨d, rfl⟩ := d
  exact fun H locs ls h1 h2 h3 => lv_ldc2 F.e F.b F.own (F.ts _ hc) d (kk H locs ls h1 h2 h3)
theorem m_iload_n (F : Fx V X y cc nL ret R) {i : Fin 4} {x : Int32} (hl : lvg lv (i : Nat) = some (.int x)) (d : DC cc pc 1 n (.iload_n i)) (kk : Wm V X nL N σ k z n lv (.int x :: st)) : Wm V X nL N σ k z pc lv (st) := by
  obtain ⟨d, rfl⟩ := d
  exact fun H locs ls h1 h2 h3 => lv_iload_n F.e F.b d rfl (lvg_has h3 hl) (kk H locs ls h1 h2 h3)
theorem m_iload (F : Fx V X y cc nL ret R) {i : Nat} {x : Int32} (hl : lvg lv i = some (.int x)) (d : DC cc pc 2 n (.iload i)) (kk : Wm V X nL N σ k z n lv (.int x :: st)) : Wm V X nL N σ k z pc lv (st) := by
  obtain ⟨d, rfl⟩ := d
  exact fun H locs ls h1 h2 h3 => lv_iload F.e F.b d (lvg_has h3 hl) (kk H locs ls h1 h2 h3)
theorem m_lload_n (F : Fx V X y cc nL ret R) {i : Fin 4} {x : Int64} (hl : lvg lv (i : Nat) = some (.long x)) (d : DC cc pc 1 n (.lload_n i)) (kk : Wm V X nL N σ k z n lv (.long x :: st)) : Wm V X nL N σ k z pc lv (st) := by
  obtain ⟨d, rfl⟩ := d
  exact fun H locs ls h1 h2 h3 => lv_lload_n F.e F.b d rfl (lvg_has h3 hl) (kk H locs ls h1 h2 h3)
theorem m_lload (F : Fx V X y cc nL ret R) {i : Nat} {x : Int64} (hl : lvg lv i = some (.long x)) (d : DC cc pc 2 n (.lload i)) (kk : Wm V X nL N σ k z n lv (.long x :: st)) : Wm V X nL N σ k z pc lv (st) := by
  obtain ⟨d, rfl⟩ := d
  exact fun H locs ls h1 h2 h3 => lv_lload F.e F.b d (lvg_has h3 hl) (kk H locs ls h1 h2 h3)
theorem m_aload_n (F : Fx V X y cc nL ret R) {i : Fin 4} {x : Nat} (hl : lvg lv (i : Nat) = some (.ref x)) (d : DC cc pc 1 n (.aload_n i)) (kk : Wm V X nL N σ k z n lv (.ref x :: st)) : Wm V X nL N σ k z pc lv (st) := by
  obtain ⟨d, rfl⟩ := d
  exact fun H locs ls h1 h2 h3 => lv_aload_n F.e F.b d rfl (lvg_has h3 hl) (kk H locs ls h1 h2 h3)
theorem m_aload (F : Fx V X y cc nL ret R) {i : Nat} {x : Nat} (hl : lvg lv i = some (.ref x)) (d : DC cc pc 2 n (.aload i)) (kk : Wm V X nL N σ k z n lv (.ref x :: st)) : Wm V X nL N σ k z pc lv (st) := by
  obtain ⟨d, rfl⟩ := d
  exact fun H locs ls h1 h2 h3 => lv_aload F.e F.b d (lvg_has h3 hl) (kk H locs ls h1 h2 h3)
theorem m_aload_nN (F : Fx V X y cc nL ret R) {i : Fin 4} (hl : lvg lv (i : Nat) = some .null) (d : DC cc pc 1 n (.aload_n i)) (kk : Wm V X nL N σ k z n lv (.null :: st)) : Wm V X nL N σ k z pc lv (st) := by
  obtain ⟨d, rfl⟩ := d
  exact fun H locs ls h1 h2 h3 => lv_aload_nN F.e F.b d rfl (lvg_has h3 hl) (kk H locs ls h1 h2 h3)
theorem m_aloadN (F : Fx V X y cc nL ret R) {i : Nat} (hl : lvg lv i = some .null) (d : DC cc pc 2 n (.aload i)) (kk : Wm V X nL N σ k z n lv (.null :: st)) : Wm V X nL N σ k z pc lv (st) := by
  obtain ⟨d, rfl⟩ := d
  exact fun H locs ls h1 h2 h3 => lv_aloadN F.e F.b d (lvg_has h3 hl) (kk H locs ls h1 h2 h3)
theorem m_istore_n (F : Fx V X y cc nL ret R) {i : Fin 4} {x : Int32} {lv' : List (Nat × Value)} (d : DC cc pc 1 n (.istore_n i)) (hn : (i : Nat) < nL) (hl : lvs1 lv (i : Nat) (Value.int x) = lv') (kk : Wm V X nL N σ k z n lv' st) : Wm V X nL N σ k z pc lv (Value.int x :: st) := by
  obtain ⟨d, rfl⟩ := d
  exact fun H locs ls h1 h2 h3 => lv_istore_n F.e F.b d rfl h3 hn hl (fun ls h3 => kk H locs ls h1 h2 h3)
theorem m_istore (F : Fx V X y cc nL ret R) {i : Nat} {x : Int32} {lv' : List (Nat × Value)} (d : DC cc pc 2 n (.istore i)) (hn : (i : Nat) < nL) (hl : lvs1 lv (i : Nat) (Value.int x) = lv') (kk : Wm V X nL N σ k z n lv' st) : Wm V X nL N σ k z pc lv (Value.int x :: st) := by
  obtain ⟨d, rfl⟩ := d
  exact fun H locs ls h1 h2 h3 => lv_istore F.e F.b d h3 hn hl (fun ls h3 => kk H locs ls h1 h2 h3)
theorem m_lstore_n (F : Fx V X y cc nL ret R) {i : Fin 4} {x : Int64} {lv' : List (Nat × Value)} (d : DC cc pc 1 n (.lstore_n i)) (hn : (i : Nat) + 1 < nL) (hl : lvs2 lv (i : Nat) (Value.long x) = lv') (kk : Wm V X nL N σ k z n lv' st) : Wm V X nL N σ k z pc lv (Value.long x :: st) := by
  obtain ⟨d, rfl⟩ := d
  exact fun H locs ls h1 h2 h3 => lv_lstore_n F.e F.b d rfl h3 hn hl (fun ls h3 => kk H locs ls h1 h2 h3)
theorem m_lstore (F : Fx V X y cc nL ret R) {i : Nat} {x : Int64} {lv' : List (Nat × Value)} (d : DC cc pc 2 n (.lstore i)) (hn : (i : Nat) + 1 < nL) (hl : lvs2 lv (i : Nat) (Value.long x) = lv') (kk : Wm V X nL N σ k z n lv' st) : Wm V X nL N σ k z pc lv (Value.long x :: st) := by
  obtain ⟨d, rfl⟩ := d
  exact fun H locs ls h1 h2 h3 => lv_lstore F.e F.b d h3 hn hl (fun ls h3 => kk H locs ls h1 h2 h3)
theorem m_astore_n (F : Fx V X y cc nL ret R) {i : Fin 4} {x : Nat} {lv' : List (Nat × Value)} (d : DC cc pc 1 n (.astore_n i)) (hn : (i : Nat) < nL) (hl : lvs1 lv (i : Nat) (Value.ref x) = lv') (kk : Wm V X nL N σ k z n lv' st) : Wm V X nL N σ k z pc lv (Value.ref x :: st) := by
  obtain ⟨d, rfl⟩ := d
  exact fun H locs ls h1 h2 h3 => lv_astore_n F.e F.b d rfl h3 hn hl (fun ls h3 => kk H locs ls h1 h2 h3)
theorem m_astore (F : Fx V X y cc nL ret R) {i : Nat} {x : Nat} {lv' : List (Nat × Value)} (d : DC cc pc 2 n (.astore i)) (hn : (i : Nat) < nL) (hl : lvs1 lv (i : Nat) (Value.ref x) = lv') (kk : Wm V X nL N σ k z n lv' st) : Wm V X nL N σ k z pc lv (Value.ref x :: st) := by
  obtain ⟨d, rfl⟩ := d
  exact fun H locs ls h1 h2 h3 => lv_astore F.e F.b d h3 hn hl (fun ls h3 => kk H locs ls h1 h2 h3)
theorem m_astore_nN (F : Fx V X y cc nL ret R) {i : Fin 4} {lv' : List (Nat × Value)} (d : DC cc pc 1 n (.astore_n i)) (hn : (i : Nat) < nL) (hl : lvs1 lv (i : Nat) (Value.null) = lv') (kk : Wm V X nL N σ k z n lv' st) : Wm V X nL N σ k z pc lv (Value.null :: st) := by
  obtain ⟨d, rfl⟩ := d
  exact fun H locs ls h1 h2 h3 => lv_astore_nN F.e F.b d rfl h3 hn hl (fun ls h3 => kk H locs ls h1 h2 h3)
theorem m_astoreN (F : Fx V X y cc nL ret R) {i : Nat} {lv' : List (Nat × Value)} (d : DC cc pc 2 n (.astore i)) (hn : (i : Nat) < nL) (hl : lvs1 lv (i : Nat) (Value.null) = lv') (kk : Wm V X nL N σ k z n lv' st) : Wm V X nL N σ k z pc lv (Value.null :: st) := by
  obtain ⟨d, rfl⟩ := d
  exact fun H locs ls h1 h2 h3 => lv_astoreN F.e F.b d h3 hn hl (fun ls h3 => kk H locs ls h1 h2 h3)
theorem m_iinc (F : Fx V X y cc nL ret R) {i : Nat} {w : Int} {x v : Int32} {lv' : List (Nat × Value)} (d : DC cc pc 3 n (.iinc i w)) (hx : lvg lv i = some (.int x)) (hv : x + Int32.ofInt w = v) (hn : i < nL) (hl : lvs1 lv i (.int v) = lv') (kk : Wm V X nL N σ k z n lv' st) : Wm V X nL N σ k z pc lv st := by
  obtain ⟨d, rfl⟩ := d
  intro H locs ls h1 h2 h3
  obtain ⟨k0, hk⟩ := lvg_ex h3 hx
  exact lv_iinc F.e F.b d h3 hk hv hn hl (fun ls h3 => kk H locs ls h1 h2 h3)
theorem m_iadd (F : Fx V X y cc nL ret R) {x w : Int32} (d : DC cc pc 1 n (.iadd)) (kk : Wm V X nL N σ k z n lv (.int (x + w) :: st)) : Wm V X nL N σ k z pc lv (.int w :: .int x :: st) := by
  obtain ⟨d, rfl⟩ := d
  exact fun H locs ls h1 h2 h3 => lv_iadd F.e F.b d (kk H locs ls h1 h2 h3)
theorem m_isub (F : Fx V X y cc nL ret R) {x w : Int32} (d : DC cc pc 1 n (.isub)) (kk : Wm V X nL N σ k z n lv (.int (x - w) :: st)) : Wm V X nL N σ k z pc lv (.int w :: .int x :: st) := by
  obtain ⟨d, rfl⟩ := d
  exact fun H locs ls h1 h2 h3 => lv_isub F.e F.b d (kk H locs ls h1 h2 h3)
theorem m_imul (F : Fx V X y cc nL ret R) {x w : Int32} (d : DC cc pc 1 n (.imul)) (kk : Wm V X nL N σ k z n lv (.int (x * w) :: st)) : Wm V X nL N σ k z pc lv (.int w :: .int x :: st) := by
  obtain ⟨d, rfl⟩ := d
  exact fun H locs ls h1 h2 h3 => lv_imul F.e F.b d (kk H locs ls h1 h2 h3)
theorem m_iand (F : Fx V X y cc nL ret R) {x w : Int32} (d : DC cc pc 1 n (.iand)) (kk : Wm V X nL N σ k z n lv (.int (x &&& w) :: st)) : Wm V X nL N σ k z pc lv (.int w :: .int x :: st) := by
  obtain ⟨d, rfl⟩ := d
  exact fun H locs ls h1 h2 h3 => lv_iand F.e F.b d (kk H locs ls h1 h2 h3)
theorem m_ior (F : Fx V X y cc nL ret R) {x w : Int32} (d : DC cc pc 1 n (.ior)) (kk : Wm V X nL N σ k z n lv (.int (x ||| w) :: st)) : Wm V X nL N σ k z pc lv (.int w :: .int x :: st) := by
  obtain ⟨d, rfl⟩ := d
  exact fun H locs ls h1 h2 h3 => lv_ior F.e F.b d (kk H locs ls h1 h2 h3)
theorem m_ixor (F : Fx V X y cc nL ret R) {x w : Int32} (d : DC cc pc 1 n (.ixor)) (kk : Wm V X nL N σ k z n lv (.int (x ^^^ w) :: st)) : Wm V X nL N σ k z pc lv (.int w :: .int x :: st) := by
  obtain ⟨d, rfl⟩ := d
  exact fun H locs ls h1 h2 h3 => lv_ixor F.e F.b d (kk H locs ls h1 h2 h3)
theorem m_ladd (F : Fx V X y cc nL ret R) {x w : Int64} (d : DC cc pc 1 n (.ladd)) (kk : Wm V X nL N σ k z n lv (.long (x + w) :: st)) : Wm V X nL N σ k z pc lv (.long w :: .long x :: st) := by
  obtain ⟨d, rfl⟩ := d
  exact fun H locs ls h1 h2 h3 => lv_ladd F.e F.b d (kk H locs ls h1 h2 h3)
theorem m_lsub (F : Fx V X y cc nL ret R) {x w : Int64} (d : DC cc pc 1 n (.lsub)) (kk : Wm V X nL N σ k z n lv (.long (x - w) :: st)) : Wm V X nL N σ k z pc lv (.long w :: .long x :: st) := by
  obtain ⟨d, rfl⟩ := d
  exact fun H locs ls h1 h2 h3 => lv_lsub F.e F.b d (kk H locs ls h1 h2 h3)
theorem m_lmul (F : Fx V X y cc nL ret R) {x w : Int64} (d : DC cc pc 1 n (.lmul)) (kk : Wm V X nL N σ k z n lv (.long (x * w) :: st)) : Wm V X nL N σ k z pc lv (.long w :: .long x :: st) := by
  obtain ⟨d, rfl⟩ := d
  exact fun H locs ls h1 h2 h3 => lv_lmul F.e F.b d (kk H locs ls h1 h2 h3)
theorem m_land (F : Fx V X y cc nL ret R) {x w : Int64} (d : DC cc pc 1 n (.land)) (kk : Wm V X nL N σ k z n lv (.long (x &&& w) :: st)) : Wm V X nL N σ k z pc lv (.long w :: .long x :: st) := by
  obtain ⟨d, rfl⟩ := d
  exact fun H locs ls h1 h2 h3 => lv_land F.e F.b d (kk H locs ls h1 h2 h3)
theorem m_lor (F : Fx V X y cc nL ret R) {x w : Int64} (d : DC cc pc 1 n (.lor)) (kk : Wm V X nL N σ k z n lv (.long (x ||| w) :: st)) : Wm V X nL N σ k z pc lv (.long w :: .long x :: st) := by
  obtain ⟨d, rfl⟩ := d
  exact fun H locs ls h1 h2 h3 => lv_lor F.e F.b d (kk H locs ls h1 h2 h3)
theorem m_lxor (F : Fx V X y cc nL ret R) {x w : Int64} (d : DC cc pc 1 n (.lxor)) (kk : Wm V X nL N σ k z n lv (.long (x ^^^ w) :: st)) : Wm V X nL N σ k z pc lv (.long w :: .long x :: st) := by
  obtain ⟨d, rfl⟩ := d
  exact fun H locs ls h1 h2 h3 => lv_lxor F.e F.b d (kk H locs ls h1 h2 h3)
theorem m_idiv (F : Fx V X y cc nL ret R) {x w : Int32} (hne : ¬ w = 0) (d : DC cc pc 1 n (.idiv)) (kk : Wm V X nL N σ k z n lv (.int (x / w) :: st)) : Wm V X nL N σ k z pc lv (.int w :: .int x :: st) := by
  obtain ⟨d, rfl⟩ := d
  exact fun H locs ls h1 h2 h3 => lv_idiv F.e F.b d hne (kk H locs ls h1 h2 h3)
theorem m_irem (F : Fx V X y cc nL ret R) {x w : Int32} (hne : ¬ w = 0) (d : DC cc pc 1 n (.irem)) (kk : Wm V X nL N σ k z n lv (.int (x - x / w * w) :: st)) : Wm V X nL N σ k z pc lv (.int w :: .int x :: st) := by
  obtain ⟨d, rfl⟩ := d
  exact fun H locs ls h1 h2 h3 => lv_irem F.e F.b d hne (kk H locs ls h1 h2 h3)
theorem m_ldiv (F : Fx V X y cc nL ret R) {x w : Int64} (hne : ¬ w = 0) (d : DC cc pc 1 n (.ldiv)) (kk : Wm V X nL N σ k z n lv (.long (x / w) :: st)) : Wm V X nL N σ k z pc lv (.long w :: .long x :: st) := by
  obtain ⟨d, rfl⟩ := d
  exact fun H locs ls h1 h2 h3 => lv_ldiv F.e F.b d hne (kk H locs ls h1 h2 h3)
theorem m_lrem (F : Fx V X y cc nL ret R) {x w : Int64} (hne : ¬ w = 0) (d : DC cc pc 1 n (.lrem)) (kk : Wm V X nL N σ k z n lv (.long (x - x / w * w) :: st)) : Wm V X nL N σ k z pc lv (.long w :: .long x :: st) := by
  obtain ⟨d, rfl⟩ := d
  exact fun H locs ls h1 h2 h3 => lv_lrem F.e F.b d hne (kk H locs ls h1 h2 h3)
theorem m_ineg (F : Fx V X y cc nL ret R) {x : Int32} (d : DC cc pc 1 n (.ineg)) (kk : Wm V X nL N σ k z n lv (.int (-x) :: st)) : Wm V X nL N σ k z pc lv (.int x :: st) := by
  obtain ⟨d, rfl⟩ := d
  exact fun H locs ls h1 h2 h3 => lv_ineg F.e F.b d (kk H locs ls h1 h2 h3)
theorem m_lneg (F : Fx V X y cc nL ret R) {x : Int64} (d : DC cc pc 1 n (.lneg)) (kk : Wm V X nL N σ k z n lv (.long (-x) :: st)) : Wm V X nL N σ k z pc lv (.long x :: st) := by
  obtain ⟨d, rfl⟩ := d
  exact fun H locs ls h1 h2 h3 => lv_lneg F.e F.b d (kk H locs ls h1 h2 h3)
theorem m_ishl (F : Fx V X y cc nL ret R) {x w : Int32} (d : DC cc pc 1 n (.ishl)) (kk : Wm V X nL N σ k z n lv (.int (x <<< (w &&& 31)) :: st)) : Wm V X nL N σ k z pc lv (.int w :: .int x :: st) := by
  obtain ⟨d, rfl⟩ := d
  exact fun H locs ls h1 h2 h3 => lv_ishl F.e F.b d (kk H locs ls h1 h2 h3)
theorem m_ishr (F : Fx V X y cc nL ret R) {x w : Int32} (d : DC cc pc 1 n (.ishr)) (kk : Wm V X nL N σ k z n lv (.int (x >>> (w &&& 31)) :: st)) : Wm V X nL N σ k z pc lv (.int w :: .int x :: st) := by
  obtain ⟨d, rfl⟩ := d
  exact fun H locs ls h1 h2 h3 => lv_ishr F.e F.b d (kk H locs ls h1 h2 h3)
theorem m_lshl (F : Fx V X y cc nL ret R) {x : Int64} {w : Int32} (d : DC cc pc 1 n (.lshl)) (kk : Wm V X nL N σ k z n lv (.long (x <<< (w.toInt64 &&& 63)) :: st)) : Wm V X nL N σ k z pc lv (.int w :: .long x :: st) := by
  obtain ⟨d, rfl⟩ := d
  exact fun H locs ls h1 h2 h3 => lv_lshl F.e F.b d rfl (kk H locs ls h1 h2 h3)
theorem m_lshr (F : Fx V X y cc nL ret R) {x : Int64} {w : Int32} (d : DC cc pc 1 n (.lshr)) (kk : Wm V X nL N σ k z n lv (.long (x >>> (w.toInt64 &&& 63)) :: st)) : Wm V X nL N σ k z pc lv (.int w :: .long x :: st) := by
  obtain ⟨d, rfl⟩ := d
  exact fun H locs ls h1 h2 h3 => lv_lshr F.e F.b d rfl (kk H locs ls h1 h2 h3)
theorem m_i2l (F : Fx V X y cc nL ret R) {x : Int32} (d : DC cc pc 1 n (.i2l)) (kk : Wm V X nL N σ k z n lv (.long x.toInt64 :: st)) : Wm V X nL N σ k z pc lv (.int x :: st) := by
  obtain ⟨d, rfl⟩ := d
  exact fun H locs ls h1 h2 h3 => lv_i2l F.e F.b d rfl (kk H locs ls h1 h2 h3)
theorem m_l2i (F : Fx V X y cc nL ret R) {x : Int64} (d : DC cc pc 1 n (.l2i)) (kk : Wm V X nL N σ k z n lv (.int x.toInt32 :: st)) : Wm V X nL N σ k z pc lv (.long x :: st) := by
  obtain ⟨d, rfl⟩ := d
  exact fun H locs ls h1 h2 h3 => lv_l2i F.e F.b d rfl (kk H locs ls h1 h2 h3)
theorem m_i2b (F : Fx V X y cc nL ret R) {x : Int32} (d : DC cc pc 1 n (.i2b)) (kk : Wm V X nL N σ k z n lv (.int x.toInt8.toInt32 :: st)) : Wm V X nL N σ k z pc lv (.int x :: st) := by
  obtain ⟨d, rfl⟩ := d
  exact fun H locs ls h1 h2 h3 => lv_i2b F.e F.b d rfl (kk H locs ls h1 h2 h3)
theorem m_lcmp (F : Fx V X y cc nL ret R) {x w : Int64} (d : DC cc pc 1 n (.lcmp)) (kk : Wm V X nL N σ k z n lv (.int (lg_cmp x w) :: st)) : Wm V X nL N σ k z pc lv (.long w :: .long x :: st) := by
  obtain ⟨d, rfl⟩ := d
  exact fun H locs ls h1 h2 h3 => W.lcmp F.e F.b d (kk H locs ls h1 h2 h3)
theorem m_dup (F : Fx V X y cc nL ret R) {a : Value} (ha : a.category = 1) (d : DC cc pc 1 n (.dup)) (kk : Wm V X nL N σ k z n lv (a :: a :: st)) : Wm V X nL N σ k z pc lv (a :: st) := by
  obtain ⟨d, rfl⟩ := d
  exact fun H locs ls h1 h2 h3 => lv_dup F.e F.b d ha (kk H locs ls h1 h2 h3)
theorem m_pop (F : Fx V X y cc nL ret R) {a : Value} (ha : a.category = 1) (d : DC cc pc 1 n (.pop)) (kk : Wm V X nL N σ k z n lv (st)) : Wm V X nL N σ k z pc lv (a :: st) := by
  obtain ⟨d, rfl⟩ := d
  exact fun H locs ls h1 h2 h3 => lv_pop F.e F.b d ha (kk H locs ls h1 h2 h3)
theorem m_dup_x1 (F : Fx V X y cc nL ret R) {a b : Value} (ha : a.category = 1) (hb : b.category = 1) (d : DC cc pc 1 n (.dup_x1)) (kk : Wm V X nL N σ k z n lv (a :: b :: a :: st)) : Wm V X nL N σ k z pc lv (a :: b :: st) := by
  obtain ⟨d, rfl⟩ := d
  exact fun H locs ls h1 h2 h3 => lv_dup_x1 F.e F.b d ha hb (kk H locs ls h1 h2 h3)
theorem m_dup2_11 (F : Fx V X y cc nL ret R) {a b : Value} (ha : a.category = 1) (hb : b.category = 1) (d : DC cc pc 1 n (.dup2)) (kk : Wm V X nL N σ k z n lv (a :: b :: a :: b :: st)) : Wm V X nL N σ k z pc lv (a :: b :: st) := by
  obtain ⟨d, rfl⟩ := d
  exact fun H locs ls h1 h2 h3 => lv_dup2_11 F.e F.b d ha hb (kk H locs ls h1 h2 h3)
theorem m_dup2_2 (F : Fx V X y cc nL ret R) {a : Value} (ha : a.category = 2) (d : DC cc pc 1 n (.dup2)) (kk : Wm V X nL N σ k z n lv (a :: a :: st)) : Wm V X nL N σ k z pc lv (a :: st) := by
  obtain ⟨d, rfl⟩ := d
  exact fun H locs ls h1 h2 h3 => lv_dup2_2 F.e F.b d ha (kk H locs ls h1 h2 h3)
theorem m_pop2_2 (F : Fx V X y cc nL ret R) {a : Value} (ha : a.category = 2) (d : DC cc pc 1 n (.pop2)) (kk : Wm V X nL N σ k z n lv (st)) : Wm V X nL N σ k z pc lv (a :: st) := by
  obtain ⟨d, rfl⟩ := d
  exact fun H locs ls h1 h2 h3 => lv_pop2_2 F.e F.b d ha (kk H locs ls h1 h2 h3)
theorem m_if_eq (F : Fx V X y cc nL ret R) {x : Int32} {tgt : Nat} (d : DJ cc pc tgt n (.ifCond .eq)) (kt : x = 0 → Wm V X nL N σ k z tgt lv st) (kf : ¬ (x = 0) → Wm V X nL N σ k z n lv st) : Wm V X nL N σ k z pc lv (.int x :: st) := by
  obtain ⟨off, d, ht, rfl⟩ := d
  exact fun H locs ls h1 h2 h3 => lv_if_eq F.e F.b d ht (fun q => kt q H locs ls h1 h2 h3) (fun q => kf q H locs ls h1 h2 h3)
theorem m_icmp_eq (F : Fx V X y cc nL ret R) {x w : Int32} {tgt : Nat} (d : DJ cc pc tgt n (.if_icmp .eq)) (kt : x = w → Wm V X nL N σ k z tgt lv st) (kf : ¬ (x = w) → Wm V X nL N σ k z n lv st) : Wm V X nL N σ k z pc lv (.int w :: .int x :: st) := by
  obtain ⟨off, d, ht, rfl⟩ := d
  exact fun H locs ls h1 h2 h3 => lv_icmp_eq F.e F.b d ht (fun q => kt q H locs ls h1 h2 h3) (fun q => kf q H locs ls h1 h2 h3)
theorem m_if_ne (F : Fx V X y cc nL ret R) {x : Int32} {tgt : Nat} (d : DJ cc pc tgt n (.ifCond .ne)) (kt : ¬ x = 0 → Wm V X nL N σ k z tgt lv st) (kf : x = 0 → Wm V X nL N σ k z n lv st) : Wm V X nL N σ k z pc lv (.int x :: st) := by
  obtain ⟨off, d, ht, rfl⟩ := d
  exact fun H locs ls h1 h2 h3 => lv_if_ne F.e F.b d ht (fun q => kt q H locs ls h1 h2 h3) (fun q => kf q H locs ls h1 h2 h3)
theorem m_icmp_ne (F : Fx V X y cc nL ret R) {x w : Int32} {tgt : Nat} (d : DJ cc pc tgt n (.if_icmp .ne)) (kt : ¬ x = w → Wm V X nL N σ k z tgt lv st) (kf : x = w → Wm V X nL N σ k z n lv st) : Wm V X nL N σ k z pc lv (.int w :: .int x :: st) := by
  obtain ⟨off, d, ht, rfl⟩ := d
  exact fun H locs ls h1 h2 h3 => lv_icmp_ne F.e F.b d ht (fun q => kt q H locs ls h1 h2 h3) (fun q => kf q H locs ls h1 h2 h3)
theorem m_if_lt (F : Fx V X y cc nL ret R) {x : Int32} {tgt : Nat} (d : DJ cc pc tgt n (.ifCond .lt)) (kt : x < 0 → Wm V X nL N σ k z tgt lv st) (kf : ¬ (x < 0) → Wm V X nL N σ k z n lv st) : Wm V X nL N σ k z pc lv (.int x :: st) := by
  obtain ⟨off, d, ht, rfl⟩ := d
  exact fun H locs ls h1 h2 h3 => lv_if_lt F.e F.b d ht (fun q => kt q H locs ls h1 h2 h3) (fun q => kf q H locs ls h1 h2 h3)
theorem m_icmp_lt (F : Fx V X y cc nL ret R) {x w : Int32} {tgt : Nat} (d : DJ cc pc tgt n (.if_icmp .lt)) (kt : x < w → Wm V X nL N σ k z tgt lv st) (kf : ¬ (x < w) → Wm V X nL N σ k z n lv st) : Wm V X nL N σ k z pc lv (.int w :: .int x :: st) := by
  obtain ⟨off, d, ht, rfl⟩ := d
  exact fun H locs ls h1 h2 h3 => lv_icmp_lt F.e F.b d ht (fun q => kt q H locs ls h1 h2 h3) (fun q => kf q H locs ls h1 h2 h3)
theorem m_if_ge (F : Fx V X y cc nL ret R) {x : Int32} {tgt : Nat} (d : DJ cc pc tgt n (.ifCond .ge)) (kt : 0 ≤ x → Wm V X nL N σ k z tgt lv st) (kf : ¬ (0 ≤ x) → Wm V X nL N σ k z n lv st) : Wm V X nL N σ k z pc lv (.int x :: st) := by
  obtain ⟨off, d, ht, rfl⟩ := d
  exact fun H locs ls h1 h2 h3 => lv_if_ge F.e F.b d ht (fun q => kt q H locs ls h1 h2 h3) (fun q => kf q H locs ls h1 h2 h3)
theorem m_icmp_ge (F : Fx V X y cc nL ret R) {x w : Int32} {tgt : Nat} (d : DJ cc pc tgt n (.if_icmp .ge)) (kt : w ≤ x → Wm V X nL N σ k z tgt lv st) (kf : ¬ (w ≤ x) → Wm V X nL N σ k z n lv st) : Wm V X nL N σ k z pc lv (.int w :: .int x :: st) := by
  obtain ⟨off, d, ht, rfl⟩ := d
  exact fun H locs ls h1 h2 h3 => lv_icmp_ge F.e F.b d ht (fun q => kt q H locs ls h1 h2 h3) (fun q => kf q H locs ls h1 h2 h3)
theorem m_if_gt (F : Fx V X y cc nL ret R) {x : Int32} {tgt : Nat} (d : DJ cc pc tgt n (.ifCond .gt)) (kt : 0 < x → Wm V X nL N σ k z tgt lv st) (kf : ¬ (0 < x) → Wm V X nL N σ k z n lv st) : Wm V X nL N σ k z pc lv (.int x :: st) := by
  obtain ⟨off, d, ht, rfl⟩ := d
  exact fun H locs ls h1 h2 h3 => lv_if_gt F.e F.b d ht (fun q => kt q H locs ls h1 h2 h3) (fun q => kf q H locs ls h1 h2 h3)
theorem m_icmp_gt (F : Fx V X y cc nL ret R) {x w : Int32} {tgt : Nat} (d : DJ cc pc tgt n (.if_icmp .gt)) (kt : w < x → Wm V X nL N σ k z tgt lv st) (kf : ¬ (w < x) → Wm V X nL N σ k z n lv st) : Wm V X nL N σ k z pc lv (.int w :: .int x :: st) := by
  obtain ⟨off, d, ht, rfl⟩ := d
  exact fun H locs ls h1 h2 h3 => lv_icmp_gt F.e F.b d ht (fun q => kt q H locs ls h1 h2 h3) (fun q => kf q H locs ls h1 h2 h3)
theorem m_if_le (F : Fx V X y cc nL ret R) {x : Int32} {tgt : Nat} (d : DJ cc pc tgt n (.ifCond .le)) (kt : x ≤ 0 → Wm V X nL N σ k z tgt lv st) (kf : ¬ (x ≤ 0) → Wm V X nL N σ k z n lv st) : Wm V X nL N σ k z pc lv (.int x :: st) := by
  obtain ⟨off, d, ht, rfl⟩ := d
  exact fun H locs ls h1 h2 h3 => lv_if_le F.e F.b d ht (fun q => kt q H locs ls h1 h2 h3) (fun q => kf q H locs ls h1 h2 h3)
theorem m_icmp_le (F : Fx V X y cc nL ret R) {x w : Int32} {tgt : Nat} (d : DJ cc pc tgt n (.if_icmp .le)) (kt : x ≤ w → Wm V X nL N σ k z tgt lv st) (kf : ¬ (x ≤ w) → Wm V X nL N σ k z n lv st) : Wm V X nL N σ k z pc lv (.int w :: .int x :: st) := by
  obtain ⟨off, d, ht, rfl⟩ := d
  exact fun H locs ls h1 h2 h3 => lv_icmp_le F.e F.b d ht (fun q => kt q H locs ls h1 h2 h3) (fun q => kf q H locs ls h1 h2 h3)
theorem m_goto (F : Fx V X y cc nL ret R) {tgt : Nat} (d : DJ cc pc tgt n .goto) (kk : Wm V X nL N σ k z tgt lv st) : Wm V X nL N σ k z pc lv st := by
  obtain ⟨off, d, ht, rfl⟩ := d
  exact fun H locs ls h1 h2 h3 => lv_goto F.e F.b d ht (kk H locs ls h1 h2 h3)
theorem m_ifnullR (F : Fx V X y cc nL ret R) {x tgt : Nat} (d : DJ cc pc tgt n .ifnull) (kk : Wm V X nL N σ k z n lv st) : Wm V X nL N σ k z pc lv (.ref x :: st) := by
  obtain ⟨off, d, ht, rfl⟩ := d
  exact fun H locs ls h1 h2 h3 => lv_ifnull F.e F.b d (kk H locs ls h1 h2 h3)
theorem m_ifnullN (F : Fx V X y cc nL ret R) {tgt : Nat} (d : DJ cc pc tgt n .ifnull) (kk : Wm V X nL N σ k z tgt lv st) : Wm V X nL N σ k z pc lv (.null :: st) := by
  obtain ⟨off, d, ht, rfl⟩ := d
  exact fun H locs ls h1 h2 h3 => lv_ifnullN F.e F.b d ht (kk H locs ls h1 h2 h3)
theorem m_ifnonnullR (F : Fx V X y cc nL ret R) {x tgt : Nat} (d : DJ cc pc tgt n .ifnonnull) (kk : Wm V X nL N σ k z tgt lv st) : Wm V X nL N σ k z pc lv (.ref x :: st) := by
  obtain ⟨off, d, ht, rfl⟩ := d
  exact fun H locs ls h1 h2 h3 => lv_ifnonnull F.e F.b d ht (kk H locs ls h1 h2 h3)
theorem m_ifnonnullN (F : Fx V X y cc nL ret R) {tgt : Nat} (d : DJ cc pc tgt n .ifnonnull) (kk : Wm V X nL N σ k z n lv st) : Wm V X nL N σ k z pc lv (.null :: st) := by
  obtain ⟨off, d, ht, rfl⟩ := d
  exact fun H locs ls h1 h2 h3 => lv_ifnonnullN F.e F.b d (kk H locs ls h1 h2 h3)
theorem m_tableOut (F : Fx V X y cc nL ret R) {dflt lo hi : Int} {offs : Array Int} {len : Nat} {x : Int32} {tgt : Nat} (d : decode cc pc = .ok (.tableswitch dflt lo hi offs, len)) (h : x.toInt < lo ∨ hi < x.toInt) (ht : (pc : Int) + dflt = (tgt : Int)) (kk : Wm V X nL N σ k z tgt lv st) : Wm V X nL N σ k z pc lv (.int x :: st) :=
  fun H locs ls h1 h2 h3 => lv_tableOut F.e F.b d h ht (kk H locs ls h1 h2 h3)
theorem m_tableIn (F : Fx V X y cc nL ret R) {dflt lo hi : Int} {offs : Array Int} {len : Nat} {x : Int32} {off : Int} {tgt : Nat} (d : decode cc pc = .ok (.tableswitch dflt lo hi offs, len)) (g1 : ¬ x.toInt < lo) (g2 : ¬ hi < x.toInt) (ho : offs[(x.toInt - lo).toNat]? = some off) (ht : (pc : Int) + off = (tgt : Int)) (kk : Wm V X nL N σ k z tgt lv st) : Wm V X nL N σ k z pc lv (.int x :: st) :=
  fun H locs ls h1 h2 h3 => lv_tableIn F.e F.b d g1 g2 ho ht (kk H locs ls h1 h2 h3)
theorem m_lookup (F : Fx V X y cc nL ret R) {dflt : Int} {ps : Array (Int × Int)} {len : Nat} {x : Int32} {off : Int} {tgt : Nat} (d : decode cc pc = .ok (.lookupswitch dflt ps, len)) (hp : (ps.toList.zip (ps.toList.drop 1)).all (fun (a, next) => a.1 < next.1) = true) (ho : Op.lookupswitch.offset ps.toList dflt x.toInt = off) (ht : (pc : Int) + off = (tgt : Int)) (kk : Wm V X nL N σ k z tgt lv st) : Wm V X nL N σ k z pc lv (.int x :: st) :=
  fun H locs ls h1 h2 h3 => lv_lookup F.e F.b d hp ho ht (kk H locs ls h1 h2 h3)
-- fields
def FL (own : String) (index ci j : Nat) : Prop := ∃ (C : String) (T : u_T) (Nn : Nat), classes[ci]? = some (C, T, Nn) ∧ j < Nn ∧ (∀ w ∈ u_ws C T Nn, w ∈ tb) ∧ Cond.fieldLink own index C (T j).2.1 (T j).2.2.1 ∈ tb ∧ (T j).1 = C
theorem m_get (F : Fx V X y cc nL ret R) {index ci j a : Nat} {fs : List Value} {v : Value} (d : DC cc pc 3 n (.getfield index)) (fl : FL y.cls index ci j) (h : σ a = some (.inr (ci, fs))) (hv : fs[j]? = some v) (kk : Wm V X nL N σ k z n lv (v :: st)) : Wm V X nL N σ k z pc lv (.ref a :: st) := by
  obtain ⟨d, rfl⟩ := d
  obtain ⟨C, T, Nn, hc, hj, hin, hlk, hT⟩ := fl
  intro H locs ls h1 h2 h3
  exact va_get (ref := C) F.e F.b F.ts hin F.own F.ku.1 (h1.one h) 0 rfl hc j hj (F.ts _ hlk) (fun x hx => by rw [hT] at hx; exact hx) hv d (kk H locs ls h1 h2 h3)
def FP (own : String) (index ci j : Nat) (fin : Bool) (ty : FieldType) : Prop := ∃ (C : String) (T : u_T) (Nn : Nat) (ty0 : Nat → FieldType), classes[ci]? = some (C, T, Nn) ∧ j < Nn ∧ (∀ w ∈ u_ws C T Nn, w ∈ tb) ∧ Cond.fieldLink own index C (T j).2.1 (T j).2.2.1 ∈ tb ∧ (T j).1 = C ∧ (T j).2.2.2 = fin ∧ parseFieldDescriptor (T j).2.2.1 = some ty ∧ (∀ k, k < Nn → parseFieldDescriptor (T k).2.2.1 = some (ty0 k)) ∧ (∀ a, a < Nn → ∀ b, b < Nn → a ≠ b → (T a).2.1 ≠ (T b).2.1)
theorem locs_app {V : VX} {locs : List Loc} {a i : Nat} (h : ∀ q ∈ locs, V.2.2.size ≤ q.base) (ha : V.2.2.size ≤ a) : ∀ q ∈ locs ++ [(⟨a, i⟩ : Loc)], V.2.2.size ≤ q.base := by
  intro q hq
  rcases List.mem_append.mp hq with h1 | h1
  · exact h q h1
  · rw [List.mem_singleton.mp h1]; exact ha
theorem m_put (F : Fx V X y cc nL ret R) {index ci j a : Nat} {fs fs' : List Value} {v : Value} {ty : FieldType} {σ' : Mem} (d : DC cc pc 3 n (.putfield index)) (fp : FP y.cls index ci j false ty) (h : σ a = some (.inr (ci, fs))) (hn : narrow ty v = v) (hfit : fits ty v = true) (hl : j < fs.length) (hf : fs.set j v = fs') (hσ : va_up σ a (some (.inr (ci, fs'))) = σ') (kk : Wm V X nL N σ' k z n lv st) : Wm V X nL N σ k z pc lv (v :: .ref a :: st) := by
  obtain ⟨d, rfl⟩ := d
  subst hσ; subst hf
  obtain ⟨C, T, Nn, ty0, hc, hj, hin, hlk, hT, hfin, hd, hty, hnm⟩ := fp
  intro H locs ls h1 h2 h3
  have hK := F.ku.1
  have hap := va_apart (own := y.cls) F.ts hin ty0 hty hnm hK hc
  obtain ⟨r, g1, cell, q1, q2, q3, q4⟩ := h1.at h
  have hr : r = (C, T, Nn) := Option.some.inj (g1.symm.trans hc)
  subst hr
  obtain ⟨hS, hfc, kC, hkC, hkind⟩ := hK.1 ci _ hc
  obtain ⟨cf, kf, fi, f, hi, hsl⟩ := hS j hj
  have hlay := F.ts _ (hin _ (u_in_lay hj))
  unfold u_lay at hlay
  rw [if_neg (by rw [hfin]; decide)] at hlay
  have hst := (u_facts hfc hkC (u_lays F.ts hin hj) hi).1
  have h6 := u_store hfc hkC hkind hlay hi hd hn hfit
  refine W.putK F.e F.b (f := f) ⟨F.own, F.ts _ hlk, ⟨_, _, _, by rw [hT] at hi; exact hi⟩, hst⟩ (by rw [q2]; exact h6) q1 q3 (by rw [hsl]; exact k2_hasslot (q4 j hj)) rfl rfl d fun H' e1 e2 e3 => ?_
  rw [hsl] at e1
  exact kk H' _ ls (h1.put h e2 e3 ⟨_, hc, t_OB.to (V := updV (vp_V fs) j v) ⟨_, e1, q2, q3, t_set q4 hap hj v⟩ (fun i _ => vp_updV_set hl v i)⟩) (locs_app h2 (h1.lt h).1) h3
theorem m_putF (F : Fx V X y cc nL ret R) {index ci j a : Nat} {fs fs' : List Value} {v : Value} {ty : FieldType} {σ' : Mem} (d : DC cc pc 3 n (.putfield index)) (fp : FP y.cls index ci j true ty) (hci : (classes[ci]?).map (·.1) = some y.cls) (hin2 : y.name = "<init>") (h : σ a = some (.inr (ci, fs))) (hn : narrow ty v = v) (hfit : fits ty v = true) (hl : j < fs.length) (hf : fs.set j v = fs') (hσ : va_up σ a (some (.inr (ci, fs'))) = σ') (kk : Wm V X nL N σ' k z n lv st) : Wm V X nL N σ k z pc lv (v :: .ref a :: st) := by
  obtain ⟨d, rfl⟩ := d
  subst hσ; subst hf
  obtain ⟨C, T, Nn, ty0, hc, hj, hin, hlk, hT, hfin, hd, hty, hnm⟩ := fp
  have hC : C = y.cls := by rw [hc] at hci; exact Option.some.inj hci
  intro H locs ls h1 h2 h3
  have hK := F.ku.1
  have hap := va_apart (own := y.cls) F.ts hin ty0 hty hnm hK hc
  obtain ⟨r, g1, cell, q1, q2, q3, q4⟩ := h1.at h
  have hr : r = (C, T, Nn) := Option.some.inj (g1.symm.trans hc)
  subst hr
  obtain ⟨hS, hfc, kC, hkC, hkind⟩ := hK.1 ci _ hc
  obtain ⟨cf, kf, fi, f, hi, hsl⟩ := hS j hj
  have hlay := F.ts _ (hin _ (u_in_lay hj))
  unfold u_lay at hlay
  rw [if_pos hfin] at hlay
  have hst := (u_facts hfc hkC (u_lays F.ts hin hj) hi).1
  have hcf : (x_m X).cls = cf := by
    obtain ⟨_, _, c', _, _, _, -, -, hf', -, -, -, hown2, -⟩ := Cond.laysFinal_spec hlay
    have e1 : c' = cf := by have := hi.symm.trans hf'; simp at this; exact this.1.symm
    rw [hT, hC] at hown2
    rw [← e1]; exact Option.some.inj (F.own.symm.trans hown2)
  have h6 := u_fits hfc hkC hkind (Or.inr hlay) hi hd hn hfit
  refine W.putFinK F.e F.b F.own (F.ts _ hlk) (by rw [hT] at hi; exact hi) hst hcf (by rw [F.nm]; exact hin2) (by rw [q2]; exact h6) q1 q3 (by rw [hsl]; exact k2_hasslot (q4 j hj)) rfl rfl d fun H' e1 e2 e3 => ?_
  rw [hsl] at e1
  exact kk H' _ ls (h1.put h e2 e3 ⟨_, hc, t_OB.to (V := updV (vp_V fs) j v) ⟨_, e1, q2, q3, t_set q4 hap hj v⟩ (fun i _ => vp_updV_set hl v i)⟩) (locs_app h2 (h1.lt h).1) h3
-- arrays
theorem m_iald (F : Fx V X y cc nL ret R) {a len j : Nat} {f : Nat → Int32} {i : Int32} (d : DC cc pc 1 n .iaload) (h : σ a = some (aI V len f)) (hj : i.toNatClampNeg = j) (hin : vp_in i len) (kk : Wm V X nL N σ k z n lv (.int (f j) :: st)) : Wm V X nL N σ k z pc lv (.int i :: .ref a :: st) := by
  obtain ⟨d, rfl⟩ := d
  subst hj
  exact fun H locs ls h1 h2 h3 => va_iald F.e F.b F.ku.1 (h1.one h) 0 0 rfl rfl hin d (kk H locs ls h1 h2 h3)
theorem m_bald (F : Fx V X y cc nL ret R) {a len j : Nat} {f : Nat → Int32} {i : Int32} (d : DC cc pc 1 n .baload) (h : σ a = some (aB V len f)) (hj : i.toNatClampNeg = j) (hin : vp_in i len) (kk : Wm V X nL N σ k z n lv (.int (f j) :: st)) : Wm V X nL N σ k z pc lv (.int i :: .ref a :: st) := by
  obtain ⟨d, rfl⟩ := d
  subst hj
  exact fun H locs ls h1 h2 h3 => va_bald F.e F.b F.ku.1 (h1.one h) 0 2 rfl rfl hin d (kk H locs ls h1 h2 h3)
theorem m_zald (F : Fx V X y cc nL ret R) {a len j : Nat} {f : Nat → Int32} {i : Int32} (d : DC cc pc 1 n .baload) (h : σ a = some (aZ V len f)) (hj : i.toNatClampNeg = j) (hin : vp_in i len) (kk : Wm V X nL N σ k z n lv (.int (f j) :: st)) : Wm V X nL N σ k z pc lv (.int i :: .ref a :: st) := by
  obtain ⟨d, rfl⟩ := d
  subst hj
  exact fun H locs ls h1 h2 h3 => va_zald F.e F.b F.ku.1 (h1.one h) 0 3 rfl rfl hin d (kk H locs ls h1 h2 h3)
theorem m_lald (F : Fx V X y cc nL ret R) {a len j : Nat} {f : Nat → Int64} {i : Int32} (d : DC cc pc 1 n .laload) (h : σ a = some (aJ V len f)) (hj : i.toNatClampNeg = j) (hin : vp_in i len) (kk : Wm V X nL N σ k z n lv (.long (f j) :: st)) : Wm V X nL N σ k z pc lv (.int i :: .ref a :: st) := by
  obtain ⟨d, rfl⟩ := d
  subst hj
  exact fun H locs ls h1 h2 h3 => va_lald F.e F.b F.ku.1 (h1.one h) 0 1 rfl rfl hin d (kk H locs ls h1 h2 h3)
theorem m_aald (F : Fx V X y cc nL ret R) {a len j ti : Nat} {C : String} {f : Nat → Option Nat} {i : Int32} (d : DC cc pc 1 n .aaload) (h : σ a = some (aR ti V len f)) (ht : (tysOf V.2.1)[ti]? = some (V.2.1 ti, .object C)) (hj : i.toNatClampNeg = j) (hin : vp_in i len) (kk : Wm V X nL N σ k z n lv (va_rf (f j) :: st)) : Wm V X nL N σ k z pc lv (.int i :: .ref a :: st) := by
  obtain ⟨d, rfl⟩ := d
  subst hj
  exact fun H locs ls h1 h2 h3 => va_aldq F.e F.b F.ku.1 (h1.one h) 0 ti rfl ht hin d (kk H locs ls h1 h2 h3)
theorem m_alen (F : Fx V X y cc nL ret R) {a ti : Nat} {b : vp_A} {ty : FieldType} {v : Int32} (d : DC cc pc 1 n .arraylength) (h : σ a = some (.inl (V.2.1 ti, b))) (ht : (tysOf V.2.1)[ti]? = some (V.2.1 ti, ty)) (hv : Int32.ofNat b.1 = v) (kk : Wm V X nL N σ k z n lv (.int v :: st)) : Wm V X nL N σ k z pc lv (.ref a :: st) := by
  obtain ⟨d, rfl⟩ := d
  exact fun H locs ls h1 h2 h3 => va_alen F.e F.b F.ku.1 (h1.one h) 0 ti rfl ht hv d (kk H locs ls h1 h2 h3)
theorem m_iast (F : Fx V X y cc nL ret R) {a len j : Nat} {f f' : Nat → Int32} {i : Int32} {x : Int32} {σ' : Mem} (d : DC cc pc 1 n .iastore) (h : σ a = some (aI V len f)) (hj : i.toNatClampNeg = j) (hin : vp_in i len) (hf : upd f j x = f') (hσ : va_up σ a (some (aI V len f')) = σ') (kk : Wm V X nL N σ' k z n lv st) : Wm V X nL N σ k z pc lv (.int x :: .int i :: .ref a :: st) := by
  obtain ⟨d, rfl⟩ := d
  subst hσ; subst hj; subst hf
  intro H locs ls h1 h2 h3
  refine W.iast F.e F.b (h1.at h) ((F.ku.1.2 0 _ rfl).1 len (fun j => .int (f j))) (fun q => by cases q) (by show ¬ (i < 0 ∨ (arrV _ _ _).slots.size ≤ _); rw [arrV_size]; exact hin) rfl rfl d fun H1 e z1 oq => ?_
  refine kk H1 _ ls (h1.put h z1 oq ?_) (locs_app h2 (h1.lt h).1) h3
  show H1[a]? = some (vp_cell _ _)
  rw [e]
  rw [vp_cell_i, vp_cell_i, arrV_store]
  congr 2
  funext q
  by_cases hq : q = i.toNatClampNeg
  · subst hq; simp [updV, upd]
  · simp [updV, upd, hq]
theorem m_last (F : Fx V X y cc nL ret R) {a len j : Nat} {f f' : Nat → Int64} {i : Int32} {x : Int64} {σ' : Mem} (d : DC cc pc 1 n .lastore) (h : σ a = some (aJ V len f)) (hj : i.toNatClampNeg = j) (hin : vp_in i len) (hf : vp_updL f j x = f') (hσ : va_up σ a (some (aJ V len f')) = σ') (kk : Wm V X nL N σ' k z n lv st) : Wm V X nL N σ k z pc lv (.long x :: .int i :: .ref a :: st) := by
  obtain ⟨d, rfl⟩ := d
  subst hσ; subst hj; subst hf
  intro H locs ls h1 h2 h3
  refine W.last F.e F.b (h1.at h) ((F.ku.1.2 1 _ rfl).1 len (fun j => .long (f j))) (fun q => by cases q) (by show ¬ (i < 0 ∨ (arrV _ _ _).slots.size ≤ _); rw [arrV_size]; exact hin) rfl rfl d fun H1 e z1 oq => ?_
  refine kk H1 _ ls (h1.put h z1 oq ?_) (locs_app h2 (h1.lt h).1) h3
  show H1[a]? = some (vp_cell _ _)
  rw [e]
  rw [vp_cell_l, vp_cell_l, arrV_store]
  congr 2
  funext q
  by_cases hq : q = i.toNatClampNeg
  · subst hq; simp [updV, vp_updL]
  · simp [updV, vp_updL, hq]
theorem m_bast (F : Fx V X y cc nL ret R) {a len j : Nat} {f f' : Nat → Int32} {i x x' : Int32} {σ' : Mem} (d : DC cc pc 1 n .bastore) (h : σ a = some (aB V len f)) (hj : i.toNatClampNeg = j) (hin : vp_in i len) (hx : narrow .byte (.int x) = .int x') (hf : upd f j x' = f') (hσ : va_up σ a (some (aB V len f')) = σ') (kk : Wm V X nL N σ' k z n lv st) : Wm V X nL N σ k z pc lv (.int x :: .int i :: .ref a :: st) := by
  obtain ⟨d, rfl⟩ := d
  subst hσ; subst hj; subst hf
  intro H locs ls h1 h2 h3
  refine W.bast F.e F.b (h1.at h) ((F.ku.1.2 2 _ rfl).1 len (fun j => .int (f j))) (fun q => by cases q) (by show ¬ (i < 0 ∨ (arrV _ _ _).slots.size ≤ _); rw [arrV_size]; exact hin) rfl rfl d fun H1 e z1 oq => ?_
  refine kk H1 _ ls (h1.put h z1 oq ?_) (locs_app h2 (h1.lt h).1) h3
  show H1[a]? = some (vp_cell _ _)
  rw [e, hx]
  rw [vp_cell_i, vp_cell_i, arrV_store]
  congr 2
  funext q
  by_cases hq : q = i.toNatClampNeg
  · subst hq; simp [updV, upd]
  · simp [updV, upd, hq]
theorem m_zast (F : Fx V X y cc nL ret R) {a len j : Nat} {f f' : Nat → Int32} {i x x' : Int32} {σ' : Mem} (d : DC cc pc 1 n .bastore) (h : σ a = some (aZ V len f)) (hj : i.toNatClampNeg = j) (hin : vp_in i len) (hx : narrow .boolean (.int x) = .int x') (hf : upd f j x' = f') (hσ : va_up σ a (some (aZ V len f')) = σ') (kk : Wm V X nL N σ' k z n lv st) : Wm V X nL N σ k z pc lv (.int x :: .int i :: .ref a :: st) := by
  obtain ⟨d, rfl⟩ := d
  subst hσ; subst hj; subst hf
  intro H locs ls h1 h2 h3
  refine W.zast F.e F.b (h1.at h) ((F.ku.1.2 3 _ rfl).1 len (fun j => .int (f j))) (fun q => by cases q) (by show ¬ (i < 0 ∨ (arrV _ _ _).slots.size ≤ _); rw [arrV_size]; exact hin) rfl rfl d fun H1 e z1 oq => ?_
  refine kk H1 _ ls (h1.put h z1 oq ?_) (locs_app h2 (h1.lt h).1) h3
  show H1[a]? = some (vp_cell _ _)
  rw [e, hx]
  rw [vp_cell_i, vp_cell_i, arrV_store]
  congr 2
  funext q
  by_cases hq : q = i.toNatClampNeg
  · subst hq; simp [updV, upd]
  · simp [updV, upd, hq]
theorem m_aast (F : Fx V X y cc nL ret R) {a len j ti v ci : Nat} {r : vw_C} {vs : List Value} {f f' : Nat → Option Nat} {i : Int32} {σ' : Mem} (d : DC cc pc 1 n .aastore) (h : σ a = some (aR ti V len f)) (ht : (tysOf V.2.1)[ti]? = some (V.2.1 ti, .object r.1)) (hv : σ v = some (.inr (ci, vs))) (hc : classes[ci]? = some r) (hj : i.toNatClampNeg = j) (hin : vp_in i len) (hf : va_up f j (some v) = f') (hσ : va_up σ a (some (aR ti V len f')) = σ') (kk : Wm V X nL N σ' k z n lv st) : Wm V X nL N σ k z pc lv (.ref v :: .int i :: .ref a :: st) := by
  obtain ⟨d, rfl⟩ := d
  subst hσ; subst hj; subst hf
  intro H locs ls h1 h2 h3
  have hlt : i.toNatClampNeg < len := Nat.not_le.mp fun q => hin (Or.inr q)
  have h0 : ¬ i < 0 := fun q => hin (Or.inl q)
  obtain ⟨r', hr', cellV, g1, g2, g3, -⟩ := h1.at hv
  have hcls := (F.ku.1.1 ci r hc).2
  obtain ⟨kA, comp, k1, k2, k3, -⟩ := (F.ku.1.2 ti _ ht).2
  have hcomp : comp = V.1.1 ci := Option.some.inj (k3.symm.trans hcls.1)
  subst hcomp
  obtain ⟨kC, hkC, -⟩ := hcls.2
  refine W.aast F.e F.b (h1.at h) (fun q h => by cases h) (fun h => by cases h) k1 k2 rfl hkC ⟨h0, by show _ < (arrV _ _ _).slots.size; rw [arrV_size]; exact hlt⟩ g1 (fun q h => by rw [g3] at h; cases h) (by rw [g2]; exact hkC) (by rw [g2]; exact va_assign hcls) rfl rfl d fun H1 e z1 oq => ?_
  refine kk H1 _ ls (h1.put h z1 oq ?_) (locs_app h2 (h1.lt h).1) h3
  show H1[a]? = some (vp_cell _ _)
  rw [e]
  rw [vp_cell_q, vp_cell_q, arrV_store]
  congr 2
  funext q
  by_cases hq : q = i.toNatClampNeg
  · subst hq; simp [updV, va_up, va_rf]
  · simp [updV, va_up, hq]
-- making
def FN (own : String) (index ci Nn : Nat) (fs : List Value) : Prop := ∃ (C : String) (T : u_T) (ty : Nat → FieldType), classes[ci]? = some (C, T, Nn) ∧ (∀ w ∈ u_ws C T Nn, w ∈ tb) ∧ Cond.classLink own index C ∈ tb ∧ Cond.instantiable C Nn ∈ tb ∧ Cond.initialized C ∈ tb ∧ (∀ k, k < Nn → parseFieldDescriptor (T k).2.2.1 = some (ty k)) ∧ ∀ j, j < Nn → defaultValue (ty j) = vp_V fs j
theorem m_new (F : Fx V X y cc nL ret R) {index ci Nn k' z' N' : Nat} {fs : List Value} (d : DC cc pc 3 n (.new index)) (fn : FN y.cls index ci Nn fs) (hk : k + 1 = k') (hz : z + Nn = z') (hN : N + 1 = N') (hc1 : k' ≤ R.cells) (hs1 : z' ≤ R.slots) (kk : Wm V X nL N' (va_up σ N (some (.inr (ci, fs)))) k' z' n lv (.ref N :: st)) : Wm V X nL N σ k z pc lv st := by
  obtain ⟨d, rfl⟩ := d
  subst hk; subst hz; subst hN
  obtain ⟨C, T, ty, hc, hin, hcl, hinst, hini, hty, hfs⟩ := fn
  intro H locs ls h1 h2 h3
  have hKn := F.ku.1.1 ci _ hc
  refine W.newcK F.e F.b F.own (F.ts _ hcl) (F.ts _ hinst) (F.ts _ hini) rfl d (by rw [F.rm]; exact hc1) (by rw [F.rm]; exact hs1) hKn.2.1 h1.1 fun H1 kC hkC e1 z1 o1 => ?_
  rw [← h1.1] at z1 o1
  exact kk H1 locs ls (h1.new z1 o1 ⟨_, hc, (u_born ty F.ts hin hKn hkC e1 hty).to hfs⟩) h2 h3
theorem m_newI (F : Fx V X y cc nL ret R) {len k' z' N' : Nat} {i : Int32} (d : DC cc pc 2 n (.newarray .int)) (hw : Cond.arrayClass .int ∈ tb) (hi : ¬ i < 0) (hl : i.toNatClampNeg = len) (hbytes : len * componentBytes .int ≤ 536870912) (hk : k + 1 = k') (hz : z + len = z') (hN : N + 1 = N') (hc1 : k' ≤ R.cells) (hs1 : z' ≤ R.slots) (kk : Wm V X nL N' (va_up σ N (some (aI V len (fun _ => 0)))) k' z' n lv (.ref N :: st)) : Wm V X nL N σ k z pc lv (.int i :: st) := by
  obtain ⟨d, rfl⟩ := d
  subst hk; subst hz; subst hN
  intro H locs ls h1 h2 h3
  refine va_newaK (atype := .int) F.e F.b (F.ts _ hw) rfl d rfl hi hl hbytes (by rw [F.rm]; exact hc1) (by rw [F.rm]; exact hs1) h1.1 fun H1 cA e1 z1 o1 hAr hNm => ?_
  have hcA : cA = V.2.1 0 := Option.some.inj (hNm.symm.trans (F.ku.1.2 0 _ rfl).2)
  subst hcA
  rw [← h1.1] at z1 o1
  exact kk H1 locs ls (h1.new z1 o1 (show H1[N]? = some (vp_cell _ _) by rw [e1, vp_cell_i]; rfl)) h2 h3
theorem m_newJ (F : Fx V X y cc nL ret R) {len k' z' N' : Nat} {i : Int32} (d : DC cc pc 2 n (.newarray .long)) (hw : Cond.arrayClass .long ∈ tb) (hi : ¬ i < 0) (hl : i.toNatClampNeg = len) (hbytes : len * componentBytes .long ≤ 536870912) (hk : k + 1 = k') (hz : z + len = z') (hN : N + 1 = N') (hc1 : k' ≤ R.cells) (hs1 : z' ≤ R.slots) (kk : Wm V X nL N' (va_up σ N (some (aJ V len (fun _ => 0)))) k' z' n lv (.ref N :: st)) : Wm V X nL N σ k z pc lv (.int i :: st) := by
  obtain ⟨d, rfl⟩ := d
  subst hk; subst hz; subst hN
  intro H locs ls h1 h2 h3
  refine va_newaK (atype := .long) F.e F.b (F.ts _ hw) rfl d rfl hi hl hbytes (by rw [F.rm]; exact hc1) (by rw [F.rm]; exact hs1) h1.1 fun H1 cA e1 z1 o1 hAr hNm => ?_
  have hcA : cA = V.2.1 1 := Option.some.inj (hNm.symm.trans (F.ku.1.2 1 _ rfl).2)
  subst hcA
  rw [← h1.1] at z1 o1
  exact kk H1 locs ls (h1.new z1 o1 (show H1[N]? = some (vp_cell _ _) by rw [e1, vp_cell_l]; rfl)) h2 h3
theorem m_newB (F : Fx V X y cc nL ret R) {len k' z' N' : Nat} {i : Int32} (d : DC cc pc 2 n (.newarray .byte)) (hw : Cond.arrayClass .byte ∈ tb) (hi : ¬ i < 0) (hl : i.toNatClampNeg = len) (hbytes : len * componentBytes .byte ≤ 536870912) (hk : k + 1 = k') (hz : z + len = z') (hN : N + 1 = N') (hc1 : k' ≤ R.cells) (hs1 : z' ≤ R.slots) (kk : Wm V X nL N' (va_up σ N (some (aB V len (fun _ => 0)))) k' z' n lv (.ref N :: st)) : Wm V X nL N σ k z pc lv (.int i :: st) := by
  obtain ⟨d, rfl⟩ := d
  subst hk; subst hz; subst hN
  intro H locs ls h1 h2 h3
  refine va_newaK (atype := .byte) F.e F.b (F.ts _ hw) rfl d rfl hi hl hbytes (by rw [F.rm]; exact hc1) (by rw [F.rm]; exact hs1) h1.1 fun H1 cA e1 z1 o1 hAr hNm => ?_
  have hcA : cA = V.2.1 2 := Option.some.inj (hNm.symm.trans (F.ku.1.2 2 _ rfl).2)
  subst hcA
  rw [← h1.1] at z1 o1
  exact kk H1 locs ls (h1.new z1 o1 (show H1[N]? = some (vp_cell _ _) by rw [e1, vp_cell_i]; rfl)) h2 h3
theorem m_newZ (F : Fx V X y cc nL ret R) {len k' z' N' : Nat} {i : Int32} (d : DC cc pc 2 n (.newarray .boolean)) (hw : Cond.arrayClass .boolean ∈ tb) (hi : ¬ i < 0) (hl : i.toNatClampNeg = len) (hbytes : len * componentBytes .boolean ≤ 536870912) (hk : k + 1 = k') (hz : z + len = z') (hN : N + 1 = N') (hc1 : k' ≤ R.cells) (hs1 : z' ≤ R.slots) (kk : Wm V X nL N' (va_up σ N (some (aZ V len (fun _ => 0)))) k' z' n lv (.ref N :: st)) : Wm V X nL N σ k z pc lv (.int i :: st) := by
  obtain ⟨d, rfl⟩ := d
  subst hk; subst hz; subst hN
  intro H locs ls h1 h2 h3
  refine va_newaK (atype := .boolean) F.e F.b (F.ts _ hw) rfl d rfl hi hl hbytes (by rw [F.rm]; exact hc1) (by rw [F.rm]; exact hs1) h1.1 fun H1 cA e1 z1 o1 hAr hNm => ?_
  have hcA : cA = V.2.1 3 := Option.some.inj (hNm.symm.trans (F.ku.1.2 3 _ rfl).2)
  subst hcA
  rw [← h1.1] at z1 o1
  exact kk H1 locs ls (h1.new z1 o1 (show H1[N]? = some (vp_cell _ _) by rw [e1, vp_cell_i]; rfl)) h2 h3
theorem m_anew (F : Fx V X y cc nL ret R) {index len k' z' N' ti : Nat} {C : String} {i : Int32} (d : DC cc pc 3 n (.anewarray index)) (hcl : Cond.classLink y.cls index C ∈ tb) (hao : va_AO C (x_s X)) (ht : (tysOf V.2.1)[ti]? = some (V.2.1 ti, .object C)) (hi : ¬ i < 0) (hl : i.toNatClampNeg = len) (hbytes : len * 4 ≤ 536870912) (hk : k + 1 = k') (hz : z + len = z') (hN : N + 1 = N') (hc1 : k' ≤ R.cells) (hs1 : z' ≤ R.slots) (kk : Wm V X nL N' (va_up σ N (some (aR ti V len (fun _ => none)))) k' z' n lv (.ref N :: st)) : Wm V X nL N σ k z pc lv (.int i :: st) := by
  obtain ⟨d, rfl⟩ := d
  subst hk; subst hz; subst hN; subst hl
  intro H locs ls h1 h2 h3
  have hh := h1.1
  subst hh
  refine W.anew F.e F.b F.own (F.ts _ hcl) (va_AO.use hao) rfl d rfl hi hbytes (by rw [F.rm]; exact hc1) (by rw [F.rm]; exact hs1) fun cA kA comp f1 f2 f3 f4 => ?_
  obtain ⟨kA', comp', -, -, -, f5⟩ := (F.ku.1.2 ti _ ht).2
  have hcA : cA = V.2.1 ti := Option.some.inj (f1.symm.trans f5)
  subst hcA
  refine kk _ locs ls (h1.new (by rw [Array.size_push]) (fun q hq => by rw [Array.getElem?_push, if_neg (Nat.ne_of_lt hq)]) ?_) h2 h3
  show (H.push _)[H.size]? = some (vp_cell _ _)
  rw [Array.getElem?_push_size, vp_cell_q, arrV_new]
  rfl
-- Object.<init>, Math, arraycopy
theorem m_objInit (F : Fx V X y cc nL ret R) {index a : Nat} (d : DC cc pc 3 n (.invokespecial index)) (hlink : Cond.methodLink y.cls index objectInit ∈ tb) (hinst : Cond.instanceMethod objectInit ∈ tb) (hcode : Cond.code objectInit ⟨#[0xb1]⟩ 1 none ∈ tb) (hfr : 1 ≤ R.frames) (hlo : (st.map fun v => v.category).sum + 12 ≤ R.locals) (kk : Wm V X nL N σ k z n lv st) : Wm V X nL N σ k z pc lv (.ref a :: st) := by
  obtain ⟨d, rfl⟩ := d
  intro H locs ls h1 h2 h3
  refine W.objInit F.e F.b F.own (F.ts _ hlink) (F.ts _ hinst) (F.ts _ hcode) rfl (by rw [F.ml]; exact h3.1) rfl d (by rw [F.rm]; exact hfr) ?_ (kk H locs ls h1 h2 h3)
  rw [F.rm]
  show 2 * 0 + _ + 12 ≤ _
  omega
theorem m_min (F : Fx V X y cc nL ret R) {index : Nat} {x w : Int32} (d : DC cc pc 3 n (.invokestatic index)) (hlink : Cond.methodLink y.cls index Lib.Math.min.name ∈ tb) (hstat : Cond.static Lib.Math.min.name ∈ tb) (hini : Cond.initialized "java/lang/Math" ∈ tb) (hcode : Cond.code Lib.Math.min.name Lib.Math.min.code 2 (some .int) ∈ tb) (hfr : 1 ≤ R.frames) (hlo : (st.map fun v => v.category).sum + 13 ≤ R.locals) (hc : k ≤ R.cells) (hs : z ≤ R.slots) (kk : Wm V X nL N σ k z n lv (.int (if w < x then w else x) :: st)) : Wm V X nL N σ k z pc lv (.int w :: .int x :: st) := by
  obtain ⟨d, rfl⟩ := d
  exact fun H locs ls h1 h2 h3 => va_mmin F.e F.b (by rw [F.ml]; exact h3.1.symm) F.own (F.ts _ hlink) (F.ts _ hstat) (F.ts _ hini) (F.ts _ hcode) (by rw [F.rm]; exact hfr) (by rw [F.rm]; exact hlo) (by rw [F.rm]; exact hc) (by rw [F.rm]; exact hs) d (kk H locs ls h1 h2 h3)
theorem m_max (F : Fx V X y cc nL ret R) {index : Nat} {x w : Int32} (d : DC cc pc 3 n (.invokestatic index)) (hlink : Cond.methodLink y.cls index Lib.Math.max.name ∈ tb) (hstat : Cond.static Lib.Math.max.name ∈ tb) (hini : Cond.initialized "java/lang/Math" ∈ tb) (hcode : Cond.code Lib.Math.max.name Lib.Math.max.code 2 (some .int) ∈ tb) (hfr : 1 ≤ R.frames) (hlo : (st.map fun v => v.category).sum + 13 ≤ R.locals) (hc : k ≤ R.cells) (hs : z ≤ R.slots) (kk : Wm V X nL N σ k z n lv (.int (if x < w then w else x) :: st)) : Wm V X nL N σ k z pc lv (.int w :: .int x :: st) := by
  obtain ⟨d, rfl⟩ := d
  exact fun H locs ls h1 h2 h3 => va_mmax F.e F.b (by rw [F.ml]; exact h3.1.symm) F.own (F.ts _ hlink) (F.ts _ hstat) (F.ts _ hini) (F.ts _ hcode) (by rw [F.rm]; exact hfr) (by rw [F.rm]; exact hlo) (by rw [F.rm]; exact hc) (by rw [F.rm]; exact hs) d (kk H locs ls h1 h2 h3)
theorem nn_toInt {i : Int32} (h : ¬ i < 0) : i.toInt = (i.toNatClampNeg : Int) := by
  have h0 : (0 : Int) ≤ i.toInt := by simpa using Int32.le_iff_toInt_le.mp (Int32.not_lt.mp h)
  show i.toInt = ((i.toInt.toNat : Nat) : Int)
  omega
def AC (own : String) (index : Nat) : Prop := Cond.methodLink own index arraycopyName ∈ tb ∧ Cond.native arraycopyName ∈ tb ∧ Cond.static arraycopyName ∈ tb ∧ Cond.initialized "java/lang/System" ∈ tb
theorem m_copyI (F : Fx V X y cc nL ret R) {index a b na nb sp dp m : Nat} {f g g' : Nat → Int32} {isp idp im : Int32} {σ' : Mem} (d : DC cc pc 3 n (.invokestatic index)) (ac : AC y.cls index) (ha : σ a = some (aI V na f)) (hb : σ b = some (aI V nb g)) (h1 : ¬ isp < 0) (h2 : ¬ idp < 0) (h3 : ¬ im < 0) (e1 : isp.toNatClampNeg = sp) (e2 : idp.toNatClampNeg = dp) (e3 : im.toNatClampNeg = m) (h4 : sp + m ≤ na) (h5 : dp + m ≤ nb) (hfr : 1 ≤ R.frames) (hlo : (st.map fun v => v.category).sum + (nativeFrameWords "java/lang/System" "arraycopy" 5 + 11) ≤ R.locals) (hg : va_cpy f g sp dp m = g') (hσ : va_up σ b (some (aI V nb g')) = σ') (kk : Wm V X nL N σ' k z n lv st) : Wm V X nL N σ k z pc lv (.int im :: .int idp :: .ref b :: .int isp :: .ref a :: st) := by
  obtain ⟨d, rfl⟩ := d
  obtain ⟨w1, w2, w3, w4⟩ := ac
  subst hσ; subst hg; subst e1; subst e2; subst e3
  intro H locs ls hM hL hl T hT S
  have ca := hM.at ha
  have cb := hM.at hb
  change H[a]? = some (vp_cell _ _) at ca
  change H[b]? = some (vp_cell _ _) at cb
  rw [vp_cell_i] at ca cb
  obtain ⟨-, k0, hk0, m0, hkk⟩ := (F.ku.1.2 0 _ rfl).1 na (fun j => .int (f j))
  have rd : ∀ i, i < im.toNatClampNeg → (arrV (V.2.1 0) na (fun j => Value.int (f j))).slots.getD (isp.toNatClampNeg + i) .null = .int (f (isp.toNatClampNeg + i)) := fun i hi => by
    rw [Array.getD_eq_getD_getElem?, arrV_read _ _ (by omega)]; rfl
  obtain ⟨vm', S', step⟩ := S.arraycopy F.e F.own (F.ts _ w1) (F.ts _ w2) (F.ts _ w3) (F.ts _ w4) (cs := arrV (V.2.1 0) na (fun j => Value.int (f j))) (cd := arrV (V.2.1 0) nb (fun j => Value.int (g j))) (srcPos := isp) (destPos := idp) (n := im) (by rw [hT]; exact ca) (by rw [hT]; exact cb) (fun _ h => by cases h) (fun _ h => by cases h) (fun h => by cases h) (fun h => by cases h) hk0 hk0 hkk hkk (by rfl) h1 h2 h3
    (by rw [nn_toInt h1, nn_toInt h3, arrV_size]; omega) (by rw [nn_toInt h2, nn_toInt h3, arrV_size]; omega)
    (fun vm₁ _ i hi => ⟨by rw [rd i hi]; rfl, by rw [rd i hi]; exact trivial⟩)
    (g := F0 (x_m X) pc ls (.int im :: .int idp :: .ref b :: .int isp :: .ref a :: st)) rfl (by rw [F.ml]; exact hl.1) (rest := st) rfl (by rw [F.b]; exact d) (by rw [F.rm]; exact hfr) (by rw [F.rm]; show 2 * 0 + _ + _ ≤ _; omega)
  have hcp : copied (arrV (V.2.1 0) na (fun j => Value.int (f j))) (arrV (V.2.1 0) nb (fun j => Value.int (g j))) isp idp im = arrV (V.2.1 0) nb (fun j => Value.int (va_cpy f g isp.toNatClampNeg idp.toNatClampNeg im.toNatClampNeg j)) := va_copied (fun q => Value.int q) _ _ f g h4
  rw [hcp] at S' step
  have hlt : b < T.heap.size := by rw [hT]; exact (Array.getElem?_eq_some_iff.mp cb).1
  have hlt2 : b < (T.setVm vm').heap.size := hlt
  obtain ⟨t, t1, t2⟩ := kk ((T.setVm vm').setCell b (arrV (V.2.1 0) nb (fun j => Value.int (va_cpy f g isp.toNatClampNeg idp.toNatClampNeg im.toNatClampNeg j)))).heap _ ls
    (hM.put hb (by rw [size_setCell]; show T.heap.size = _; rw [hT]) (fun q hq => by rw [heapAt_setCell_ne _ (Ne.symm hq)]; show T.heap[q]? = _; rw [hT]) (show _ = some (vp_cell _ _) by rw [vp_cell_i]; exact heapAt_setCell_self _ hlt2))
    (fun q hq => by
      rcases List.mem_append.mp hq with h | h
      · exact hL q h
      · obtain ⟨u, -, hu⟩ := List.mem_map.mp h
        rw [← hu]
        exact (hM.lt hb).1) hl _ rfl S'
  exact ⟨t, step t t1, t2⟩
theorem m_copyJ (F : Fx V X y cc nL ret R) {index a b na nb sp dp m : Nat} {f g g' : Nat → Int64} {isp idp im : Int32} {σ' : Mem} (d : DC cc pc 3 n (.invokestatic index)) (ac : AC y.cls index) (ha : σ a = some (aJ V na f)) (hb : σ b = some (aJ V nb g)) (h1 : ¬ isp < 0) (h2 : ¬ idp < 0) (h3 : ¬ im < 0) (e1 : isp.toNatClampNeg = sp) (e2 : idp.toNatClampNeg = dp) (e3 : im.toNatClampNeg = m) (h4 : sp + m ≤ na) (h5 : dp + m ≤ nb) (hfr : 1 ≤ R.frames) (hlo : (st.map fun v => v.category).sum + (nativeFrameWords "java/lang/System" "arraycopy" 5 + 11) ≤ R.locals) (hg : va_cpy f g sp dp m = g') (hσ : va_up σ b (some (aJ V nb g')) = σ') (kk : Wm V X nL N σ' k z n lv st) : Wm V X nL N σ k z pc lv (.int im :: .int idp :: .ref b :: .int isp :: .ref a :: st) := by
  obtain ⟨d, rfl⟩ := d
  obtain ⟨w1, w2, w3, w4⟩ := ac
  subst hσ; subst hg; subst e1; subst e2; subst e3
  intro H locs ls hM hL hl T hT S
  have ca := hM.at ha
  have cb := hM.at hb
  change H[a]? = some (vp_cell _ _) at ca
  change H[b]? = some (vp_cell _ _) at cb
  rw [vp_cell_l] at ca cb
  obtain ⟨-, k0, hk0, m0, hkk⟩ := (F.ku.1.2 1 _ rfl).1 na (fun j => .long (f j))
  have rd : ∀ i, i < im.toNatClampNeg → (arrV (V.2.1 1) na (fun j => Value.long (f j))).slots.getD (isp.toNatClampNeg + i) .null = .long (f (isp.toNatClampNeg + i)) := fun i hi => by
    rw [Array.getD_eq_getD_getElem?, arrV_read _ _ (by omega)]; rfl
  obtain ⟨vm', S', step⟩ := S.arraycopy F.e F.own (F.ts _ w1) (F.ts _ w2) (F.ts _ w3) (F.ts _ w4) (cs := arrV (V.2.1 1) na (fun j => Value.long (f j))) (cd := arrV (V.2.1 1) nb (fun j => Value.long (g j))) (srcPos := isp) (destPos := idp) (n := im) (by rw [hT]; exact ca) (by rw [hT]; exact cb) (fun _ h => by cases h) (fun _ h => by cases h) (fun h => by cases h) (fun h => by cases h) hk0 hk0 hkk hkk (by rfl) h1 h2 h3
    (by rw [nn_toInt h1, nn_toInt h3, arrV_size]; omega) (by rw [nn_toInt h2, nn_toInt h3, arrV_size]; omega)
    (fun vm₁ _ i hi => ⟨by rw [rd i hi]; rfl, by rw [rd i hi]; exact trivial⟩)
    (g := F0 (x_m X) pc ls (.int im :: .int idp :: .ref b :: .int isp :: .ref a :: st)) rfl (by rw [F.ml]; exact hl.1) (rest := st) rfl (by rw [F.b]; exact d) (by rw [F.rm]; exact hfr) (by rw [F.rm]; show 2 * 0 + _ + _ ≤ _; omega)
  have hcp : copied (arrV (V.2.1 1) na (fun j => Value.long (f j))) (arrV (V.2.1 1) nb (fun j => Value.long (g j))) isp idp im = arrV (V.2.1 1) nb (fun j => Value.long (va_cpy f g isp.toNatClampNeg idp.toNatClampNeg im.toNatClampNeg j)) := va_copied (fun q => Value.long q) _ _ f g h4
  rw [hcp] at S' step
  have hlt : b < T.heap.size := by rw [hT]; exact (Array.getElem?_eq_some_iff.mp cb).1
  have hlt2 : b < (T.setVm vm').heap.size := hlt
  obtain ⟨t, t1, t2⟩ := kk ((T.setVm vm').setCell b (arrV (V.2.1 1) nb (fun j => Value.long (va_cpy f g isp.toNatClampNeg idp.toNatClampNeg im.toNatClampNeg j)))).heap _ ls
    (hM.put hb (by rw [size_setCell]; show T.heap.size = _; rw [hT]) (fun q hq => by rw [heapAt_setCell_ne _ (Ne.symm hq)]; show T.heap[q]? = _; rw [hT]) (show _ = some (vp_cell _ _) by rw [vp_cell_l]; exact heapAt_setCell_self _ hlt2))
    (fun q hq => by
      rcases List.mem_append.mp hq with h | h
      · exact hL q h
      · obtain ⟨u, -, hu⟩ := List.mem_map.mp h
        rw [← hu]
        exact (hM.lt hb).1) hl _ rfl S'
  exact ⟨t, step t t1, t2⟩
-- contracts
abbrev rmd (d mc ms : Nat) : Room := { frames := d, cells := mc, slots := ms, locals := 41 * d }
def Qm (V : VX) (Nf : Nat) (Post : Option Value → Mem → Prop) : State → Outcome → State → Prop := fun _ o t => ∃ (r : Option Value) (σ' : Mem), o = .returned r ∧ Post r σ' ∧ HM V Nf σ' t.heap
def Ct (l : Launch) (V : VX) (y : MethodName) (cc : ByteArray) (maxL : Nat) (ret : Option FieldType) (d mc ms N : Nat) (σ : Mem) (as : List Value) (Post : Option Value → Mem → Prop) : Prop :=
  Met l y (.code y cc maxL ret :: tb) (rmd d mc ms) (fun v U => v = as.toArray ∧ HM V N σ U.heap ∧ KU V U) (fun _ s o t => Qm V (N + mc) Post s o t) mc ms (fun q => V.2.2.size ≤ q)
def Rt (V : VX) (X : MX) (mc ms Nf : Nat) (Post : Option Value → Mem → Prop) : Prop := x_Q X = MQ (x_b X) (fun _ s o t => Qm V Nf Post s o t) (x_a X) (x_s X) mc ms (fun q => V.2.2.size ≤ q)
theorem Ct.of {l : Launch} {cc : ByteArray} {maxL d mc ms : Nat} {as : List Value} {Post : Option Value → Mem → Prop} (hy : plainName y.cls = true) (hle : (lg_sl as).length ≤ maxL) (lv0 : List (Nat × Value)) (hlv : lv_args 0 as = lv0)
    (body : ∀ X : MX, x_l X = l → Fx V X y cc maxL ret (rmd d mc ms) → Rt V X mc ms (N + mc) Post → Wm V X maxL N σ 0 0 0 lv0 []) : Ct l V y cc maxL ret d mc ms N σ as Post := by
  refine Met.ofW (cc := cc) (maxL := maxL) (ret := ret) hy rfl ?_
  intro p e s m args below meth c s₁ B hml hv
  obtain ⟨rfl, hM, hK⟩ := hv
  have hts := atoms_spec (ws := Cond.code y cc maxL ret :: tb) B.pre
  have h3 := lv_entry as (n := maxL) hle
  rw [lg_entry_eq]
  rw [hlv] at h3
  exact body ((p, l, e, rmd d mc ms, s, m, as.toArray, below, meth, c), MQ below (fun _ s o t => Qm V (N + mc) Post s o t) as.toArray s mc ms (fun q => V.2.2.size ≤ q)) rfl
    ⟨B.exec, B.bytes, hml, findClass_of_methodNamed B.named, fun w hw => hts w (List.mem_cons_of_mem _ hw), hK, B.returns, B.notSynchronized, (name_of_methodNamed B.named B.method).1, rfl⟩ rfl s.heap [] _ hM (fun _ h => absurd h List.not_mem_nil) h3
theorem Ct.weak {l : Launch} {cc : ByteArray} {maxL d mc ms : Nat} {as : List Value} {Post Post' : Option Value → Mem → Prop} (h : Ct l V y cc maxL ret d mc ms N σ as Post) (hp : ∀ r τ, Post r τ → Post' r τ) : Ct l V y cc maxL ret d mc ms N σ as Post' := by
  intro p e ha hc hk s m args below hf happ hP hK
  obtain ⟨k, o, h1, h2, h3, ⟨⟨r, τ, e1, e2, e3⟩, h5⟩⟩ := h p e ha hc hk s m args below hf happ hP hK
  exact ⟨k, o, h1, h2, h3, ⟨⟨r, τ, e1, hp _ _ e2, e3⟩, h5⟩⟩
section RET
variable {mc ms Nf : Nat} {Post : Option Value → Mem → Prop}
theorem m_iret (F : Fx V X y cc nL (some .int) R) (hQ : Rt V X mc ms Nf Post) {v : Int32} (d : DC cc pc 1 n .ireturn) (hp : Post (some (.int v)) σ) : Wm V X nL Nf σ mc ms pc lv [.int v] := by
  obtain ⟨d, rfl⟩ := d
  intro H locs ls h1 h2 h3
  rw [show x_Q X = _ from hQ]
  exact W.iret F.e F.b F.rt (fun t ht hW => ⟨_, σ, rfl, hp, by rw [ht]; exact h1⟩) h2 d F.lk
theorem m_zret (F : Fx V X y cc nL (some .boolean) R) (hQ : Rt V X mc ms Nf Post) {v : Int32} (d : DC cc pc 1 n .ireturn) (hn : narrow .boolean (.int v) = .int v) (hp : Post (some (.int v)) σ) : Wm V X nL Nf σ mc ms pc lv [.int v] := by
  obtain ⟨d, rfl⟩ := d
  intro H locs ls h1 h2 h3
  rw [show x_Q X = _ from hQ]
  exact W.zret F.e F.b F.rt hn (fun t ht hW => ⟨_, σ, rfl, hp, by rw [ht]; exact h1⟩) h2 d F.lk
theorem m_lret (F : Fx V X y cc nL (some .long) R) (hQ : Rt V X mc ms Nf Post) {v : Int64} (d : DC cc pc 1 n .lreturn) (hp : Post (some (.long v)) σ) : Wm V X nL Nf σ mc ms pc lv [.long v] := by
  obtain ⟨d, rfl⟩ := d
  intro H locs ls h1 h2 h3
  rw [show x_Q X = _ from hQ]
  exact W.lret F.e F.b F.rt (fun t ht hW => ⟨_, σ, rfl, hp, by rw [ht]; exact h1⟩) h2 d F.lk
theorem m_vret (F : Fx V X y cc nL none R) (hQ : Rt V X mc ms Nf Post) (d : DC cc pc 1 n .return_) (hp : Post none σ) : Wm V X nL Nf σ mc ms pc lv [] := by
  obtain ⟨d, rfl⟩ := d
  intro H locs ls h1 h2 h3
  rw [show x_Q X = _ from hQ]
  exact W.vret F.e F.b F.rt (fun t ht hW => ⟨_, σ, rfl, hp, by rw [ht]; exact h1⟩) h2 d F.lk
theorem m_aret {C : String} (F : Fx V X y cc nL (some (.object C)) R) (hQ : Rt V X mc ms Nf Post) {v : Value} (d : DC cc pc 1 n .areturn) (hv : v = .null ∨ ∃ a, v = .ref a) (hp : Post (some v) σ) : Wm V X nL Nf σ mc ms pc lv [v] := by
  obtain ⟨d, rfl⟩ := d
  intro H locs ls h1 h2 h3
  rw [show x_Q X = _ from hQ]
  exact W.aret F.e F.b F.rt (Or.inl ⟨_, rfl⟩) hv (fun t ht hW => ⟨_, σ, rfl, hp, by rw [ht]; exact h1⟩) h2 d F.lk
end RET
-- calls
section CALLS
variable {mc ms dd maxL cn k' z' N' : Nat} {Post : Option Value → Mem → Prop} {y2 : MethodName} {c2 : ByteArray} {r2 : Option FieldType} {As rest : List Value}
theorem m_ran {H : Heap} {locs : List Loc} {ls : Array Slot} (hr : va_Run (x_p X) (x_l X) (x_e X) (x_R X) (x_s X) (x_m X) (x_a X) (x_b X) (x_t X) (x_c X) H locs k z mc ms (F0 (x_m X) pc ls st) rest (fun s o t => Qm V (N + mc) Post s o t) (fun q => V.2.2.size ≤ q)) (hL : ∀ q ∈ locs, V.2.2.size ≤ q.base) (h3 : lv_has ls nL lv) (kk : ∀ r τ, Post r τ → Wm V X nL (N + mc) τ (k + mc) (z + ms) (pc + 3) lv (r.toList ++ rest)) : W (x_p X) (x_l X) (x_e X) (x_R X) (x_s X) (x_m X) (x_a X) (x_b X) (x_t X) (x_c X) H locs k z (x_Q X) (F0 (x_m X) pc ls st) := by
  intro T hT S
  obtain ⟨v, st₀, t, T', L, h0, S', hL', e1, e2, ⟨r, τ, hv, hp, hm⟩, step⟩ := hr T hT S
  cases hv
  obtain ⟨t2, a1, b1⟩ := kk v τ hp T'.heap (locs ++ L) ls (by rw [e1]; exact hm) (fun q hq => by
      rcases List.mem_append.mp hq with h | h
      · exact hL q h
      · exact hL' q h) h3 T' rfl S'
  exact ⟨t2, step t2 a1, b1⟩
def CB (y2 : MethodName) (c2 : ByteArray) (maxL : Nat) (r2 : Option FieldType) (cn : Nat) : Prop := Cond.code y2 c2 maxL r2 ∈ tb ∧ Cond.initialized y2.cls ∈ tb ∧ (y2.cls ≠ "java/lang/invoke/MethodHandle" ∧ y2.cls ≠ "java/lang/invoke/VarHandle" ∧ (parseMethodDescriptor y2.desc).map (fun d => d.parameters.length) = some cn)
theorem pc_blind {as : List Value} : FrameBlind (fun v U => v = as.toArray ∧ HM V N σ U.heap ∧ KU V U) := fun _ _ _ _ q => ⟨q.1, q.2.1, q.2.2.call⟩
theorem cond_tb (cb : CB y2 c2 maxL r2 cn) : ∀ w ∈ (Cond.code y2 c2 maxL r2 :: tb), w ∈ tb := fun w hw => (List.mem_cons.mp hw).elim (fun e => e ▸ cb.1) id
theorem m_callV (F : Fx V X y cc nL ret R) {index ci a : Nat} {fs : List Value} (d : DC cc pc 3 n (.invokevirtual index)) (hM : Ct (x_l X) V y2 c2 maxL r2 dd mc ms N σ (.ref a :: As) Post) (cb : CB y2 c2 maxL r2 cn) (hlink : Cond.methodLink y.cls index y2 ∈ tb) (hin : Cond.instanceMethod y2 ∈ tb) (hse : Cond.selects y2.cls y2 y2 ∈ tb) (ha : σ a = some (.inr (ci, fs))) (hci : (classes[ci]?).map (·.1) = some y2.cls) (hn : As.length = cn) (hst : st = As.reverse ++ .ref a :: rest) (hw : (rest.map fun v => v.category).sum ≤ 8) (hR : dd + 1 ≤ R.frames ∧ 8 + (maxL + 11) + 41 * dd ≤ R.locals) (hf : k + mc ≤ R.cells ∧ z + ms ≤ R.slots) (hk : k + mc = k') (hz : z + ms = z') (hN : N + mc = N') (kk : ∀ r τ, Post r τ → Wm V X nL N' τ k' z' n lv (r.toList ++ rest)) : Wm V X nL N σ k z pc lv st := by
  obtain ⟨d, rfl⟩ := d
  subst hk; subst hz; subst hN; subst hst
  intro H locs ls h1 h2 h3
  obtain ⟨q, hq, hq1⟩ := Option.map_eq_some_iff.mp hci
  have hrecv := va_recv F.ku.1 (h1.one ha) hq (q0 := 0) rfl
  rw [hq1] at hrecv
  have hb := callB_of (own := y.cls) (index := index) (y := y2) (bytes := c2) (maxL := maxL) (ret := r2) (ws := Cond.code y2 c2 maxL r2 :: tb) (rm := rmd dd mc ms) (mc := mc) (ms := ms) (R := x_R X) cn F.ts (tb_gi (cond_tb cb)) rfl rfl rfl (F.ts _ cb.2.1) (F.ts _ hlink) cb.2.2 (by rw [F.rm]; exact hR)
  refine m_ran (va_runV (C := y2.cls) (As := As) (rest := rest) ⟨F.e, F.b, F.ml, F.own, F.ts⟩ hM ⟨hb, F.ts _ hin, F.ts _ hse⟩ ⟨pc_blind, hrecv, fun U hU hW => ⟨rfl, by rw [hU]; exact h1, F.ku.warm hW⟩⟩ rfl hn h3.1 rfl (lv_room hw) d (by rw [F.rm]; exact hf)) h2 h3 kk
theorem m_callS (F : Fx V X y cc nL ret R) {index : Nat} (d : DC cc pc 3 n (.invokestatic index)) (hM : Ct (x_l X) V y2 c2 maxL r2 dd mc ms N σ As Post) (cb : CB y2 c2 maxL r2 cn) (hlink : Cond.methodLink y.cls index y2 ∈ tb) (hsta : Cond.static y2 ∈ tb) (hn : As.length = cn) (hst : st = As.reverse ++ rest) (hw : (rest.map fun v => v.category).sum ≤ 8) (hR : dd + 1 ≤ R.frames ∧ 8 + (maxL + 11) + 41 * dd ≤ R.locals) (hf : k + mc ≤ R.cells ∧ z + ms ≤ R.slots) (hk : k + mc = k') (hz : z + ms = z') (hN : N + mc = N') (kk : ∀ r τ, Post r τ → Wm V X nL N' τ k' z' n lv (r.toList ++ rest)) : Wm V X nL N σ k z pc lv st := by
  obtain ⟨d, rfl⟩ := d
  subst hk; subst hz; subst hN; subst hst
  intro H locs ls h1 h2 h3
  have hb := callB_of (own := y.cls) (index := index) (y := y2) (bytes := c2) (maxL := maxL) (ret := r2) (ws := Cond.code y2 c2 maxL r2 :: tb) (rm := rmd dd mc ms) (mc := mc) (ms := ms) (R := x_R X) cn F.ts (tb_gi (cond_tb cb)) rfl rfl rfl (F.ts _ cb.2.1) (F.ts _ hlink) cb.2.2 (by rw [F.rm]; exact hR)
  refine m_ran (va_runS (As := As) (rest := rest) ⟨F.e, F.b, F.ml, F.own, F.ts⟩ hM ⟨hb, F.ts _ hsta⟩ ⟨pc_blind, fun U hU hW => ⟨rfl, by rw [hU]; exact h1, F.ku.warm hW⟩⟩ rfl hn h3.1 rfl (lv_room hw) d (by rw [F.rm]; exact hf)) h2 h3 kk
theorem m_callI (F : Fx V X y cc nL ret R) {index a : Nat} (d : DC cc pc 3 n (.invokespecial index)) (hM : Ct (x_l X) V y2 c2 maxL none dd mc ms N σ (.ref a :: As) Post) (cb : CB y2 c2 maxL none cn) (hlink : Cond.methodLink y.cls index y2 ∈ tb) (hin : Cond.instanceMethod y2 ∈ tb) (hy1 : y2.name = "<init>") (hn : As.length = cn) (hst : st = As.reverse ++ .ref a :: rest) (hw : (rest.map fun v => v.category).sum ≤ 8) (hR : dd + 1 ≤ R.frames ∧ 8 + (maxL + 11) + 41 * dd ≤ R.locals) (hf : k + mc ≤ R.cells ∧ z + ms ≤ R.slots) (hk : k + mc = k') (hz : z + ms = z') (hN : N + mc = N') (kk : ∀ r τ, Post r τ → Wm V X nL N' τ k' z' n lv (r.toList ++ rest)) : Wm V X nL N σ k z pc lv st := by
  obtain ⟨d, rfl⟩ := d
  subst hk; subst hz; subst hN; subst hst
  intro H locs ls h1 h2 h3
  have hb := callB_of (own := y.cls) (index := index) (y := y2) (bytes := c2) (maxL := maxL) (ret := none) (ws := Cond.code y2 c2 maxL none :: tb) (rm := rmd dd mc ms) (mc := mc) (ms := ms) (R := x_R X) cn F.ts (tb_gi (cond_tb cb)) rfl rfl rfl (F.ts _ cb.2.1) (F.ts _ hlink) cb.2.2 (by rw [F.rm]; exact hR)
  refine m_ran (va_runI (b := a) (As := As) (rest := rest) ⟨F.e, F.b, F.ml, F.own, F.ts⟩ hM ⟨hb, hy1, F.ts _ hin⟩ ⟨pc_blind, fun U hU hW => ⟨rfl, by rw [hU]; exact h1, F.ku.warm hW⟩⟩ rfl hn h3.1 rfl (lv_room hw) d (by rw [F.rm]; exact hf)) h2 h3 kk
theorem m_callIN (F : Fx V X y cc nL ret R) {index a : Nat} (d : DC cc pc 3 n (.invokespecial index)) (hM : Ct (x_l X) V y2 c2 maxL none dd mc ms N σ (.ref a :: As) Post) (cb : CB y2 c2 maxL none cn) (hlink : Cond.methodLinkNest y.cls index y2 RX9 ∈ nestW) (hin : Cond.instanceMethod y2 ∈ tb) (hy1 : y2.name = "<init>") (hn : As.length = cn) (hst : st = As.reverse ++ .ref a :: rest) (hw : (rest.map fun v => v.category).sum ≤ 8) (hR : dd + 1 ≤ R.frames ∧ 8 + (maxL + 11) + 41 * dd ≤ R.locals) (hf : k + mc ≤ R.cells ∧ z + ms ≤ R.slots) (hk : k + mc = k') (hz : z + ms = z') (hN : N + mc = N') (kk : ∀ r τ, Post r τ → Wm V X nL N' τ k' z' n lv (r.toList ++ rest)) : Wm V X nL N σ k z pc lv st := by
  obtain ⟨d, rfl⟩ := d
  subst hk; subst hz; subst hN; subst hst
  intro H locs ls h1 h2 h3
  have hb := va_cnB (own := y.cls) (host := RX9) (index := index) (y := y2) (bytes := c2) (maxL := maxL) (ret := none) (ws := Cond.code y2 c2 maxL none :: tb) (rm := rmd dd mc ms) (mc := mc) (ms := ms) (R := x_R X) cn F.ts (tb_gi (cond_tb cb)) rfl rfl rfl (F.ku.2.1 _ hlink) (F.ts _ cb.2.1) cb.2.2 (by rw [F.rm]; exact hR)
  refine m_ran (va_runIN (b := a) (As := As) (rest := rest) ⟨F.e, F.b, F.ml, F.own, F.ts⟩ hM ⟨hb, hy1, F.ts _ hin⟩ ⟨pc_blind, fun U hU hW => ⟨rfl, by rw [hU]; exact h1, F.ku.warm hW⟩⟩ rfl hn h3.1 rfl (lv_room hw) d (by rw [F.rm]; exact hf)) h2 h3 kk
end CALLS
end ROWS
-- reading through writes
theorem ru_ne {σ : Mem} {a b : Nat} {e x : Option va_E} (h : b ≠ a) (hs : σ b = x) : (va_up σ a e) b = x := (va_up_ne σ e h).trans hs
theorem ru_eq {σ : Mem} {a : Nat} {e : va_E} : (va_up σ a (some e)) a = some e := va_up_self σ a (some e)
