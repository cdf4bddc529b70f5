theorem ao_prim {args : Array Value} {s : State} {ty : FieldType} (h : (Cond.arrayClass ty).before args s = true) : ∃ c : ClassId, ArrOfT s c ty ∧ s.vm.findClass ("[" ++ ty.toString) = some c := by
  obtain ⟨c, k, comp, h1, h2, h3⟩ := Cond.arrayClass_spec h
  exact ⟨c, fun n z => ⟨fun k h => (by cases h), k, h2, comp, h3⟩, h1⟩
theorem ao_ref {args : Array Value} {s : State} {C : String} (h : (Cond.arrayOver (.object C)).before args s = true) : ∃ c : ClassId, ArrOfT s c (.object C) ∧ va_RA s c (.object C) := by
  obtain ⟨comp, c, k, h1, h2, h3, h4, h5⟩ := Cond.arrayOver_spec h
  exact ⟨c, fun n z => ⟨fun k h => (by cases h), k, h3, comp, h4⟩, ⟨k, comp, h3, h4, h1, h5⟩⟩
theorem ku_kinds {args : Array Value} {s : State} (hts : ∀ w ∈ lw_tbl, w.before args s = true) (hgv : (Jvm.Cond.and given_1 narrow_1).before args s = true) : ∃ kk : List Nat, (∀ i, i < 9 → va_O "LeaseLedger$Kind" (kk.getD i 0) (fun q => s.heap.size ≤ q) s s.heap ∧ va_OF "LeaseLedger$Kind" "code" "I" (.int (kcL.getD i 0)) (kk.getD i 0) (fun q => s.heap.size ≤ q) s s.heap ∧ va_OF "java/lang/Enum" "ordinal" "I" (.int (nI i)) (kk.getD i 0) (fun q => s.heap.size ≤ q) s s.heap) ∧ (∃ t, va_Z RX9 "KINDS" "[LLeaseLedger$Kind;" (.ref t) (fun q => s.heap.size ≤ q) s s.heap ∧ va_T (.object "LeaseLedger$Kind") t 9 (fun j => .ref (kk.getD j 0)) (fun q => s.heap.size ≤ q) s s.heap) := by
  have hs := flat_of_before _ hgv
  have hA : ∀ a : Nat, a < s.heap.size → ¬ (fun q => s.heap.size ≤ q) a := fun a h1 h2 => absurd h1 (Nat.not_lt.mpr h2)
  have x0 : (Cond.exactly (.static "LeaseLedger$Kind" "LEASE" "LLeaseLedger$Kind;") "LeaseLedger$Kind").before args s = true := hs _ (by decide +kernel)
  obtain ⟨k0, -, -, -, v0, -⟩ := Cond.exactly_spec x0
  have c0 : (Cond.eq (.field (.static "LeaseLedger$Kind" "LEASE" "LLeaseLedger$Kind;") "LeaseLedger$Kind" "code" "I") (.int 407948448)).before args s = true := hs _ (by decide +kernel)
  have n0 : (Cond.eq (.field (.static "LeaseLedger$Kind" "LEASE" "LLeaseLedger$Kind;") "java/lang/Enum" "ordinal" "I") (.int 0)).before args s = true := hs _ (by decide +kernel)
  have e0 : (Cond.eq (.elem (.static "LeaseLedger" "KINDS" "[LLeaseLedger$Kind;") (.int 0)) (.static "LeaseLedger$Kind" "LEASE" "LLeaseLedger$Kind;")).before args s = true := hs _ (by decide +kernel)
  have x1 : (Cond.exactly (.static "LeaseLedger$Kind" "PAY" "LLeaseLedger$Kind;") "LeaseLedger$Kind").before args s = true := hs _ (by decide +kernel)
  obtain ⟨k1, -, -, -, v1, -⟩ := Cond.exactly_spec x1
  have c1 : (Cond.eq (.field (.static "LeaseLedger$Kind" "PAY" "LLeaseLedger$Kind;") "LeaseLedger$Kind" "code" "I") (.int 538738688)).before args s = true := hs _ (by decide +kernel)
  have n1 : (Cond.eq (.field (.static "LeaseLedger$Kind" "PAY" "LLeaseLedger$Kind;") "java/lang/Enum" "ordinal" "I") (.int 1)).before args s = true := hs _ (by decide +kernel)
  have e1 : (Cond.eq (.elem (.static "LeaseLedger" "KINDS" "[LLeaseLedger$Kind;") (.int 1)) (.static "LeaseLedger$Kind" "PAY" "LLeaseLedger$Kind;")).before args s = true := hs _ (by decide +kernel)
  have x2 : (Cond.exactly (.static "LeaseLedger$Kind" "EARLY" "LLeaseLedger$Kind;") "LeaseLedger$Kind").before args s = true := hs _ (by decide +kernel)
  obtain ⟨k2, -, -, -, v2, -⟩ := Cond.exactly_spec x2
  have c2 : (Cond.eq (.field (.static "LeaseLedger$Kind" "EARLY" "LLeaseLedger$Kind;") "LeaseLedger$Kind" "code" "I") (.int 169423648)).before args s = true := hs _ (by decide +kernel)
  have n2 : (Cond.eq (.field (.static "LeaseLedger$Kind" "EARLY" "LLeaseLedger$Kind;") "java/lang/Enum" "ordinal" "I") (.int 2)).before args s = true := hs _ (by decide +kernel)
  have e2 : (Cond.eq (.elem (.static "LeaseLedger" "KINDS" "[LLeaseLedger$Kind;") (.int 2)) (.static "LeaseLedger$Kind" "EARLY" "LLeaseLedger$Kind;")).before args s = true := hs _ (by decide +kernel)
  have x3 : (Cond.exactly (.static "LeaseLedger$Kind" "FAIR" "LLeaseLedger$Kind;") "LeaseLedger$Kind").before args s = true := hs _ (by decide +kernel)
  obtain ⟨k3, -, -, -, v3, -⟩ := Cond.exactly_spec x3
  have c3 : (Cond.eq (.field (.static "LeaseLedger$Kind" "FAIR" "LLeaseLedger$Kind;") "LeaseLedger$Kind" "code" "I") (.int 202688512)).before args s = true := hs _ (by decide +kernel)
  have n3 : (Cond.eq (.field (.static "LeaseLedger$Kind" "FAIR" "LLeaseLedger$Kind;") "java/lang/Enum" "ordinal" "I") (.int 3)).before args s = true := hs _ (by decide +kernel)
  have e3 : (Cond.eq (.elem (.static "LeaseLedger" "KINDS" "[LLeaseLedger$Kind;") (.int 3)) (.static "LeaseLedger$Kind" "FAIR" "LLeaseLedger$Kind;")).before args s = true := hs _ (by decide +kernel)
  have x4 : (Cond.exactly (.static "LeaseLedger$Kind" "FEE" "LLeaseLedger$Kind;") "LeaseLedger$Kind").before args s = true := hs _ (by decide +kernel)
  obtain ⟨k4, -, -, -, v4, -⟩ := Cond.exactly_spec x4
  have c4 : (Cond.eq (.field (.static "LeaseLedger$Kind" "FEE" "LLeaseLedger$Kind;") "LeaseLedger$Kind" "code" "I") (.int 206733312)).before args s = true := hs _ (by decide +kernel)
  have n4 : (Cond.eq (.field (.static "LeaseLedger$Kind" "FEE" "LLeaseLedger$Kind;") "java/lang/Enum" "ordinal" "I") (.int 4)).before args s = true := hs _ (by decide +kernel)
  have e4 : (Cond.eq (.elem (.static "LeaseLedger" "KINDS" "[LLeaseLedger$Kind;") (.int 4)) (.static "LeaseLedger$Kind" "FEE" "LLeaseLedger$Kind;")).before args s = true := hs _ (by decide +kernel)
  have x5 : (Cond.exactly (.static "LeaseLedger$Kind" "TIED" "LLeaseLedger$Kind;") "LeaseLedger$Kind").before args s = true := hs _ (by decide +kernel)
  obtain ⟨k5, -, -, -, v5, -⟩ := Cond.exactly_spec x5
  have c5 : (Cond.eq (.field (.static "LeaseLedger$Kind" "TIED" "LLeaseLedger$Kind;") "LeaseLedger$Kind" "code" "I") (.int 680693760)).before args s = true := hs _ (by decide +kernel)
  have n5 : (Cond.eq (.field (.static "LeaseLedger$Kind" "TIED" "LLeaseLedger$Kind;") "java/lang/Enum" "ordinal" "I") (.int 5)).before args s = true := hs _ (by decide +kernel)
  have e5 : (Cond.eq (.elem (.static "LeaseLedger" "KINDS" "[LLeaseLedger$Kind;") (.int 5)) (.static "LeaseLedger$Kind" "TIED" "LLeaseLedger$Kind;")).before args s = true := hs _ (by decide +kernel)
  have x6 : (Cond.exactly (.static "LeaseLedger$Kind" "INDEX" "LLeaseLedger$Kind;") "LeaseLedger$Kind").before args s = true := hs _ (by decide +kernel)
  obtain ⟨k6, -, -, -, v6, -⟩ := Cond.exactly_spec x6
  have c6 : (Cond.eq (.field (.static "LeaseLedger$Kind" "INDEX" "LLeaseLedger$Kind;") "LeaseLedger$Kind" "code" "I") (.int 316806912)).before args s = true := hs _ (by decide +kernel)
  have n6 : (Cond.eq (.field (.static "LeaseLedger$Kind" "INDEX" "LLeaseLedger$Kind;") "java/lang/Enum" "ordinal" "I") (.int 6)).before args s = true := hs _ (by decide +kernel)
  have e6 : (Cond.eq (.elem (.static "LeaseLedger" "KINDS" "[LLeaseLedger$Kind;") (.int 6)) (.static "LeaseLedger$Kind" "INDEX" "LLeaseLedger$Kind;")).before args s = true := hs _ (by decide +kernel)
  have x7 : (Cond.exactly (.static "LeaseLedger$Kind" "OPTION" "LLeaseLedger$Kind;") "LeaseLedger$Kind").before args s = true := hs _ (by decide +kernel)
  obtain ⟨k7, -, -, -, v7, -⟩ := Cond.exactly_spec x7
  have c7 : (Cond.eq (.field (.static "LeaseLedger$Kind" "OPTION" "LLeaseLedger$Kind;") "LeaseLedger$Kind" "code" "I") (.int 520758766)).before args s = true := hs _ (by decide +kernel)
  have n7 : (Cond.eq (.field (.static "LeaseLedger$Kind" "OPTION" "LLeaseLedger$Kind;") "java/lang/Enum" "ordinal" "I") (.int 7)).before args s = true := hs _ (by decide +kernel)
  have e7 : (Cond.eq (.elem (.static "LeaseLedger" "KINDS" "[LLeaseLedger$Kind;") (.int 7)) (.static "LeaseLedger$Kind" "OPTION" "LLeaseLedger$Kind;")).before args s = true := hs _ (by decide +kernel)
  have x8 : (Cond.exactly (.static "LeaseLedger$Kind" "SEED" "LLeaseLedger$Kind;") "LeaseLedger$Kind").before args s = true := hs _ (by decide +kernel)
  obtain ⟨k8, -, -, -, v8, -⟩ := Cond.exactly_spec x8
  have c8 : (Cond.eq (.field (.static "LeaseLedger$Kind" "SEED" "LLeaseLedger$Kind;") "LeaseLedger$Kind" "code" "I") (.int 642945024)).before args s = true := hs _ (by decide +kernel)
  have n8 : (Cond.eq (.field (.static "LeaseLedger$Kind" "SEED" "LLeaseLedger$Kind;") "java/lang/Enum" "ordinal" "I") (.int 8)).before args s = true := hs _ (by decide +kernel)
  have e8 : (Cond.eq (.elem (.static "LeaseLedger" "KINDS" "[LLeaseLedger$Kind;") (.int 8)) (.static "LeaseLedger$Kind" "SEED" "LLeaseLedger$Kind;")).before args s = true := hs _ (by decide +kernel)
  refine ⟨[k0, k1, k2, k3, k4, k5, k6, k7, k8], fun i hi => ?_, ?_⟩
  · rcases (show i = 0 ∨ i = 1 ∨ i = 2 ∨ i = 3 ∨ i = 4 ∨ i = 5 ∨ i = 6 ∨ i = 7 ∨ i = 8 by omega) with rfl | rfl | rfl | rfl | rfl | rfl | rfl | rfl | rfl
    · exact ⟨va_Oof x0 v0 hA, vk_OFof v0 (va_eqt c0) hA, vk_OFof v0 (va_eqt n0) hA⟩
    · exact ⟨va_Oof x1 v1 hA, vk_OFof v1 (va_eqt c1) hA, vk_OFof v1 (va_eqt n1) hA⟩
    · exact ⟨va_Oof x2 v2 hA, vk_OFof v2 (va_eqt c2) hA, vk_OFof v2 (va_eqt n2) hA⟩
    · exact ⟨va_Oof x3 v3 hA, vk_OFof v3 (va_eqt c3) hA, vk_OFof v3 (va_eqt n3) hA⟩
    · exact ⟨va_Oof x4 v4 hA, vk_OFof v4 (va_eqt c4) hA, vk_OFof v4 (va_eqt n4) hA⟩
    · exact ⟨va_Oof x5 v5 hA, vk_OFof v5 (va_eqt c5) hA, vk_OFof v5 (va_eqt n5) hA⟩
    · exact ⟨va_Oof x6 v6 hA, vk_OFof v6 (va_eqt c6) hA, vk_OFof v6 (va_eqt n6) hA⟩
    · exact ⟨va_Oof x7 v7 hA, vk_OFof v7 (va_eqt c7) hA, vk_OFof v7 (va_eqt n7) hA⟩
    · exact ⟨va_Oof x8 v8 hA, vk_OFof v8 (va_eqt c8) hA, vk_OFof v8 (va_eqt n8) hA⟩
  · have ha : (Cond.arrayOf (.static "LeaseLedger" "KINDS" "[LLeaseLedger$Kind;") (.object "LeaseLedger$Kind")).before args s = true := hs _ (by decide +kernel)
    have hl : (Cond.eq (.length (.static "LeaseLedger" "KINDS" "[LLeaseLedger$Kind;")) (.int 9)).before args s = true := hs _ (by decide +kernel)
    obtain ⟨t, h1, h2⟩ := va_Tof (f := fun j => .ref (([k0, k1, k2, k3, k4, k5, k6, k7, k8] : List Nat).getD j 0)) (N := 9) (A := (fun q => s.heap.size ≤ q)) (by decide) ha (va_eqt hl) (fun j hj => by
      rcases (show j = 0 ∨ j = 1 ∨ j = 2 ∨ j = 3 ∨ j = 4 ∨ j = 5 ∨ j = 6 ∨ j = 7 ∨ j = 8 by omega) with rfl | rfl | rfl | rfl | rfl | rfl | rfl | rfl | rfl
      · exact va_eqv e0 v0
      · exact va_eqv e1 v1
      · exact va_eqv e2 v2
      · exact va_eqv e3 v3
      · exact va_eqv e4 v4
      · exact va_eqv e5 v5
      · exact va_eqv e6 v6
      · exact va_eqv e7 v7
      · exact va_eqv e8 v8) hA
    exact ⟨t, va_Zof (hts _ (List.mem_append_right _ (List.mem_of_getElem? (i := 431) (by decide +kernel)))) (hts _ (List.mem_append_right _ (List.mem_of_getElem? (i := 1) (by decide +kernel)))) h1 hA, h2⟩
theorem ku_map {args : Array Value} {s : State} (hts : ∀ w ∈ lw_tbl, w.before args s = true) (hgv : (Jvm.Cond.and given_1 narrow_1).before args s = true) : ∃ t, va_Z "LeaseLedger$1" "$SwitchMap$LeaseLedger$Kind" "[I" (.ref t) (fun q => s.heap.size ≤ q) s s.heap ∧ va_T .int t 9 (fun j => .int (smL.getD j 0)) (fun q => s.heap.size ≤ q) s s.heap := by
  have hs := flat_of_before _ hgv
  have hA : ∀ a : Nat, a < s.heap.size → ¬ (fun q => s.heap.size ≤ q) a := fun a h1 h2 => absurd h1 (Nat.not_lt.mpr h2)
  have ha : (Cond.arrayOf (.static "LeaseLedger$1" "$SwitchMap$LeaseLedger$Kind" "[I") .int).before args s = true := hs _ (by decide +kernel)
  have hl : (Cond.eq (.length (.static "LeaseLedger$1" "$SwitchMap$LeaseLedger$Kind" "[I")) (.int 9)).before args s = true := hs _ (by decide +kernel)
  obtain ⟨t, h1, h2⟩ := va_Tof (f := fun j => .int (smL.getD j 0)) (N := 9) (A := (fun q => s.heap.size ≤ q)) (by decide) ha (va_eqt hl) (fun j hj => by
    rcases (show j = 0 ∨ j = 1 ∨ j = 2 ∨ j = 3 ∨ j = 4 ∨ j = 5 ∨ j = 6 ∨ j = 7 ∨ j = 8 by omega) with rfl | rfl | rfl | rfl | rfl | rfl | rfl | rfl | rfl
    · exact va_eqt (hs (Cond.eq (.elem (.static "LeaseLedger$1" "$SwitchMap$LeaseLedger$Kind" "[I") (.int 0)) (.int 1)) (by decide +kernel))
    · exact va_eqt (hs (Cond.eq (.elem (.static "LeaseLedger$1" "$SwitchMap$LeaseLedger$Kind" "[I") (.int 1)) (.int 2)) (by decide +kernel))
    · exact va_eqt (hs (Cond.eq (.elem (.static "LeaseLedger$1" "$SwitchMap$LeaseLedger$Kind" "[I") (.int 2)) (.int 3)) (by decide +kernel))
    · exact va_eqt (hs (Cond.eq (.elem (.static "LeaseLedger$1" "$SwitchMap$LeaseLedger$Kind" "[I") (.int 3)) (.int 4)) (by decide +kernel))
    · exact va_eqt (hs (Cond.eq (.elem (.static "LeaseLedger$1" "$SwitchMap$LeaseLedger$Kind" "[I") (.int 4)) (.int 5)) (by decide +kernel))
    · exact va_eqt (hs (Cond.eq (.elem (.static "LeaseLedger$1" "$SwitchMap$LeaseLedger$Kind" "[I") (.int 5)) (.int 6)) (by decide +kernel))
    · exact va_eqt (hs (Cond.eq (.elem (.static "LeaseLedger$1" "$SwitchMap$LeaseLedger$Kind" "[I") (.int 6)) (.int 7)) (by decide +kernel))
    · exact va_eqt (hs (Cond.eq (.elem (.static "LeaseLedger$1" "$SwitchMap$LeaseLedger$Kind" "[I") (.int 7)) (.int 8)) (by decide +kernel))
    · exact va_eqt (hs (Cond.eq (.elem (.static "LeaseLedger$1" "$SwitchMap$LeaseLedger$Kind" "[I") (.int 8)) (.int 0)) (by decide +kernel))) hA
  exact ⟨t, va_Zof (hts _ (List.mem_append_right _ (List.mem_of_getElem? (i := 441) (by decide +kernel)))) (hts _ (List.mem_append_right _ (List.mem_of_getElem? (i := 12) (by decide +kernel)))) h1 hA, h2⟩
theorem ku_text {args : Array Value} {s : State} (hts : ∀ w ∈ lw_tbl, w.before args s = true) (hgv : (Jvm.Cond.and given_1 narrow_1).before args s = true) : ∃ a v, vk_R RX10 130 "lease pay early fair fee tied index option seed " a s ∧ va_O "java/lang/String" a (fun q => s.heap.size ≤ q) s s.heap ∧ va_OF "java/lang/String" "coder" "B" (.int 0) a (fun q => s.heap.size ≤ q) s s.heap ∧ va_OF "java/lang/String" "value" "[B" (.ref v) a (fun q => s.heap.size ≤ q) s s.heap ∧ va_T .byte v 48 (fun j => .int (wbL.getD j 0)) (fun q => s.heap.size ≤ q) s s.heap := by
  have hs := flat_of_before _ hgv
  have hA : ∀ a : Nat, a < s.heap.size → ¬ (fun q => s.heap.size ≤ q) a := fun a h1 h2 => absurd h1 (Nat.not_lt.mpr h2)
  have hx : (Cond.exactly (.string "LeaseLedgerModel" 130) "java/lang/String").before args s = true := hs _ (by decide +kernel)
  obtain ⟨a, -, -, -, hv, -⟩ := Cond.exactly_spec hx
  have hc : (Cond.eq (.field (.string "LeaseLedgerModel" 130) "java/lang/String" "coder" "B") (.int 0)).before args s = true := hs _ (by decide +kernel)
  have ha : (Cond.arrayOf (.field (.string "LeaseLedgerModel" 130) "java/lang/String" "value" "[B") .byte).before args s = true := hs _ (by decide +kernel)
  have hl : (Cond.eq (.length (.field (.string "LeaseLedgerModel" 130) "java/lang/String" "value" "[B")) (.int 48)).before args s = true := hs _ (by decide +kernel)
  obtain ⟨v, h1, h2⟩ := va_Tof (f := fun j => .int (wbL.getD j 0)) (N := 48) (A := (fun q => s.heap.size ≤ q)) (by decide) ha (va_eqt hl) (fun j hj => by
    rcases (show j = 0 ∨ j = 1 ∨ j = 2 ∨ j = 3 ∨ j = 4 ∨ j = 5 ∨ j = 6 ∨ j = 7 ∨ j = 8 ∨ j = 9 ∨ j = 10 ∨ j = 11 ∨ j = 12 ∨ j = 13 ∨ j = 14 ∨ j = 15 ∨ j = 16 ∨ j = 17 ∨ j = 18 ∨ j = 19 ∨ j = 20 ∨ j = 21 ∨ j = 22 ∨ j = 23 ∨ j = 24 ∨ j = 25 ∨ j = 26 ∨ j = 27 ∨ j = 28 ∨ j = 29 ∨ j = 30 ∨ j = 31 ∨ j = 32 ∨ j = 33 ∨ j = 34 ∨ j = 35 ∨ j = 36 ∨ j = 37 ∨ j = 38 ∨ j = 39 ∨ j = 40 ∨ j = 41 ∨ j = 42 ∨ j = 43 ∨ j = 44 ∨ j = 45 ∨ j = 46 ∨ j = 47 by omega) with rfl | rfl | rfl | rfl | rfl | rfl | rfl | rfl | rfl | rfl | rfl | rfl | rfl | rfl | rfl | rfl | rfl | rfl | rfl | rfl | rfl | rfl | rfl | rfl | rfl | rfl | rfl | rfl | rfl | rfl | rfl | rfl | rfl | rfl | rfl | rfl | rfl | rfl | rfl | rfl | rfl | rfl | rfl | rfl | rfl | rfl | rfl | rfl
    · exact va_eqt (hs (Cond.eq (.elem (.field (.string "LeaseLedgerModel" 130) "java/lang/String" "value" "[B") (.int 0)) (.int 108)) (by decide +kernel))
    · exact va_eqt (hs (Cond.eq (.elem (.field (.string "LeaseLedgerModel" 130) "java/lang/String" "value" "[B") (.int 1)) (.int 101)) (by decide +kernel))
    · exact va_eqt (hs (Cond.eq (.elem (.field (.string "LeaseLedgerModel" 130) "java/lang/String" "value" "[B") (.int 2)) (.int 97)) (by decide +kernel))
    · exact va_eqt (hs (Cond.eq (.elem (.field (.string "LeaseLedgerModel" 130) "java/lang/String" "value" "[B") (.int 3)) (.int 115)) (by decide +kernel))
    · exact va_eqt (hs (Cond.eq (.elem (.field (.string "LeaseLedgerModel" 130) "java/lang/String" "value" "[B") (.int 4)) (.int 101)) (by decide +kernel))
    · exact va_eqt (hs (Cond.eq (.elem (.field (.string "LeaseLedgerModel" 130) "java/lang/String" "value" "[B") (.int 5)) (.int 32)) (by decide +kernel))
    · exact va_eqt (hs (Cond.eq (.elem (.field (.string "LeaseLedgerModel" 130) "java/lang/String" "value" "[B") (.int 6)) (.int 112)) (by decide +kernel))
    · exact va_eqt (hs (Cond.eq (.elem (.field (.string "LeaseLedgerModel" 130) "java/lang/String" "value" "[B") (.int 7)) (.int 97)) (by decide +kernel))
    · exact va_eqt (hs (Cond.eq (.elem (.field (.string "LeaseLedgerModel" 130) "java/lang/String" "value" "[B") (.int 8)) (.int 121)) (by decide +kernel))
    · exact va_eqt (hs (Cond.eq (.elem (.field (.string "LeaseLedgerModel" 130) "java/lang/String" "value" "[B") (.int 9)) (.int 32)) (by decide +kernel))
    · exact va_eqt (hs (Cond.eq (.elem (.field (.string "LeaseLedgerModel" 130) "java/lang/String" "value" "[B") (.int 10)) (.int 101)) (by decide +kernel))
    · exact va_eqt (hs (Cond.eq (.elem (.field (.string "LeaseLedgerModel" 130) "java/lang/String" "value" "[B") (.int 11)) (.int 97)) (by decide +kernel))
    · exact va_eqt (hs (Cond.eq (.elem (.field (.string "LeaseLedgerModel" 130) "java/lang/String" "value" "[B") (.int 12)) (.int 114)) (by decide +kernel))
    · exact va_eqt (hs (Cond.eq (.elem (.field (.string "LeaseLedgerModel" 130) "java/lang/String" "value" "[B") (.int 13)) (.int 108)) (by decide +kernel))
    · exact va_eqt (hs (Cond.eq (.elem (.field (.string "LeaseLedgerModel" 130) "java/lang/String" "value" "[B") (.int 14)) (.int 121)) (by decide +kernel))
    · exact va_eqt (hs (Cond.eq (.elem (.field (.string "LeaseLedgerModel" 130) "java/lang/String" "value" "[B") (.int 15)) (.int 32)) (by decide +kernel))
    · exact va_eqt (hs (Cond.eq (.elem (.field (.string "LeaseLedgerModel" 130) "java/lang/String" "value" "[B") (.int 16)) (.int 102)) (by decide +kernel))
    · exact va_eqt (hs (Cond.eq (.elem (.field (.string "LeaseLedgerModel" 130) "java/lang/String" "value" "[B") (.int 17)) (.int 97)) (by decide +kernel))
    · exact va_eqt (hs (Cond.eq (.elem (.field (.string "LeaseLedgerModel" 130) "java/lang/String" "value" "[B") (.int 18)) (.int 105)) (by decide +kernel))
    · exact va_eqt (hs (Cond.eq (.elem (.field (.string "LeaseLedgerModel" 130) "java/lang/String" "value" "[B") (.int 19)) (.int 114)) (by decide +kernel))
    · exact va_eqt (hs (Cond.eq (.elem (.field (.string "LeaseLedgerModel" 130) "java/lang/String" "value" "[B") (.int 20)) (.int 32)) (by decide +kernel))
    · exact va_eqt (hs (Cond.eq (.elem (.field (.string "LeaseLedgerModel" 130) "java/lang/String" "value" "[B") (.int 21)) (.int 102)) (by decide +kernel))
    · exact va_eqt (hs (Cond.eq (.elem (.field (.string "LeaseLedgerModel" 130) "java/lang/String" "value" "[B") (.int 22)) (.int 101)) (by decide +kernel))
    · exact va_eqt (hs (Cond.eq (.elem (.field (.string "LeaseLedgerModel" 130) "java/lang/String" "value" "[B") (.int 23)) (.int 101)) (by decide +kernel))
    · exact va_eqt (hs (Cond.eq (.elem (.field (.string "LeaseLedgerModel" 130) "java/lang/String" "value" "[B") (.int 24)) (.int 32)) (by decide +kernel))
    · exact va_eqt (hs (Cond.eq (.elem (.field (.string "LeaseLedgerModel" 130) "java/lang/String" "value" "[B") (.int 25)) (.int 116)) (by decide +kernel))
    · exact va_eqt (hs (Cond.eq (.elem (.field (.string "LeaseLedgerModel" 130) "java/lang/String" "value" "[B") (.int 26)) (.int 105)) (by decide +kernel))
    · exact va_eqt (hs (Cond.eq (.elem (.field (.string "LeaseLedgerModel" 130) "java/lang/String" "value" "[B") (.int 27)) (.int 101)) (by decide +kernel))
    · exact va_eqt (hs (Cond.eq (.elem (.field (.string "LeaseLedgerModel" 130) "java/lang/String" "value" "[B") (.int 28)) (.int 100)) (by decide +kernel))
    · exact va_eqt (hs (Cond.eq (.elem (.field (.string "LeaseLedgerModel" 130) "java/lang/String" "value" "[B") (.int 29)) (.int 32)) (by decide +kernel))
    · exact va_eqt (hs (Cond.eq (.elem (.field (.string "LeaseLedgerModel" 130) "java/lang/String" "value" "[B") (.int 30)) (.int 105)) (by decide +kernel))
    · exact va_eqt (hs (Cond.eq (.elem (.field (.string "LeaseLedgerModel" 130) "java/lang/String" "value" "[B") (.int 31)) (.int 110)) (by decide +kernel))
    · exact va_eqt (hs (Cond.eq (.elem (.field (.string "LeaseLedgerModel" 130) "java/lang/String" "value" "[B") (.int 32)) (.int 100)) (by decide +kernel))
    · exact va_eqt (hs (Cond.eq (.elem (.field (.string "LeaseLedgerModel" 130) "java/lang/String" "value" "[B") (.int 33)) (.int 101)) (by decide +kernel))
    · exact va_eqt (hs (Cond.eq (.elem (.field (.string "LeaseLedgerModel" 130) "java/lang/String" "value" "[B") (.int 34)) (.int 120)) (by decide +kernel))
    · exact va_eqt (hs (Cond.eq (.elem (.field (.string "LeaseLedgerModel" 130) "java/lang/String" "value" "[B") (.int 35)) (.int 32)) (by decide +kernel))
    · exact va_eqt (hs (Cond.eq (.elem (.field (.string "LeaseLedgerModel" 130) "java/lang/String" "value" "[B") (.int 36)) (.int 111)) (by decide +kernel))
    · exact va_eqt (hs (Cond.eq (.elem (.field (.string "LeaseLedgerModel" 130) "java/lang/String" "value" "[B") (.int 37)) (.int 112)) (by decide +kernel))
    · exact va_eqt (hs (Cond.eq (.elem (.field (.string "LeaseLedgerModel" 130) "java/lang/String" "value" "[B") (.int 38)) (.int 116)) (by decide +kernel))
    · exact va_eqt (hs (Cond.eq (.elem (.field (.string "LeaseLedgerModel" 130) "java/lang/String" "value" "[B") (.int 39)) (.int 105)) (by decide +kernel))
    · exact va_eqt (hs (Cond.eq (.elem (.field (.string "LeaseLedgerModel" 130) "java/lang/String" "value" "[B") (.int 40)) (.int 111)) (by decide +kernel))
    · exact va_eqt (hs (Cond.eq (.elem (.field (.string "LeaseLedgerModel" 130) "java/lang/String" "value" "[B") (.int 41)) (.int 110)) (by decide +kernel))
    · exact va_eqt (hs (Cond.eq (.elem (.field (.string "LeaseLedgerModel" 130) "java/lang/String" "value" "[B") (.int 42)) (.int 32)) (by decide +kernel))
    · exact va_eqt (hs (Cond.eq (.elem (.field (.string "LeaseLedgerModel" 130) "java/lang/String" "value" "[B") (.int 43)) (.int 115)) (by decide +kernel))
    · exact va_eqt (hs (Cond.eq (.elem (.field (.string "LeaseLedgerModel" 130) "java/lang/String" "value" "[B") (.int 44)) (.int 101)) (by decide +kernel))
    · exact va_eqt (hs (Cond.eq (.elem (.field (.string "LeaseLedgerModel" 130) "java/lang/String" "value" "[B") (.int 45)) (.int 101)) (by decide +kernel))
    · exact va_eqt (hs (Cond.eq (.elem (.field (.string "LeaseLedgerModel" 130) "java/lang/String" "value" "[B") (.int 46)) (.int 100)) (by decide +kernel))
    · exact va_eqt (hs (Cond.eq (.elem (.field (.string "LeaseLedgerModel" 130) "java/lang/String" "value" "[B") (.int 47)) (.int 32)) (by decide +kernel))) hA
  exact ⟨a, v, vk_R.of (hts (.stringRef RX10 130 "lease pay early fair fee tied index option seed ") (List.mem_append_right _ (List.mem_of_getElem? (i := 1600) (by decide +kernel)))) hv, va_Oof hx hv hA, vk_OFof hv (va_eqt hc) hA, vk_OFof hv h1 hA, h2⟩
theorem ku_rest {args : Array Value} {s : State} (hts : ∀ w ∈ lw_tbl, w.before args s = true) (hgv : (Jvm.Cond.and given_1 narrow_1).before args s = true) : (∃ a, vk_R RX9 109 "no such lease" a s) ∧ (∃ a, vk_R RX9 146 "no such what" a s) ∧ vx_Zq Bundle.tN "UNASSIGNED_STACK" Bundle.steD (fun q => s.heap.size ≤ q) s s.heap ∧ vx_Zq Bundle.tN "SUPPRESSED_SENTINEL" Bundle.listD (fun q => s.heap.size ≤ q) s s.heap ∧ va_Nc eNS eIX s ∧ (∀ w ∈ TWw, va_Nw w s) ∧ va_Z "java/lang/String" "COMPACT_STRINGS" "Z" (.int 1) (fun q => s.heap.size ≤ q) s s.heap ∧ va_Zq "jdk/internal/util/Preconditions" "SIOOBE_FORMATTER" "Ljava/util/function/BiFunction;" (fun q => s.heap.size ≤ q) s s.heap := by
  have hs := flat_of_before _ hgv
  have hA : ∀ a : Nat, a < s.heap.size → ¬ (fun q => s.heap.size ≤ q) a := fun a h1 h2 => absurd h1 (Nat.not_lt.mpr h2)
  have x1 : (Cond.exactly (.string "LeaseLedger" 109) "java/lang/String").before args s = true := hs _ (by decide +kernel)
  have x2 : (Cond.exactly (.string "LeaseLedger" 146) "java/lang/String").before args s = true := hs _ (by decide +kernel)
  have hu : (Cond.isRef (.static Bundle.tN "UNASSIGNED_STACK" Bundle.steD)).before args s = true := hs _ (by decide +kernel)
  have hn : (Cond.isRef (.static Bundle.tN "SUPPRESSED_SENTINEL" Bundle.listD)).before args s = true := hs _ (by decide +kernel)
  have hc : (Cond.not (.castable eNS eIX)).before args s = true := hs _ (by decide +kernel)
  have hz : (Cond.eq (.static "java/lang/String" "COMPACT_STRINGS" "Z") (.int 1)).before args s = true := hs _ (by decide +kernel)
  have hf : (Cond.isRef (.static "jdk/internal/util/Preconditions" "SIOOBE_FORMATTER" "Ljava/util/function/BiFunction;")).before args s = true := hs _ (by decide +kernel)
  obtain ⟨a1, -, -, -, v1, -⟩ := Cond.exactly_spec x1
  obtain ⟨a2, -, -, -, v2, -⟩ := Cond.exactly_spec x2
  refine ⟨⟨a1, vk_R.of (hts (.stringRef RX9 109 "no such lease") (List.mem_append_right _ (List.mem_of_getElem? (i := 1390) (by decide +kernel)))) v1⟩, ⟨a2, vk_R.of (hts (.stringRef RX9 146 "no such what") (List.mem_append_right _ (List.mem_of_getElem? (i := 1403) (by decide +kernel)))) v2⟩, vx_Zqof (hts _ (List.mem_append_right _ (List.mem_of_getElem? (i := 530) (by decide +kernel)))) (hts _ (List.mem_append_right _ (List.mem_of_getElem? (i := 13) (by decide +kernel)))) hu hA, vx_Zqof (hts _ (List.mem_append_right _ (List.mem_of_getElem? (i := 532) (by decide +kernel)))) (hts _ (List.mem_append_right _ (List.mem_of_getElem? (i := 13) (by decide +kernel)))) hn hA, va_Nc.of hc, ?_, va_Zof (hts _ (List.mem_append_right _ (List.mem_of_getElem? (i := 557) (by decide +kernel)))) (hts _ (List.mem_append_right _ (List.mem_of_getElem? (i := 20) (by decide +kernel)))) (va_eqt hz) hA, va_Zqof (hts _ (List.mem_append_right _ (List.mem_of_getElem? (i := 639) (by decide +kernel)))) (hts _ (List.mem_append_right _ (List.mem_of_getElem? (i := 24) (by decide +kernel)))) hf hA⟩
  intro w hw
  simp only [TWw, List.mem_cons, List.not_mem_nil, or_false] at hw
  rcases hw with rfl | rfl | rfl | rfl | rfl
  · exact va_Nw.of rfl (hts _ (List.mem_append_right _ (List.mem_of_getElem? (i := 1383) (by decide +kernel))))
  · exact va_Nw.of rfl (hts _ (List.mem_append_right _ (List.mem_of_getElem? (i := 1396) (by decide +kernel))))
  · exact va_Nw.of rfl (hts _ (List.mem_append_right _ (List.mem_of_getElem? (i := 507) (by decide +kernel))))
  · exact va_Nw.of rfl (hts _ (List.mem_append_right _ (List.mem_of_getElem? (i := 509) (by decide +kernel))))
  · exact va_Nw.of rfl (hts _ (List.mem_append_right _ (List.mem_of_getElem? (i := 511) (by decide +kernel))))
theorem ku_start {args : Array Value} {s : State} (hts : ∀ w ∈ lw_tbl, w.before args s = true) (hgv : (Jvm.Cond.and given_1 narrow_1).before args s = true) : ∃ V : VX, V.2.2 = s.heap ∧ KU V s := by
  have htb : ∀ w ∈ tb, w.before args s = true := fun w hw => hts w (List.mem_filter.mp hw).1
  obtain ⟨c0, i0, hk0⟩ := u_known (C := RX1) (T := TX1) (N := 2) (n := 2) htb uw_0 (hts (.instantiable RX1 2) (List.mem_append_right _ (List.mem_of_getElem? (i := 69) (by decide +kernel))))
  obtain ⟨c1, i1, hk1⟩ := u_known (C := RX2) (T := TX2) (N := 13) (n := 13) htb uw_1 (hts (.instantiable RX2 13) (List.mem_append_right _ (List.mem_of_getElem? (i := 38) (by decide +kernel))))
  obtain ⟨c2, i2, hk2⟩ := u_known (C := RX3) (T := TX3) (N := 3) (n := 3) htb uw_2 (hts (.instantiable RX3 3) (List.mem_append_right _ (List.mem_of_getElem? (i := 48) (by decide +kernel))))
  obtain ⟨c3, i3, hk3⟩ := u_known (C := RX5) (T := TX5) (N := 18) (n := 18) htb uw_3 (hts (.instantiable RX5 18) (List.mem_append_right _ (List.mem_of_getElem? (i := 83) (by decide +kernel))))
  obtain ⟨c4, i4, hk4⟩ := u_known (C := RX6) (T := TX6) (N := 4) (n := 4) htb uw_4 (hts (.instantiable RX6 4) (List.mem_append_right _ (List.mem_of_getElem? (i := 197) (by decide +kernel))))
  obtain ⟨c5, i5, hk5⟩ := u_known (C := RX7) (T := TX7) (N := 13) (n := 13) htb uw_5 (hts (.instantiable RX7 13) (List.mem_append_right _ (List.mem_of_getElem? (i := 279) (by decide +kernel))))
  obtain ⟨c6, i6, hk6⟩ := u_known (C := RX8) (T := TX8) (N := 3) (n := 3) htb uw_6 (hts (.instantiable RX8 3) (List.mem_append_right _ (List.mem_of_getElem? (i := 91) (by decide +kernel))))
  obtain ⟨c7, i7, hk7⟩ := u_known (C := RX9) (T := TX9) (N := 13) (n := 13) htb uw_7 (hts (.instantiable RX9 13) (List.mem_append_right _ (List.mem_of_getElem? (i := 30) (by decide +kernel))))
  obtain ⟨c8, i8, hk8⟩ := u_known (C := RX10) (T := TX10) (N := 37) (n := 37) htb uw_8 (hts (.instantiable RX10 37) (List.mem_append_right _ (List.mem_of_getElem? (i := 1411) (by decide +kernel))))
  obtain ⟨a0, ha0, hr0⟩ := ao_prim (ty := .int) (hts _ (List.mem_append_right _ (List.mem_of_getElem? (i := 66) (by decide +kernel))))
  obtain ⟨a1, ha1, hr1⟩ := ao_prim (ty := .long) (hts _ (List.mem_append_right _ (List.mem_of_getElem? (i := 67) (by decide +kernel))))
  obtain ⟨a2, ha2, hr2⟩ := ao_prim (ty := .byte) (hts _ (List.mem_append_right _ (List.mem_of_getElem? (i := 65) (by decide +kernel))))
  obtain ⟨a3, ha3, hr3⟩ := ao_prim (ty := .boolean) (hts _ (List.mem_append_right _ (List.mem_of_getElem? (i := 1572) (by decide +kernel))))
  have hw4 : (Cond.arrayOver (.object RX5)).before args s = true := hts _ (List.mem_append_right _ (List.mem_of_getElem? (i := 44) (by decide +kernel)))
  obtain ⟨a4, ha4, hr4⟩ := ao_ref hw4
  have hw5 : (Cond.arrayOver (.object RX6)).before args s = true := hts _ (List.mem_append_right _ (List.mem_of_getElem? (i := 46) (by decide +kernel)))
  obtain ⟨a5, ha5, hr5⟩ := ao_ref hw5
  have hw6 : (Cond.arrayOver (.object RX2)).before args s = true := hts _ (List.mem_append_right _ (List.mem_of_getElem? (i := 327) (by decide +kernel)))
  obtain ⟨a6, ha6, hr6⟩ := ao_ref hw6
  obtain ⟨kk, hkinds, t0, z0, z1⟩ := ku_kinds hts hgv
  obtain ⟨t1, y0, y1⟩ := ku_map hts hgv
  obtain ⟨t4, t5, w0, w1, w2, w3, w4⟩ := ku_text hts hgv
  obtain ⟨⟨t2, r2⟩, ⟨t3, r3⟩, r4, r5, r6, r7, r8, r9⟩ := ku_rest hts hgv
  refine ⟨((fun k => if k = 0 then c0 else if k = 1 then c1 else if k = 2 then c2 else if k = 3 then c3 else if k = 4 then c4 else if k = 5 then c5 else if k = 6 then c6 else if k = 7 then c7 else c8, fun k => if k = 0 then i0 else if k = 1 then i1 else if k = 2 then i2 else if k = 3 then i3 else if k = 4 then i4 else if k = 5 then i5 else if k = 6 then i6 else if k = 7 then i7 else if k = 8 then i8 else if k = 100 then (fun i => kk.getD i 0) else (fun j => ([t0, t1, t2, t3, t4, t5] : List Nat).getD j 0)), fun k => if k = 0 then a0 else if k = 1 then a1 else if k = 2 then a2 else if k = 3 then a3 else if k = 4 then a4 else if k = 5 then a5 else a6, s.heap), rfl, ⟨?_, ?_⟩, ?_, va_AO.of hw4, va_AO.of hw5, va_AO.of hw6, ⟨r2, r3, w0⟩, ⟨r4, r5, r6⟩, r7, ⟨z0, z1⟩, ⟨y0, y1⟩, hkinds, w1, w2, w3, w4, r8, r9⟩
  · intro k q hq
    match k, hq with
    | 0, hq => cases hq; exact hk0
    | 1, hq => cases hq; exact hk1
    | 2, hq => cases hq; exact hk2
    | 3, hq => cases hq; exact hk3
    | 4, hq => cases hq; exact hk4
    | 5, hq => cases hq; exact hk5
    | 6, hq => cases hq; exact hk6
    | 7, hq => cases hq; exact hk7
    | 8, hq => cases hq; exact hk8
    | k + 9, hq => simp [classes] at hq
  · intro k q hq
    match k, hq with
    | 0, hq => cases hq; exact ⟨ha0, hr0⟩
    | 1, hq => cases hq; exact ⟨ha1, hr1⟩
    | 2, hq => cases hq; exact ⟨ha2, hr2⟩
    | 3, hq => cases hq; exact ⟨ha3, hr3⟩
    | 4, hq => cases hq; exact ⟨ha4, hr4⟩
    | 5, hq => cases hq; exact ⟨ha5, hr5⟩
    | 6, hq => cases hq; exact ⟨ha6, hr6⟩
    | k + 7, hq => simp at hq
  · intro w hw
    simp only [nestW, List.mem_cons, List.not_mem_nil, or_false] at hw
    rcases hw with rfl | rfl | rfl | rfl | rfl | rfl | rfl | rfl | rfl
    · exact va_Nw.of rfl (hts _ (List.mem_append_right _ (List.mem_of_getElem? (i := 49) (by decide +kernel))))
    · exact va_Nw.of rfl (hts _ (List.mem_append_right _ (List.mem_of_getElem? (i := 70) (by decide +kernel))))
    · exact va_Nw.of rfl (hts _ (List.mem_append_right _ (List.mem_of_getElem? (i := 84) (by decide +kernel))))
    · exact va_Nw.of rfl (hts _ (List.mem_append_right _ (List.mem_of_getElem? (i := 89) (by decide +kernel))))
    · exact va_Nw.of rfl (hts _ (List.mem_append_right _ (List.mem_of_getElem? (i := 92) (by decide +kernel))))
    · exact va_Nw.of rfl (hts _ (List.mem_append_right _ (List.mem_of_getElem? (i := 97) (by decide +kernel))))
    · exact va_Nw.of rfl (hts _ (List.mem_append_right _ (List.mem_of_getElem? (i := 198) (by decide +kernel))))
    · exact va_Nw.of rfl (hts _ (List.mem_append_right _ (List.mem_of_getElem? (i := 329) (by decide +kernel))))
    · exact va_Nw.of rfl (hts _ (List.mem_append_right _ (List.mem_of_getElem? (i := 430) (by decide +kernel))))
