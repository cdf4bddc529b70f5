theorem arrV_cong {c : ClassId} {n : Nat} {f g : Nat → Value} (h : ∀ j, j < n → f j = g j) : arrV c n f = arrV c n g := by
  unfold arrV
  congr 1
  congr 1
  funext j
  exact h j.val j.isLt
theorem reI {V : VX} {X : MX} {nL N k z pc : Nat} {σ : Mem} {lv : List (Nat × Value)} {st : List Value} {a n : Nat} {f g : Nat → Int32} (hg : ∀ j, j < n → f j = g j) (h : Wm V X nL N (va_up σ a (some (aI V n g))) k z pc lv st) : Wm V X nL N (va_up σ a (some (aI V n f))) k z pc lv st := by
  intro H locs ls h1 h2 h3
  refine h H locs ls ⟨h1.1, h1.2.1, h1.2.2.1, fun b e hb => ?_⟩ h2 h3
  by_cases hba : b = a
  · subst hba
    rw [va_up_self] at hb
    cases hb
    have h4 := h1.2.2.2 b _ (va_up_self _ _ _)
    refine ⟨h4.1, ?_⟩
    have h5 : H[b]? = some (vp_cell _ _) := h4.2
    show H[b]? = some (vp_cell _ _)
    rw [h5, vp_cell_i, vp_cell_i, arrV_cong (fun j hj => by rw [hg j hj])]
  · rw [va_up_ne _ _ hba] at hb
    exact h1.2.2.2 b e (by rw [va_up_ne _ _ hba]; exact hb)
theorem reJ {V : VX} {X : MX} {nL N k z pc : Nat} {σ : Mem} {lv : List (Nat × Value)} {st : List Value} {a n : Nat} {f g : Nat → Int64} (hg : ∀ j, j < n → f j = g j) (h : Wm V X nL N (va_up σ a (some (aJ V n g))) k z pc lv st) : Wm V X nL N (va_up σ a (some (aJ V n f))) k z pc lv st := by
  intro H locs ls h1 h2 h3
  refine h H locs ls ⟨h1.1, h1.2.1, h1.2.2.1, fun b e hb => ?_⟩ h2 h3
  by_cases hba : b = a
  · subst hba
    rw [va_up_self] at hb
    cases hb
    have h4 := h1.2.2.2 b _ (va_up_self _ _ _)
    refine ⟨h4.1, ?_⟩
    have h5 : H[b]? = some (vp_cell _ _) := h4.2
    show H[b]? = some (vp_cell _ _)
    rw [h5, vp_cell_l, vp_cell_l, arrV_cong (fun j hj => by rw [hg j hj])]
  · rw [va_up_ne _ _ hba] at hb
    exact h1.2.2.2 b e (by rw [va_up_ne _ _ hba]; exact hb)
def fillI (f : Nat → Int32) (v : Int32) (lo i : Nat) : Nat → Int32 := fun j => if lo ≤ j ∧ j < i then v else f j
def fillJ (f : Nat → Int64) (v : Int64) (lo i : Nat) : Nat → Int64 := fun j => if lo ≤ j ∧ j < i then v else f j
theorem fillI_upd {f : Nat → Int32} {v : Int32} {lo i : Nat} (h : lo ≤ i) : upd (fillI f v lo i) i v = fillI f v lo (i + 1) := by
  funext j
  simp only [upd, fillI]
  by_cases h1 : j = i
  · subst h1; rw [if_pos rfl, if_pos ⟨h, Nat.lt_succ_self _⟩]
  · rw [if_neg h1]
    by_cases h2 : lo ≤ j ∧ j < i
    · rw [if_pos h2, if_pos ⟨h2.1, by omega⟩]
    · rw [if_neg h2, if_neg (by omega)]
theorem fillJ_upd {f : Nat → Int64} {v : Int64} {lo i : Nat} (h : lo ≤ i) : vp_updL (fillJ f v lo i) i v = fillJ f v lo (i + 1) := by
  funext j
  simp only [vp_updL, fillJ]
  by_cases h1 : j = i
  · subst h1; rw [if_pos rfl, if_pos ⟨h, Nat.lt_succ_self _⟩]
  · rw [if_neg h1]
    by_cases h2 : lo ≤ j ∧ j < i
    · rw [if_pos h2, if_pos ⟨h2.1, by omega⟩]
    · rw [if_neg h2, if_neg (by omega)]
theorem fillI_0 {f : Nat → Int32} {v : Int32} {lo : Nat} : fillI f v lo lo = f := by
  funext j; simp only [fillI]; rw [if_neg (by omega)]
theorem fillJ_0 {f : Nat → Int64} {v : Int64} {lo : Nat} : fillJ f v lo lo = f := by
  funext j; simp only [fillJ]; rw [if_neg (by omega)]
theorem up_self {σ : Mem} {a : Nat} {e : va_E} (h : σ a = some e) : σ = va_up σ a (some e) := by
  funext q
  by_cases hq : q = a
  · subst hq; rw [va_up_self]; exact h
  · rw [va_up_ne _ _ hq]
abbrev cJ7_fill_53178 : ByteArray := prog_35_method_103_code
def yJ7_fill_53178 : MethodName := ⟨RJ7, "fill", "([II)V"⟩
abbrev cJ7_fill_d0a16 : ByteArray := prog_35_method_101_code
def yJ7_fill_d0a16 : MethodName := ⟨RJ7, "fill", "([JJ)V"⟩
theorem e_J7_fill_53178_5 : DC cJ7_fill_53178 5 1 6 (.iload_n 2) := ⟨by decide +kernel, rfl⟩
theorem e_J7_fill_53178_6 : DC cJ7_fill_53178 6 1 7 (.iload_n 3) := ⟨by decide +kernel, rfl⟩
theorem e_J7_fill_53178_7 : DJ cJ7_fill_53178 7 20 10 (.if_icmp .ge) := DJ.mk 13 (by decide +kernel) (by decide) rfl
theorem e_J7_fill_53178_20 : DC cJ7_fill_53178 20 1 21 (.return_) := ⟨by decide +kernel, rfl⟩
theorem e_J7_fill_53178_10 : DC cJ7_fill_53178 10 1 11 (.aload_n 0) := ⟨by decide +kernel, rfl⟩
theorem e_J7_fill_53178_11 : DC cJ7_fill_53178 11 1 12 (.iload_n 2) := ⟨by decide +kernel, rfl⟩
theorem e_J7_fill_53178_12 : DC cJ7_fill_53178 12 1 13 (.iload_n 1) := ⟨by decide +kernel, rfl⟩
theorem e_J7_fill_53178_13 : DC cJ7_fill_53178 13 1 14 (.iastore) := ⟨by decide +kernel, rfl⟩
theorem e_J7_fill_53178_14 : DC cJ7_fill_53178 14 3 17 (.iinc 2 1) := ⟨by decide +kernel, rfl⟩
theorem e_J7_fill_53178_17 : DJ cJ7_fill_53178 17 5 20 .goto := DJ.mk (-12) (by decide +kernel) (by decide) rfl
theorem e_J7_fill_53178_0 : DC cJ7_fill_53178 0 1 1 (.iconst 0) := ⟨by decide +kernel, rfl⟩
theorem e_J7_fill_53178_1 : DC cJ7_fill_53178 1 1 2 (.istore_n 2) := ⟨by decide +kernel, rfl⟩
theorem e_J7_fill_53178_2 : DC cJ7_fill_53178 2 1 3 (.aload_n 0) := ⟨by decide +kernel, rfl⟩
theorem e_J7_fill_53178_3 : DC cJ7_fill_53178 3 1 4 (.arraylength) := ⟨by decide +kernel, rfl⟩
theorem e_J7_fill_53178_4 : DC cJ7_fill_53178 4 1 5 (.istore_n 3) := ⟨by decide +kernel, rfl⟩
theorem e_J7_fill_d0a16_6 : DC cJ7_fill_d0a16 6 1 7 (.iload_n 3) := ⟨by decide +kernel, rfl⟩
theorem e_J7_fill_d0a16_7 : DC cJ7_fill_d0a16 7 2 9 (.iload 4) := ⟨by decide +kernel, rfl⟩
theorem e_J7_fill_d0a16_9 : DJ cJ7_fill_d0a16 9 22 12 (.if_icmp .ge) := DJ.mk 13 (by decide +kernel) (by decide) rfl
theorem e_J7_fill_d0a16_22 : DC cJ7_fill_d0a16 22 1 23 (.return_) := ⟨by decide +kernel, rfl⟩
theorem e_J7_fill_d0a16_12 : DC cJ7_fill_d0a16 12 1 13 (.aload_n 0) := ⟨by decide +kernel, rfl⟩
theorem e_J7_fill_d0a16_13 : DC cJ7_fill_d0a16 13 1 14 (.iload_n 3) := ⟨by decide +kernel, rfl⟩
theorem e_J7_fill_d0a16_14 : DC cJ7_fill_d0a16 14 1 15 (.lload_n 1) := ⟨by decide +kernel, rfl⟩
theorem e_J7_fill_d0a16_15 : DC cJ7_fill_d0a16 15 1 16 (.lastore) := ⟨by decide +kernel, rfl⟩
theorem e_J7_fill_d0a16_16 : DC cJ7_fill_d0a16 16 3 19 (.iinc 3 1) := ⟨by decide +kernel, rfl⟩
theorem e_J7_fill_d0a16_19 : DJ cJ7_fill_d0a16 19 6 22 .goto := DJ.mk (-13) (by decide +kernel) (by decide) rfl
theorem e_J7_fill_d0a16_0 : DC cJ7_fill_d0a16 0 1 1 (.iconst 0) := ⟨by decide +kernel, rfl⟩
theorem e_J7_fill_d0a16_1 : DC cJ7_fill_d0a16 1 1 2 (.istore_n 3) := ⟨by decide +kernel, rfl⟩
theorem e_J7_fill_d0a16_2 : DC cJ7_fill_d0a16 2 1 3 (.aload_n 0) := ⟨by decide +kernel, rfl⟩
theorem e_J7_fill_d0a16_3 : DC cJ7_fill_d0a16 3 1 4 (.arraylength) := ⟨by decide +kernel, rfl⟩
theorem e_J7_fill_d0a16_4 : DC cJ7_fill_d0a16 4 2 6 (.istore 4) := ⟨by decide +kernel, rfl⟩
theorem lp_fillI {V : VX} {X : MX} {N : Nat} {σ : Mem} {Post : Option Value → Mem → Prop} (F : Fx V X yJ7_fill_53178 cJ7_fill_53178 4 none (rmd 0 0 0)) (hQ : Rt V X 0 0 N Post) {a len : Nat} {f : Nat → Int32} {v : Int32} (hlen : len < 2 ^ 31) (hp : Post none (va_up σ a (some (aI V len (fillI f v 0 len))))) : ∀ n i : Nat, i ≤ len → len - i < n → Wm V X 4 N (va_up σ a (some (aI V len (fillI f v 0 i)))) 0 0 5 [(2, .int (nI i)), (3, .int (nI len)), (0, .ref a), (1, .int v)] [] := by
  intro n
  induction n with
  | zero => intro i h1 h2; exact absurd h2 (by omega)
  | succ n ih =>
    intro i h1 h2
    refine m_iload_n F rfl e_J7_fill_53178_5 ?_
    refine m_iload_n F rfl e_J7_fill_53178_6 ?_
    refine m_icmp_ge F e_J7_fill_53178_7 (fun q7 => ?_) (fun q7 => ?_)
    · have c7 : i ≥ len := (nI_leI (a := len) (b := i) (by omega) (by omega)).mp q7
      have hi : i = len := by omega
      subst hi
      exact m_vret F hQ e_J7_fill_53178_20 (hp)
    · have c7 : i < len := by have hh := mt (nI_leI (a := len) (b := i) (by omega) (by omega)).mpr q7; omega
      refine m_aload_n F rfl e_J7_fill_53178_10 ?_
      refine m_iload_n F rfl e_J7_fill_53178_11 ?_
      refine m_iload_n F rfl e_J7_fill_53178_12 ?_
      refine m_iast F (j := i) e_J7_fill_53178_13 ru_eq (nI_clamp (by omega)) (vp_in_nI (by omega) (by omega)) rfl (bx_uu _ _ _ _) ?_
      refine m_iinc F (v := nI (i + 1)) (lv' := [(2, .int (nI (i + 1))), (3, .int (nI len)), (0, .ref a), (1, .int v)]) e_J7_fill_53178_14 rfl (nI_add i 1) (by decide) rfl ?_
      refine m_goto F e_J7_fill_53178_17 ?_
      refine Wm.memE (congrArg (fun g => va_up σ a (some (aI V len g))) (fillI_upd (by omega))) ?_
      exact ih (i + 1) (by omega) (by omega)
set_option maxRecDepth 20000 in
theorem k_fillI (l : Launch) (V : VX) (N : Nat) (σ : Mem) (a len : Nat) (f : Nat → Int32) (v : Int32) (hlen : len < 2 ^ 31) (h0 : σ a = some (aI V len f)) : Ct l V yJ7_fill_53178 cJ7_fill_53178 4 none 0 0 0 N σ [.ref a, .int v] (fun r τ => r = none ∧ τ = va_up σ a (some (aI V len (fillI f v 0 len)))) := by
  refine Ct.of (by decide) (Nat.le_of_ble_eq_true rfl) [(0, .ref a), (1, .int v)] rfl (fun X hX F hQ => ?_)
  refine m_iconst F (v := 0) (by decide) e_J7_fill_53178_0 ?_
  refine m_istore_n F (lv' := [(2, .int 0), (0, .ref a), (1, .int v)]) e_J7_fill_53178_1 (by decide) rfl ?_
  refine m_aload_n F rfl e_J7_fill_53178_2 ?_
  refine m_alen F e_J7_fill_53178_3 h0 rfl (v := nI len) rfl ?_
  refine m_istore_n F (lv' := [(3, .int (nI len)), (2, .int 0), (0, .ref a), (1, .int v)]) e_J7_fill_53178_4 (by decide) rfl ?_
  refine Wm.lvsub (lv' := [(2, .int 0), (3, .int (nI len)), (0, .ref a), (1, .int v)]) ?_ [1, 0, 2, 3] rfl
  refine Wm.memE (up_self h0) ?_
  refine Wm.memE (congrArg (fun g => va_up σ a (some (aI V len g))) (fillI_0 (lo := 0) (v := v)).symm) ?_
  exact lp_fillI F hQ hlen ⟨rfl, rfl⟩ (len + 1) 0 (by omega) (by omega)
theorem lp_fillJ {V : VX} {X : MX} {N : Nat} {σ : Mem} {Post : Option Value → Mem → Prop} (F : Fx V X yJ7_fill_d0a16 cJ7_fill_d0a16 5 none (rmd 0 0 0)) (hQ : Rt V X 0 0 N Post) {a len : Nat} {f : Nat → Int64} {v : Int64} (hlen : len < 2 ^ 31) (hp : Post none (va_up σ a (some (aJ V len (fillJ f v 0 len))))) : ∀ n i : Nat, i ≤ len → len - i < n → Wm V X 5 N (va_up σ a (some (aJ V len (fillJ f v 0 i)))) 0 0 6 [(3, .int (nI i)), (4, .int (nI len)), (0, .ref a), (1, .long v)] [] := by
  intro n
  induction n with
  | zero => intro i h1 h2; exact absurd h2 (by omega)
  | succ n ih =>
    intro i h1 h2
    refine m_iload_n F rfl e_J7_fill_d0a16_6 ?_
    refine m_iload F rfl e_J7_fill_d0a16_7 ?_
    refine m_icmp_ge F e_J7_fill_d0a16_9 (fun q9 => ?_) (fun q9 => ?_)
    · have c9 : i ≥ len := (nI_leI (a := len) (b := i) (by omega) (by omega)).mp q9
      have hi : i = len := by omega
      subst hi
      exact m_vret F hQ e_J7_fill_d0a16_22 (hp)
    · have c9 : i < len := by have hh := mt (nI_leI (a := len) (b := i) (by omega) (by omega)).mpr q9; omega
      refine m_aload_n F rfl e_J7_fill_d0a16_12 ?_
      refine m_iload_n F rfl e_J7_fill_d0a16_13 ?_
      refine m_lload_n F rfl e_J7_fill_d0a16_14 ?_
      refine m_last F (j := i) e_J7_fill_d0a16_15 ru_eq (nI_clamp (by omega)) (vp_in_nI (by omega) (by omega)) rfl (bx_uu _ _ _ _) ?_
      refine m_iinc F (v := nI (i + 1)) (lv' := [(3, .int (nI (i + 1))), (4, .int (nI len)), (0, .ref a), (1, .long v)]) e_J7_fill_d0a16_16 rfl (nI_add i 1) (by decide) rfl ?_
      refine m_goto F e_J7_fill_d0a16_19 ?_
      refine Wm.memE (congrArg (fun g => va_up σ a (some (aJ V len g))) (fillJ_upd (by omega))) ?_
      exact ih (i + 1) (by omega) (by omega)
set_option maxRecDepth 20000 in
theorem k_fillJ (l : Launch) (V : VX) (N : Nat) (σ : Mem) (a len : Nat) (f : Nat → Int64) (v : Int64) (hlen : len < 2 ^ 31) (h0 : σ a = some (aJ V len f)) : Ct l V yJ7_fill_d0a16 cJ7_fill_d0a16 5 none 0 0 0 N σ [.ref a, .long v] (fun r τ => r = none ∧ τ = va_up σ a (some (aJ V len (fillJ f v 0 len)))) := by
  refine Ct.of (by decide) (Nat.le_of_ble_eq_true rfl) [(0, .ref a), (1, .long v)] rfl (fun X hX F hQ => ?_)
  refine m_iconst F (v := 0) (by decide) e_J7_fill_d0a16_0 ?_
  refine m_istore_n F (lv' := [(3, .int 0), (0, .ref a), (1, .long v)]) e_J7_fill_d0a16_1 (by decide) rfl ?_
  refine m_aload_n F rfl e_J7_fill_d0a16_2 ?_
  refine m_alen F e_J7_fill_d0a16_3 h0 rfl (v := nI len) rfl ?_
  refine m_istore F (lv' := [(4, .int (nI len)), (3, .int 0), (0, .ref a), (1, .long v)]) e_J7_fill_d0a16_4 (by decide) rfl ?_
  refine Wm.lvsub (lv' := [(3, .int 0), (4, .int (nI len)), (0, .ref a), (1, .long v)]) ?_ [1, 0, 2, 3] rfl
  refine Wm.memE (up_self h0) ?_
  refine Wm.memE (congrArg (fun g => va_up σ a (some (aJ V len g))) (fillJ_0 (lo := 0) (v := v)).symm) ?_
  exact lp_fillJ F hQ hlen ⟨rfl, rfl⟩ (len + 1) 0 (by omega) (by omega)
