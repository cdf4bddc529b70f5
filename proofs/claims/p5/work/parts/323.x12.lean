/-- the first of n numbers from i on that is x, or -1 -/
def fnd (nm : Nat → Int32) (x : Int32) : Nat → Nat → Int32
  | _, 0 => -1
  | i, k + 1 => if nm i = x then nI i else fnd nm x (i + 1) k
theorem fnd_end {nm : Nat → Int32} {x : Int32} {i n : Nat} (h : n ≤ i) : fnd nm x i (n - i) = -1 := by
  rw [show n - i = 0 by omega]; rfl
theorem fnd_hit {nm : Nat → Int32} {x : Int32} {i n : Nat} (h : i < n) (e : nm i = x) : fnd nm x i (n - i) = nI i := by
  rw [show n - i = (n - i - 1) + 1 by omega]
  show (if nm i = x then nI i else _) = _
  rw [if_pos e]
theorem fnd_go {nm : Nat → Int32} {x : Int32} {i n : Nat} (h : i < n) (e : ¬ nm i = x) : fnd nm x i (n - i) = fnd nm x (i + 1) (n - (i + 1)) := by
  rw [show n - i = (n - i - 1) + 1 by omega, show n - (i + 1) = n - i - 1 by omega]
  show (if nm i = x then nI i else _) = _
  rw [if_neg e]
theorem fnd_ext {nm nm' : Nat → Int32} {x : Int32} : ∀ k i, (∀ j, i ≤ j → j < i + k → nm j = nm' j) → fnd nm x i k = fnd nm' x i k := by
  intro k
  induction k with
  | zero => intros; rfl
  | succ k ih =>
    intro i h
    show (if nm i = x then nI i else fnd nm x (i + 1) k) = (if nm' i = x then nI i else fnd nm' x (i + 1) k)
    rw [h i (Nat.le_refl _) (by omega), ih (i + 1) (fun j h1 h2 => h j (by omega) (by omega))]
theorem nm_le {G : GH} {b a i : Nat} {x : Int32} (hk : kA b a = 7) (hi : i < 4) (g : G.gd (blk (a + 1 + 10 + 12 * i - b)) = 1 → lix (a + 1 + 10 + 12 * i - b) < G.n0 → x = G.nm (lix (a + 1 + 10 + 12 * i - b))) (hg : G.gd (blk (a - b)) = 1) (hl : i < G.n0) : G.nm i = x := by
  have e := blk_in hk (q := 11 + 12 * i) (by omega)
  rw [show a + (11 + 12 * i) - b = a + 1 + 10 + 12 * i - b by omega] at e
  rw [e, lix_in hk hi] at g
  exact (g hg hl).symm
set_option maxRecDepth 20000 in
theorem lp_X2_leaseNamedF_2 {V : VX} {G : GH} {X : MX} {b M Z T N : Nat} {σ : Mem} {a : Nat} {x901 : Int32}  (F : Fx V X yX2_leaseNamed cX2_leaseNamed 3 (some .int) (rmd 0 0 0)) (hQ : Rt V X 0 0 N (fun r τ => HK V G (b, M, Z, T) [0, 1, 2, 3, 4, 5, 6, 7, 8, 9, 10, 11, 12, 13, 14, 15, 16, 17, 18, 19] σ τ ∧ r = some (.int (fnd G.nm x901 0 G.n0)))) (hk : kA b a = 7) (hp0 : G.gd (blk (a - b)) = 1) (hM : M + 0 ≤ 1000000000)  : ∀ (fuel : Nat) (i : Nat) (τ : Mem), HK V G (b, M, Z, T) [0, 1, 2, 3, 4, 5, 6, 7, 8, 9, 10, 11, 12, 13, 14, 15, 16, 17, 18, 19] σ τ → i ≤ 4 ∧ fnd G.nm x901 0 G.n0 = fnd G.nm x901 i (G.n0 - i) → 4 - i < fuel → Wm V X 3 N τ 0 0 2 [(2, .int (nI i)), (0, .ref a), (1, .int x901)] [] := by
  intro fuel
  induction fuel with
  | zero => intro i τ h1 hi hm; exact absurd hm (Nat.not_lt_zero _)
  | succ fuel ih =>
    intro i τ h1 hi hm
    obtain ⟨hi0, hi1⟩ := hi
    refine m_iload_n F rfl e_X2_leaseNamed_2 ?_
    refine m_aload_n F rfl e_X2_leaseNamed_3 ?_
    refine t_get F e_X2_leaseNamed_4 fl_X2_58 (fun _ => o7) h1 hk rfl (fun v hv f7774 => ?_)
    obtain ⟨n7775, ⟨hn7775, gn7775⟩, rfl⟩ := hv
    replace hn7775 : n7775 ≤ 4 := hn7775
    refine m_icmp_ge F e_X2_leaseNamed_7 (fun q7 => ?_) (fun q7 => ?_)
    · have c7 : i ≥ n7775 := (nI_leI (a := n7775) (b := i) (by omega) (by omega)).mp q7
      refine m_iconst F (v := (-1)) (by decide) e_X2_leaseNamed_31 ?_
      exact m_iret F hQ e_X2_leaseNamed_32 (⟨h1, congrArg (fun x => some (Value.int x)) (hi1.trans (fnd_end (by have e9 := gn7775 hp0; omega))).symm⟩)
    · have c7 : i < n7775 := by have hh := mt (nI_leI (a := n7775) (b := i) (by omega) (by omega)).mpr q7; omega
      refine m_aload_n F rfl e_X2_leaseNamed_10 ?_
      refine t_get F e_X2_leaseNamed_11 fl_X2_11 (fun _ => o7) h1 hk rfl (fun v hv f7776 => ?_)
      obtain rfl : v = .ref (a + 1) := hv
      refine m_iload_n F rfl e_X2_leaseNamed_14 ?_
      refine t_aald8 F (j := i) e_X2_leaseNamed_15 rfl h1 (kA_7 hk (r := 1) (by decide)) (nI_clamp (by omega)) (vp_in_nI (by omega) (by decide)) ?_
      refine t_get F e_X2_leaseNamed_16 fl_X2_113 (fun _ => o15) h1 (kA_8 (kA_7 hk (r := 1) (by decide)) (j := i) (by omega)) rfl (fun v hv f7777 => ?_)
      obtain ⟨x7778, gx7778, rfl⟩ := hv
      refine m_iload_n F rfl e_X2_leaseNamed_19 ?_
      refine m_icmp_ne F e_X2_leaseNamed_20 (fun q20 => ?_) (fun q20 => ?_)
      · refine m_iinc F (v := nI (i + 1)) (lv' := [(2, .int (nI (i + 1))), (0, .ref a), (1, .int x901)]) e_X2_leaseNamed_25 rfl (nI_add i 1) (by decide) rfl ?_
        refine m_goto F e_X2_leaseNamed_28 ?_
        exact ih (i + 1) _ h1 ⟨by omega, hi1.trans (fnd_go (by have e9 := gn7775 hp0; omega) (fun e9 => q20 ((nm_le hk (by omega) gx7778 hp0 (by have e8 := gn7775 hp0; omega)).symm.trans e9)))⟩ (by omega)
      · refine m_iload_n F rfl e_X2_leaseNamed_23 ?_
        exact m_iret F hQ e_X2_leaseNamed_24 (⟨h1, congrArg (fun x => some (Value.int x)) (hi1.trans (fnd_hit (by have e9 := gn7775 hp0; omega) ((nm_le hk (by omega) gx7778 hp0 (by have e8 := gn7775 hp0; omega)).trans q20))).symm⟩)
set_option maxRecDepth 20000 in
theorem s_X2_leaseNamedF (l : Launch) (V : VX) (G : GH) (b M Z T N : Nat) (σ : Mem) (a : Nat) (x901 : Int32) (h0 : HT V G (b, M, Z, T) σ) (hk : kA b a = 7) (hp0 : G.gd (blk (a - b)) = 1) (hM : M + 0 ≤ 1000000000) : Ct l V yX2_leaseNamed cX2_leaseNamed 3 (some .int) 0 0 0 N σ [.ref a, .int x901] (fun r τ => HK V G (b, M, Z, T) [0, 1, 2, 3, 4, 5, 6, 7, 8, 9, 10, 11, 12, 13, 14, 15, 16, 17, 18, 19] σ τ ∧ r = some (.int (fnd G.nm x901 0 G.n0))) := by
  refine Ct.of (by decide) (Nat.le_of_ble_eq_true rfl) [(0, .ref a), (1, .int x901)] rfl (fun X hX F hQ => ?_)
  have h1 : HK V G (b, M, Z, T) [0, 1, 2, 3, 4, 5, 6, 7, 8, 9, 10, 11, 12, 13, 14, 15, 16, 17, 18, 19] σ σ := HK.start h0
  refine m_iconst F (v := 0) (by decide) e_X2_leaseNamed_0 ?_
  refine m_istore_n F (lv' := [(2, .int 0), (0, .ref a), (1, .int x901)]) e_X2_leaseNamed_1 (by decide) rfl ?_
  exact lp_X2_leaseNamedF_2 F hQ hk hp0 hM (4 + 1) 0 _ h1 ⟨by omega, rfl⟩ (by omega)
set_option maxRecDepth 20000 in
theorem s_X9_namedE (l : Launch) (V : VX) (G : GH) (b M Z T N : Nat) (σ : Mem) (a : Nat) (x901 : Int32) (h0 : HT V G (b, M, Z, T) σ) (hk : kA b a = 1) (hG : okG G) (hM : M + 0 ≤ 1000000000) : Ct l V yX9_named cX9_named 2 (some .int) 1 0 0 N σ [.ref a, .int x901] (fun r τ => HK V G (b, M, Z, T) [0, 1, 2, 3, 4, 5, 6, 7, 8, 9, 10, 11, 12, 13, 14, 15, 16, 17, 18, 19] σ τ ∧ r = some (.int (fnd G.nm x901 0 G.n0))) := by
  refine Ct.of (by decide) (Nat.le_of_ble_eq_true rfl) [(0, .ref a), (1, .int x901)] rfl (fun X hX F hQ => ?_)
  have h1 : HK V G (b, M, Z, T) [0, 1, 2, 3, 4, 5, 6, 7, 8, 9, 10, 11, 12, 13, 14, 15, 16, 17, 18, 19] σ σ := HK.start h0
  refine m_aload_n F rfl e_X9_named_0 ?_
  refine t_get F e_X9_named_1 fl_X9_16 (fun _ => o1) h1 hk rfl (fun v hv f7779 => ?_)
  obtain ⟨r7780, ⟨k7781, er7780⟩, rfl⟩ := hv
  replace er7780 : r7780 = b + 2 + 63 * G.bk := er7780
  refine m_iload_n F rfl e_X9_named_4 ?_
  refine t_callV F e_X9_named_5 (s_X2_leaseNamedF (x_l X) V G b M Z T _ _ r7780 x901 h1.1 k7781 (gd_bk hG er7780) (by omega)) cb_X2_leaseNamed ml_X9_90 im_X2_leaseNamed se_X2_leaseNamed (fun _ => o7) h1 k7781 rfl rfl (rest := []) rfl (Nat.le_of_ble_eq_true rfl) ⟨Nat.le_of_ble_eq_true rfl, Nat.le_of_ble_eq_true rfl⟩ ⟨Nat.le_of_ble_eq_true rfl, Nat.le_of_ble_eq_true rfl⟩ (fun r σ7782 hp => ?_)
  obtain ⟨h7783, rfl⟩ := hp
  have h7784 := HK.trans h1 h7783 (by decide)
  exact m_iret F hQ e_X9_named_8 (⟨h7784, rfl⟩)
