abbrev G0 : GH := mkG (fun k => if k = 0 then 1 else 0) 0 (fun _ => 0) 0 1 0 0 0
theorem okG0 : okG G0 := ⟨by decide, by decide, rfl, rfl, by decide, fun e => absurd e (by decide), by decide, by decide, Or.inr ⟨rfl, fun p hp => absurd hp (Nat.not_lt_zero _)⟩⟩
theorem TyL.nil {G : GH} {E : PE} {a : Nat} : TyL G E a [] [] := ⟨rfl, fun j t h => by cases j <;> cases h⟩
theorem TyL.cons {G : GH} {E : PE} {a : Nat} {t : Nat × Nat} {ts : List (Nat × Nat)} {v : Value} {vs : List Value} (h : TyV G E a t v) (h2 : TyL G E a ts vs) : TyL G E a (t :: ts) (v :: vs) := by
  refine ⟨congrArg (· + 1) h2.1, fun j u hu => ?_⟩
  cases j with
  | zero => cases hu; exact ⟨v, rfl, h⟩
  | succ j => exact h2.2 j u hu
theorem kA_off {b o : Nat} : kA b (b + o) = kd o := by
  unfold kA
  rw [if_neg (by omega), Nat.add_sub_cancel_left]
theorem kA_at {b a o : Nat} (h : a = b + o) : kA b a = kd o := by rw [h]; exact kA_off
theorem LZ.ty {V : VX} {M b q : Nat} {τ : Mem} (h : LZ V τ q) (hq : ∀ r, r < 12 → kA b (q + r) = kl r) : ∀ r, r < 12 → CellTy V G0 (b, M, 1, 0) (q + r) (kl r) (τ (q + r)) := by
  obtain ⟨a0, a1, a2, a3, a4, a5, a6, a7, a8, a9, a10, a11⟩ := h
  intro r hr
  rcases (show r = 0 ∨ r = 1 ∨ r = 2 ∨ r = 3 ∨ r = 4 ∨ r = 5 ∨ r = 6 ∨ r = 7 ∨ r = 8 ∨ r = 9 ∨ r = 10 ∨ r = 11 by omega) with rfl | rfl | rfl | rfl | rfl | rfl | rfl | rfl | rfl | rfl | rfl | rfl
  · exact ⟨_, a0, (TyL.cons ⟨_, (fun _ h9 => absurd h9 (Nat.not_lt_zero _)), rfl⟩ (TyL.cons ⟨_, rfl⟩ (TyL.cons ⟨_, rfl⟩ (TyL.cons ⟨_, rfl⟩ (TyL.cons ⟨_, rfl⟩ (TyL.cons ⟨_, rfl⟩ (TyL.cons ⟨_, rfl⟩ (TyL.cons ⟨_, rfl⟩ (TyL.cons ⟨_, rfl⟩ (TyL.cons ⟨_, rfl⟩ (TyL.cons ⟨0, Nat.zero_le _, rfl⟩ (TyL.cons ⟨0, Nat.zero_le _, rfl⟩ (TyL.cons ⟨0, Nat.zero_le _, rfl⟩ (TyL.cons ⟨_, (hq 1 (by omega)), rfl⟩ (TyL.cons ⟨_, (hq 2 (by omega)), rfl⟩ (TyL.cons ⟨_, (hq 3 (by omega)), rfl⟩ (TyL.cons ⟨_, (hq 7 (by omega)), rfl⟩ (TyL.cons ⟨_, (hq 11 (by omega)), rfl⟩ TyL.nil))))))))))))))))))⟩
  · exact ⟨_, a1, (TyL.cons ⟨_, rfl⟩ (TyL.cons ⟨_, rfl⟩ TyL.nil))⟩
  · exact ⟨_, a2, (TyL.cons ⟨_, rfl⟩ (TyL.cons ⟨_, rfl⟩ TyL.nil))⟩
  · exact ⟨_, a3, (TyL.cons ⟨_, (hq 4 (by omega)), rfl⟩ (TyL.cons ⟨_, (hq 5 (by omega)), rfl⟩ (TyL.cons ⟨_, (hq 6 (by omega)), rfl⟩ TyL.nil)))⟩
  · exact ⟨_, a4⟩
  · exact ⟨_, a5⟩
  · exact ⟨_, a6, (TyL.cons ⟨_, rfl⟩ (TyL.cons ⟨_, rfl⟩ TyL.nil))⟩
  · exact ⟨_, a7, (TyL.cons ⟨_, (hq 8 (by omega)), rfl⟩ (TyL.cons ⟨_, (hq 9 (by omega)), rfl⟩ (TyL.cons ⟨_, (hq 10 (by omega)), rfl⟩ TyL.nil)))⟩
  · exact ⟨_, a8⟩
  · exact ⟨_, a9⟩
  · exact ⟨_, a10, (TyL.cons ⟨_, rfl⟩ (TyL.cons ⟨_, rfl⟩ TyL.nil))⟩
  · exact ⟨_, a11⟩
theorem lfB_at {b j : Nat} (h : j < 4) : lfB b j = some (b + 11 + 12 * j) := by
  rcases (show j = 0 ∨ j = 1 ∨ j = 2 ∨ j = 3 by omega) with rfl | rfl | rfl | rfl <;> rfl
theorem ofB_at {b j : Nat} (h : j < 4) : ofB b j = some (b + 59 + j) := by
  rcases (show j = 0 ∨ j = 1 ∨ j = 2 ∨ j = 3 by omega) with rfl | rfl | rfl | rfl <;> rfl
theorem kb_l {l r : Nat} (hl : l < 4) (hr : r < 12) : kb (11 + 12 * l + r) = kl r := by
  unfold kb
  rw [if_neg (by omega), if_neg (by omega), if_neg (by omega), if_neg (by omega), if_neg (by omega), if_neg (by omega), if_neg (by omega), if_neg (by omega), if_neg (by omega), if_pos (by omega), show (11 + 12 * l + r - 11) % 12 = r by omega]
theorem kb_o {r : Nat} (hr : r < 4) : kb (59 + r) = 19 := by
  rcases (show r = 0 ∨ r = 1 ∨ r = 2 ∨ r = 3 by omega) with rfl | rfl | rfl | rfl <;> rfl
theorem BZ.ty {V : VX} {M b q : Nat} {τ : Mem} (h : BZ V τ q) (hq : ∀ r, r < 63 → kA b (q + r) = kb r) : ∀ r, r < 63 → CellTy V G0 (b, M, 1, 0) (q + r) (kb r) (τ (q + r)) := by
  obtain ⟨⟨a0, a1, a2, a3, a4, a5, a6, a7, a8, a9, a10⟩, l0, l1, l2, l3, o0, o1, o2, o3⟩ := h
  intro r hr
  by_cases h1 : r < 11
  · rcases (show r = 0 ∨ r = 1 ∨ r = 2 ∨ r = 3 ∨ r = 4 ∨ r = 5 ∨ r = 6 ∨ r = 7 ∨ r = 8 ∨ r = 9 ∨ r = 10 by omega) with rfl | rfl | rfl | rfl | rfl | rfl | rfl | rfl | rfl | rfl | rfl
    · exact ⟨_, a0, (TyL.cons rfl (TyL.cons rfl (TyL.cons rfl (TyL.cons rfl (TyL.cons rfl (TyL.cons rfl (TyL.cons rfl (TyL.cons rfl (TyL.cons ⟨0, ⟨Nat.zero_le _, fun _ => rfl⟩, rfl⟩ (TyL.cons ⟨0, Nat.zero_le _, rfl⟩ (TyL.cons ⟨0, Nat.zero_le _, rfl⟩ (TyL.cons ⟨0, Nat.zero_le _, rfl⟩ (TyL.cons ⟨_, rfl⟩ TyL.nil)))))))))))))⟩
    · exact ⟨_, a1, fun j hj => (lfB_at hj).trans (congrArg some (by omega))⟩
    · exact ⟨_, a2, fun j hj => (ofB_at hj).trans (congrArg some (by omega))⟩
    · exact ⟨_, a3⟩
    · exact ⟨_, a4⟩
    · exact ⟨_, a5, (TyL.cons ⟨_, (hq 6 (by omega)), rfl⟩ (TyL.cons ⟨_, (hq 7 (by omega)), rfl⟩ (TyL.cons ⟨0, Nat.zero_le _, rfl⟩ TyL.nil)))⟩
    · exact ⟨_, a6⟩
    · exact ⟨_, a7⟩
    · exact ⟨_, a8, (TyL.cons ⟨_, rfl⟩ (TyL.cons ⟨_, rfl⟩ TyL.nil))⟩
    · exact ⟨_, a9, (TyL.cons ⟨_, rfl⟩ (TyL.cons ⟨_, rfl⟩ TyL.nil))⟩
    · exact ⟨_, a10, (TyL.cons ⟨_, rfl⟩ (TyL.cons ⟨_, rfl⟩ TyL.nil))⟩
  by_cases h2 : r < 59
  · have hl : (r - 11) / 12 < 4 := by omega
    have hr2 : (r - 11) % 12 < 12 := by omega
    have e : r = 11 + 12 * ((r - 11) / 12) + (r - 11) % 12 := by omega
    generalize (r - 11) / 12 = l at hl e
    generalize (r - 11) % 12 = r2 at hr2 e
    subst e
    rw [kb_l hl hr2]
    rcases (show l = 0 ∨ l = 1 ∨ l = 2 ∨ l = 3 by omega) with rfl | rfl | rfl | rfl
    · have h9 := LZ.ty (M := M) (b := b) l0 (fun r hr => by rw [show q + 11 + r = q + (11 + 12 * 0 + r) by omega, hq _ (by omega), kb_l (by omega) hr]) r2 hr2
      rw [show q + (11 + 12 * 0 + r2) = q + 11 + r2 by omega]; exact h9
    · have h9 := LZ.ty (M := M) (b := b) l1 (fun r hr => by rw [show q + 23 + r = q + (11 + 12 * 1 + r) by omega, hq _ (by omega), kb_l (by omega) hr]) r2 hr2
      rw [show q + (11 + 12 * 1 + r2) = q + 23 + r2 by omega]; exact h9
    · have h9 := LZ.ty (M := M) (b := b) l2 (fun r hr => by rw [show q + 35 + r = q + (11 + 12 * 2 + r) by omega, hq _ (by omega), kb_l (by omega) hr]) r2 hr2
      rw [show q + (11 + 12 * 2 + r2) = q + 35 + r2 by omega]; exact h9
    · have h9 := LZ.ty (M := M) (b := b) l3 (fun r hr => by rw [show q + 47 + r = q + (11 + 12 * 3 + r) by omega, hq _ (by omega), kb_l (by omega) hr]) r2 hr2
      rw [show q + (11 + 12 * 3 + r2) = q + 47 + r2 by omega]; exact h9
  rcases (show r = 59 ∨ r = 60 ∨ r = 61 ∨ r = 62 by omega) with rfl | rfl | rfl | rfl
  · exact ⟨_, o0, (TyL.cons ⟨0, Nat.zero_le _, rfl⟩ (TyL.cons ⟨0, Nat.zero_le _, rfl⟩ (TyL.cons ⟨_, rfl⟩ (TyL.cons ⟨0, Nat.zero_le _, rfl⟩ TyL.nil))))⟩
  · exact ⟨_, o1, (TyL.cons ⟨0, Nat.zero_le _, rfl⟩ (TyL.cons ⟨0, Nat.zero_le _, rfl⟩ (TyL.cons ⟨_, rfl⟩ (TyL.cons ⟨0, Nat.zero_le _, rfl⟩ TyL.nil))))⟩
  · exact ⟨_, o2, (TyL.cons ⟨0, Nat.zero_le _, rfl⟩ (TyL.cons ⟨0, Nat.zero_le _, rfl⟩ (TyL.cons ⟨_, rfl⟩ (TyL.cons ⟨0, Nat.zero_le _, rfl⟩ TyL.nil))))⟩
  · exact ⟨_, o3, (TyL.cons ⟨0, Nat.zero_le _, rfl⟩ (TyL.cons ⟨0, Nat.zero_le _, rfl⟩ (TyL.cons ⟨_, rfl⟩ (TyL.cons ⟨0, Nat.zero_le _, rfl⟩ TyL.nil))))⟩
theorem kd_b {o : Nat} (h1 : 197 ≤ o) (h2 : o < 1457) : kd o = kb ((o - 197) % 63) := by
  unfold kd
  rw [if_neg (by omega), if_neg (by omega), if_neg (by omega), if_neg (by omega), if_neg (by omega), if_neg (by omega), if_neg (by omega), if_neg (by omega), if_pos (by omega)]
theorem kd_2 {o : Nat} (h1 : 2 ≤ o) (h2 : o < 128) : kd o = kb ((o - 2) % 63) := by
  unfold kd
  rw [if_neg (by omega), if_neg (by omega), if_pos (by omega)]
theorem kd_130 {o : Nat} (h1 : 130 ≤ o) (h2 : o < 193) : kd o = kb (o - 130) := by
  unfold kd
  rw [if_neg (by omega), if_neg (by omega), if_neg (by omega), if_neg (by omega), if_neg (by omega), if_pos (by omega)]
set_option maxRecDepth 20000 in
theorem LLz.ht {V : VX} {M b : Nat} {τ : Mem} (h : LLz V τ b) : HT V G0 (b, M, 1, 0) τ := by
  obtain ⟨a0, a1, a2, a3, a4, a5, a6, a7, b0, b1, b2, b3⟩ := h
  intro a
  show CellTy V G0 (b, M, 1, 0) a (kA b a) (τ a)
  by_cases hb : a < b
  · rw [show kA b a = 0 by unfold kA; rw [if_pos hb]]; trivial
  obtain ⟨o, rfl⟩ : ∃ o, a = b + o := ⟨a - b, by omega⟩
  rw [kA_off]
  by_cases h0 : o = 0
  · subst h0; exact ⟨_, a0, (TyL.cons ⟨_, (kA_off (o := 1)), rfl⟩ (TyL.cons rfl (TyL.cons ⟨_, ⟨(kA_off (o := 2)), (by show b + 2 = b + 2 + 63 * 0; omega)⟩, rfl⟩ (TyL.cons ⟨_, ⟨(kA_off (o := 65)), (by show b + 65 = b + 2 + 63 * 1; omega)⟩, rfl⟩ (TyL.cons ⟨_, (kA_off (o := 128)), rfl⟩ (TyL.cons ⟨_, ⟨(kA_off (o := 130)), rfl⟩, rfl⟩ (TyL.cons ⟨0, ⟨Nat.zero_le _, rfl⟩, rfl⟩ (TyL.cons ⟨_, (kA_off (o := 193)), rfl⟩ (TyL.cons ⟨0, ⟨Nat.zero_le _, rfl⟩, rfl⟩ (TyL.cons ⟨0, ⟨Nat.zero_le _, rfl⟩, rfl⟩ (TyL.cons ⟨_, (kA_off (o := 194)), rfl⟩ (TyL.cons ⟨_, (kA_off (o := 195)), rfl⟩ (TyL.cons ⟨_, (kA_off (o := 196)), rfl⟩ TyL.nil)))))))))))))⟩
  by_cases h1 : o = 1
  · subst h1; exact ⟨_, a1⟩
  by_cases g2 : 2 ≤ o ∧ o < 65
  · have h9 := BZ.ty (M := M) (b := b) b0 (fun r hr => by rw [show b + 2 + r = b + (2 + r) by omega, kA_off, kd_2 (by omega) (by omega)]; congr 1; omega) (o - 2) (by omega)
    rw [show b + 2 + (o - 2) = b + o by omega] at h9
    rw [kd_2 (by omega) (by omega)]
    rw [show (o - 2) % 63 = o - 2 by omega]; exact h9
  by_cases g65 : 65 ≤ o ∧ o < 128
  · have h9 := BZ.ty (M := M) (b := b) b1 (fun r hr => by rw [show b + 65 + r = b + (65 + r) by omega, kA_off, kd_2 (by omega) (by omega)]; congr 1; omega) (o - 65) (by omega)
    rw [show b + 65 + (o - 65) = b + o by omega] at h9
    rw [kd_2 (by omega) (by omega)]
    rw [show (o - 2) % 63 = o - 65 by omega]; exact h9
  by_cases h128 : o = 128
  · subst h128; exact ⟨_, a2, (TyL.cons ⟨_, (kA_off (o := 1)), rfl⟩ (TyL.cons ⟨0, Nat.zero_le _, rfl⟩ (TyL.cons ⟨_, (kA_off (o := 65)), rfl⟩ (TyL.cons ⟨_, (kA_off (o := 129)), rfl⟩ (TyL.cons ⟨0, Nat.zero_le _, rfl⟩ (TyL.cons ⟨_, rfl⟩ (TyL.cons ⟨_, rfl⟩ (TyL.cons ⟨_, rfl⟩ (TyL.cons ⟨_, rfl⟩ (TyL.cons ⟨0, Nat.zero_le _, rfl⟩ (TyL.cons ⟨_, rfl⟩ (TyL.cons ⟨_, fun e => absurd e (by show ¬ (1 : Nat) = 0; decide), rfl⟩ (TyL.cons ⟨_, rfl⟩ TyL.nil)))))))))))))⟩
  by_cases h129 : o = 129
  · subst h129; exact ⟨_, a3⟩
  by_cases g130 : 130 ≤ o ∧ o < 193
  · have h9 := BZ.ty (M := M) (b := b) b2 (fun r hr => by rw [show b + 130 + r = b + (130 + r) by omega, kA_off, kd_130 (by omega) (by omega)]; congr 1; omega) (o - 130) (by omega)
    rw [show b + 130 + (o - 130) = b + o by omega] at h9
    rw [kd_130 (by omega) (by omega)]
    rw [show o - 130 = o - 130 by omega]; exact h9
  by_cases h193 : o = 193
  · subst h193; exact ⟨_, a4, fun j hj => if_pos hj⟩
  by_cases h194 : o = 194
  · subst h194; exact ⟨_, a5, (TyL.cons ⟨_, rfl⟩ (TyL.cons ⟨_, rfl⟩ TyL.nil))⟩
  by_cases h195 : o = 195
  · subst h195; exact ⟨_, a6, (TyL.cons ⟨_, rfl⟩ (TyL.cons ⟨_, rfl⟩ TyL.nil))⟩
  by_cases h196 : o = 196
  · subst h196; exact ⟨_, a7, (TyL.cons ⟨_, rfl⟩ (TyL.cons ⟨_, rfl⟩ TyL.nil))⟩
  by_cases g197 : o < 1457
  · have hj : (o - 197) / 63 < 20 := by omega
    have h9 := BZ.ty (M := M) (b := b) (b3 _ hj) (fun r hr => by rw [show b + 197 + 63 * ((o - 197) / 63) + r = b + (197 + 63 * ((o - 197) / 63) + r) by omega, kA_off, kd_b (by omega) (by omega)]; congr 1; omega) ((o - 197) % 63) (by omega)
    rw [show b + 197 + 63 * ((o - 197) / 63) + (o - 197) % 63 = b + o by omega] at h9
    rw [kd_b (by omega) g197]; exact h9
  rw [show kd o = 0 by unfold kd; rw [if_neg (by omega), if_neg (by omega), if_neg (by omega), if_neg (by omega), if_neg (by omega), if_neg (by omega), if_neg (by omega), if_neg (by omega), if_neg (by omega)]]; trivial
theorem kC_0 {c a : Nat} (h : a < c ∨ c + 23 ≤ a) : kC c a = 0 := by
  unfold kC
  by_cases h1 : a < c
  · rw [if_pos h1]
  · rw [if_neg h1, if_neg (by omega)]
abbrev P0 : NP := mkP 0 0 0 0 0 0 0 0 0 0 0 0 0 0
theorem sZ_pz : PZ 100 sZ := by
  refine ⟨fun i hi h => ?_, fun i h1 h2 => ?_⟩
  · unfold sZ fillJ; rw [if_neg (by omega)]
  · unfold sZ fillJ; rw [if_pos (by omega)]; exact ⟨1000, by omega, by omega, rfl⟩
theorem Gd.zero : Gd 0 0 P0 L0 := ⟨by omega, by omega, by unfold OKP; exact ⟨by decide, by decide, by decide, by decide, by decide, by decide, by decide⟩, rfl, Nat.le_refl _, Nat.le_refl _, OKL.zero⟩
theorem MZ.hr {V : VX} {c : Nat} {τ : Mem} (h : MZ V τ c) : HR V c ⟨0, 1, 0, 0, P0, L0⟩ τ := by
  obtain ⟨a0, a1, a2, a3, a4, a5, a6, a7, a8, a9, a10, a11, a12, a13, a14, a15, a16, a17, a18, a19, a20, a21, a22⟩ := h
  intro a
  by_cases ho : a < c ∨ c + 23 ≤ a
  · rw [kC_0 ho]; trivial
  obtain ⟨o, rfl⟩ : ∃ o, a = c + o := ⟨a - c, by omega⟩
  rw [kC_at (by omega)]
  rcases (show o = 0 ∨ o = 1 ∨ o = 2 ∨ o = 3 ∨ o = 4 ∨ o = 5 ∨ o = 6 ∨ o = 7 ∨ o = 8 ∨ o = 9 ∨ o = 10 ∨ o = 11 ∨ o = 12 ∨ o = 13 ∨ o = 14 ∨ o = 15 ∨ o = 16 ∨ o = 17 ∨ o = 18 ∨ o = 19 ∨ o = 20 ∨ o = 21 ∨ o = 22 by omega) with rfl | rfl | rfl | rfl | rfl | rfl | rfl | rfl | rfl | rfl | rfl | rfl | rfl | rfl | rfl | rfl | rfl | rfl | rfl | rfl | rfl | rfl | rfl
  · refine ⟨_, a0, rfl, fun j t ht => ?_⟩
    have hj : j < 37 := (List.getElem?_eq_some_iff.mp ht).1
    rcases (show j = 0 ∨ j = 1 ∨ j = 2 ∨ j = 3 ∨ j = 4 ∨ j = 5 ∨ j = 6 ∨ j = 7 ∨ j = 8 ∨ j = 9 ∨ j = 10 ∨ j = 11 ∨ j = 12 ∨ j = 13 ∨ j = 14 ∨ j = 15 ∨ j = 16 ∨ j = 17 ∨ j = 18 ∨ j = 19 ∨ j = 20 ∨ j = 21 ∨ j = 22 ∨ j = 23 ∨ j = 24 ∨ j = 25 ∨ j = 26 ∨ j = 27 ∨ j = 28 ∨ j = 29 ∨ j = 30 ∨ j = 31 ∨ j = 32 ∨ j = 33 ∨ j = 34 ∨ j = 35 ∨ j = 36 by omega) with rfl | rfl | rfl | rfl | rfl | rfl | rfl | rfl | rfl | rfl | rfl | rfl | rfl | rfl | rfl | rfl | rfl | rfl | rfl | rfl | rfl | rfl | rfl | rfl | rfl | rfl | rfl | rfl | rfl | rfl | rfl | rfl | rfl | rfl | rfl | rfl | rfl
    · cases ht; exact ⟨_, rfl, ⟨_, rfl⟩⟩
    · cases ht; exact ⟨_, rfl, rfl⟩
    · cases ht; exact ⟨_, rfl, rfl⟩
    · cases ht; exact ⟨_, rfl, rfl⟩
    · cases ht; exact ⟨_, rfl, rfl⟩
    · cases ht; exact ⟨_, rfl, rfl⟩
    · cases ht; exact ⟨_, rfl, rfl⟩
    · cases ht; exact ⟨_, rfl, rfl⟩
    · cases ht; exact ⟨_, rfl, rfl⟩
    · cases ht; exact ⟨_, rfl, rfl⟩
    · cases ht; exact ⟨_, rfl, rfl⟩
    · cases ht; exact ⟨_, rfl, rfl⟩
    · cases ht; exact ⟨_, rfl, rfl⟩
    · cases ht; exact ⟨_, rfl, rfl⟩
    · cases ht; exact ⟨_, rfl, rfl⟩
    · cases ht; exact ⟨_, rfl, rfl⟩
    · cases ht; exact ⟨_, rfl, rfl⟩
    · cases ht; exact ⟨_, rfl, ⟨_, rfl⟩⟩
    · cases ht; exact ⟨_, rfl, ⟨0, Nat.zero_le _, rfl⟩⟩
    · cases ht; exact ⟨_, rfl, rfl⟩
    · cases ht; exact ⟨_, rfl, ⟨0, Nat.zero_le _, rfl⟩⟩
    · cases ht; exact ⟨_, rfl, ⟨_, rfl⟩⟩
    · cases ht; exact ⟨_, rfl, ⟨_, rfl⟩⟩
    · cases ht; exact ⟨_, rfl, ⟨_, fun e => absurd e (by show ¬ (1 : Nat) = 0; decide), rfl⟩⟩
    · cases ht; exact ⟨_, rfl, ⟨_, rfl⟩⟩
    · cases ht; exact ⟨_, rfl, ⟨_, rfl⟩⟩
    · cases ht; exact ⟨_, rfl, ⟨_, rfl⟩⟩
    · cases ht; exact ⟨_, rfl, rfl⟩
    · cases ht; exact ⟨_, rfl, rfl⟩
    · cases ht; exact ⟨_, rfl, rfl⟩
    · cases ht; exact ⟨_, rfl, rfl⟩
    · cases ht; exact ⟨_, rfl, rfl⟩
    · cases ht; exact ⟨_, rfl, rfl⟩
    · cases ht; exact ⟨_, rfl, rfl⟩
    · cases ht; exact ⟨_, rfl, rfl⟩
    · cases ht; exact ⟨_, rfl, rfl⟩
    · cases ht; exact ⟨_, rfl, ⟨_, rfl⟩⟩
  · exact ⟨_, a1, fun i hi => trivial⟩
  · exact ⟨_, a2, fun i hi => ⟨fun _ => rfl, fun _ => rfl, fun _ => rfl, fun _ => rfl, fun _ => ⟨0, by omega, rfl⟩, fun _ => ⟨0, by omega, rfl⟩⟩⟩
  · exact ⟨_, a3, fun i hi => fun _ => (by show (0 : Int32) = nI (bsel P0 i); unfold bsel; (first | rfl | (split <;> first | rfl | (split <;> first | rfl | (split <;> rfl)))))⟩
  · exact ⟨_, a4, fun i hi => trivial⟩
  · exact ⟨_, a5, fun i hi => ⟨0, by omega, rfl, fun _ h => absurd h (Nat.not_lt_zero _), fun h1 h2 => absurd h2 (by show ¬ i < 4 + 0; omega)⟩⟩
  · exact ⟨_, a6, fun i hi => ⟨0, by omega, rfl⟩⟩
  · exact ⟨_, a7, fun i hi => trivial⟩
  · exact ⟨_, a8, fun i hi => trivial⟩
  · exact ⟨_, a9, fun i hi => trivial⟩
  · exact ⟨_, a10, fun i hi => trivial⟩
  · exact ⟨_, a11, fun i hi => ⟨0, by omega, rfl⟩⟩
  · exact ⟨_, a12, fun i hi => ⟨0, by omega, rfl, fun _ h => absurd h (Nat.not_lt_zero _), fun h1 h2 => absurd h2 (by show ¬ i < 8 + 0; omega)⟩⟩
  · exact ⟨_, a13, fun i hi => ⟨0, by omega, rfl⟩⟩
  · exact ⟨_, a14, fun i hi => ⟨0, by omega, rfl⟩⟩
  · exact ⟨_, a15, fun i hi => trivial⟩
  · exact ⟨_, a16, PZ.typed sZ_pz⟩
  · exact ⟨_, a17⟩
  · exact ⟨_, a18⟩
  · exact ⟨_, a19, fun h => absurd h (by show ¬ (0 : Nat) = 1; decide)⟩
  · exact ⟨_, a20, fun j hj => absurd hj (Nat.not_lt_zero _)⟩
  · exact ⟨_, a21, fun i hi => ⟨0, by omega, rfl⟩⟩
  · exact ⟨_, a22⟩
