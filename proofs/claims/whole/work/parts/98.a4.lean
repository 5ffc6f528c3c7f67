/-! pure: the greatest yield: bits of the class against halves of the reference -/
def GS (X Y : Nat → Int) (t l q most r : Int) : Prop := -1 ≤ r ∧ r ≤ most ∧ (r = -1 ∨ q ≤ WO X Y t l r) ∧ ∀ y, r < y → y ≤ most → WO X Y t l y < q
theorem gs_u {X Y : Nat → Int} {t l q most r1 r2 : Int} (h1 : GS X Y t l q most r1) (h2 : GS X Y t l q most r2) : r1 = r2 := by
  rcases Int.lt_trichotomy r1 r2 with h | h | h
  · have a := h1.2.2.2 r2 h h2.2.1
    rcases h2.2.2.1 with e | e
    · have := h1.1; omega
    · omega
  · exact h
  · have a := h2.2.2.2 r1 h h1.2.1
    rcases h1.2.2.1 with e | e
    · have := h2.1; omega
    · omega
def pw9 : Nat → Int
  | 0 => 1
  | k + 1 => 2 * pw9 k
theorem pw9_r : ∀ k : Nat, k ≤ 12 → 1 ≤ pw9 k ∧ pw9 k ≤ 4096 := by
  intro k hk
  rcases (show k = 0 ∨ k = 1 ∨ k = 2 ∨ k = 3 ∨ k = 4 ∨ k = 5 ∨ k = 6 ∨ k = 7 ∨ k = 8 ∨ k = 9 ∨ k = 10 ∨ k = 11 ∨ k = 12 by omega) with rfl | rfl | rfl | rfl | rfl | rfl | rfl | rfl | rfl | rfl | rfl | rfl | rfl <;> decide
def FP9 (X Y : Nat → Int) (t p : Int) : Int := 10 * X 5 * p / 10000 + AC X Y t (10 * X 5)
theorem fp_r {X Y : Nat → Int} (hW : WB X Y) {t p : Int} (h1 : 0 ≤ p) (h2 : p ≤ 30000) : 0 ≤ 10 * X 5 * p ∧ 10 * X 5 * p ≤ 3000000000 ∧ 0 ≤ 10 * X 5 * p / 10000 ∧ 10 * X 5 * p / 10000 ≤ 300000 ∧ 0 ≤ FP9 X Y t p ∧ FP9 X Y t p ≤ 1400000 := by
  have h5 := hW.2.1
  have m := mulr (a := 10 * X 5) (A := 100000) (by omega) (by omega) h1 h2
  have a := ac_r hW (t := t) (F := 10 * X 5) (by omega) (by omega)
  unfold FP9
  omega
section C12
variable {X Y : Nat → Int} {B S : Nat → Int32} {T : Nat → Int64} {n : Nat} {ds : Nat → Int32}
theorem gzr0 {N0 N : Nat} {a3 : Int32} {a0 a1 : Int32} {a2 : Int64} {f : Int} (hN : 1 ≤ N) : f_X0_greatestRate_L8 a3 N0 B S T n ds a0 a1 a2 N (II f) (II 0) = some (II f) := by
  obtain ⟨N, rfl⟩ : ∃ N', N = N' + 1 := ⟨N - 1, by omega⟩
  unfold f_X0_greatestRate_L8
  simp (disch := omega) only [bd_e, jn_e, bi_e, gd_t, it_e, ie_e, if_true, if_false, ii_lit, ii_add, ii_sub, ii_mul, ii_neg, ii_lt, ii_le, ii_eq, ii_nat, ii_div, ii_nI]
theorem gzrL (h : CB X Y B S T n ds) (hW : WB X Y) (h8 : X 8 = 0) {t l q most : Int} (ht0 : 0 ≤ t) (ht1 : t ≤ 18567) (h1 : 0 ≤ l) (h2 : l ≤ 10000) (hm0 : 0 ≤ most) (hm1 : most ≤ 5000) (hq0 : -1000000000000 ≤ q) (hq1 : q ≤ 1000000000000) {N0 : Nat} (hN0 : 200 ≤ N0) : ∀ (k : Nat) (f : Int), k ≤ 12 → -1 ≤ f → f ≤ most → (f = -1 ∨ q ≤ WO X Y t l f) → (∀ y, f + 2 * pw9 k ≤ y → y ≤ most → WO X Y t l y < q) → ∀ N : Nat, k + 2 ≤ N → ∃ r, f_X0_greatestRate_L8 (II most) N0 B S T n ds (II (DD t)) (II l) (LL q) N (II f) (II (pw9 k)) = some (II r) ∧ GS X Y t l q most r := by
  intro k
  induction k with
  | zero =>
    intro f hk hf0 hf1 hf2 hf3 N hN
    obtain ⟨N, rfl⟩ : ∃ N', N = N' + 1 := ⟨N - 1, by omega⟩
    have ep : pw9 0 = 1 := rfl
    rw [ep] at hf3 ⊢
    unfold f_X0_greatestRate_L8
    have ed : (1 : Int) / 2 = 0 := by decide
    by_cases c1 : most < f + 1
    · refine ⟨f, ?_, hf0, hf1, hf2, fun y a b => by omega⟩
      simp (disch := omega) only [bd_e, jn_e, bi_e, gd_t, it_e, ie_e, if_true, if_false, ii_lit, ii_add, ii_sub, ii_mul, ii_neg, ii_lt, ii_le, ii_eq, ii_nat, ii_div, ii_nI, ll_lit, ll_add, ll_sub, ll_mul, ll_neg, ll_div, ii_toL, ll_toI, lz_gt, lz_lt, lz_le, lz_ge, lz_eq, ll_lt, ll_le, ll_eq, ed, gzr0 (show 1 ≤ N by omega)]
    · have w := wo_r hW (t := t) (l := l) (y := f + 1) ht0 h1 h2 (by omega) (by omega)
      by_cases c2 : WO X Y t l (f + 1) < q
      · refine ⟨f, ?_, hf0, hf1, hf2, fun y a b => by
          have := wo_m hW (t := t) (l := l) (y1 := f + 1) (y2 := y) ht0 h1 h2 (by omega) (by omega) (by omega)
          omega⟩
        simp (disch := omega) only [bd_e, jn_e, bi_e, gd_t, it_e, ie_e, if_true, if_false, ii_lit, ii_add, ii_sub, ii_mul, ii_neg, ii_lt, ii_le, ii_eq, ii_nat, ii_div, ii_nI, ll_lit, ll_add, ll_sub, ll_mul, ll_neg, ll_div, ii_toL, ll_toI, lz_gt, lz_lt, lz_le, lz_ge, lz_eq, ll_lt, ll_le, ll_eq, ed, wor_c h hW ht0 ht1 h1 h2 (show 0 ≤ f + 1 by omega) (show f + 1 ≤ 5001 by omega) hN0, gzr0 (show 1 ≤ N by omega)]
      · refine ⟨f + 1, ?_, by omega, by omega, Or.inr (by omega), fun y a b => hf3 y (by omega) b⟩
        simp (disch := omega) only [bd_e, jn_e, bi_e, gd_t, it_e, ie_e, if_true, if_false, ii_lit, ii_add, ii_sub, ii_mul, ii_neg, ii_lt, ii_le, ii_eq, ii_nat, ii_div, ii_nI, ll_lit, ll_add, ll_sub, ll_mul, ll_neg, ll_div, ii_toL, ll_toI, lz_gt, lz_lt, lz_le, lz_ge, lz_eq, ll_lt, ll_le, ll_eq, ed, wor_c h hW ht0 ht1 h1 h2 (show 0 ≤ f + 1 by omega) (show f + 1 ≤ 5001 by omega) hN0, gzr0 (show 1 ≤ N by omega)]
  | succ k ih =>
    intro f hk hf0 hf1 hf2 hf3 N hN
    obtain ⟨N, rfl⟩ : ∃ N', N = N' + 1 := ⟨N - 1, by omega⟩
    have ep : pw9 (k + 1) = 2 * pw9 k := rfl
    have pr := pw9_r (k + 1) hk
    have pr2 := pw9_r k (by omega)
    rw [ep] at hf3 pr ⊢
    have ed : 2 * pw9 k / 2 = pw9 k := by omega
    unfold f_X0_greatestRate_L8
    by_cases c1 : most < f + 2 * pw9 k
    · obtain ⟨r, e, g⟩ := ih f (by omega) hf0 hf1 hf2 (fun y a b => by omega) N (by omega)
      refine ⟨r, ?_, g⟩
      simp (disch := omega) only [bd_e, jn_e, bi_e, gd_t, it_e, ie_e, if_true, if_false, ii_lit, ii_add, ii_sub, ii_mul, ii_neg, ii_lt, ii_le, ii_eq, ii_nat, ii_div, ii_nI, ll_lit, ll_add, ll_sub, ll_mul, ll_neg, ll_div, ii_toL, ll_toI, lz_gt, lz_lt, lz_le, lz_ge, lz_eq, ll_lt, ll_le, ll_eq, ed, e]
    · have w := wo_r hW (t := t) (l := l) (y := f + 2 * pw9 k) ht0 h1 h2 (by omega) (by omega)
      by_cases c2 : WO X Y t l (f + 2 * pw9 k) < q
      · obtain ⟨r, e, g⟩ := ih f (by omega) hf0 hf1 hf2 (fun y a b => by
          have := wo_m hW (t := t) (l := l) (y1 := f + 2 * pw9 k) (y2 := y) ht0 h1 h2 (by omega) (by omega) (by omega)
          omega) N (by omega)
        refine ⟨r, ?_, g⟩
        simp (disch := omega) only [bd_e, jn_e, bi_e, gd_t, it_e, ie_e, if_true, if_false, ii_lit, ii_add, ii_sub, ii_mul, ii_neg, ii_lt, ii_le, ii_eq, ii_nat, ii_div, ii_nI, ll_lit, ll_add, ll_sub, ll_mul, ll_neg, ll_div, ii_toL, ll_toI, lz_gt, lz_lt, lz_le, lz_ge, lz_eq, ll_lt, ll_le, ll_eq, ed, wor_c h hW ht0 ht1 h1 h2 (show 0 ≤ f + 2 * pw9 k by omega) (show f + 2 * pw9 k ≤ 5001 by omega) hN0, e]
      · obtain ⟨r, e, g⟩ := ih (f + 2 * pw9 k) (by omega) (by omega) (by omega) (Or.inr (by omega)) (fun y a b => hf3 y (by omega) b) N (by omega)
        refine ⟨r, ?_, g⟩
        simp (disch := omega) only [bd_e, jn_e, bi_e, gd_t, it_e, ie_e, if_true, if_false, ii_lit, ii_add, ii_sub, ii_mul, ii_neg, ii_lt, ii_le, ii_eq, ii_nat, ii_div, ii_nI, ll_lit, ll_add, ll_sub, ll_mul, ll_neg, ll_div, ii_toL, ll_toI, lz_gt, lz_lt, lz_le, lz_ge, lz_eq, ll_lt, ll_le, ll_eq, ed, wor_c h hW ht0 ht1 h1 h2 (show 0 ≤ f + 2 * pw9 k by omega) (show f + 2 * pw9 k ≤ 5001 by omega) hN0, e]
theorem gzrc (h : CB X Y B S T n ds) (hW : WB X Y) (h8 : X 8 = 0) {t l q most : Int} (ht0 : 0 ≤ t) (ht1 : t ≤ 18567) (h1 : 0 ≤ l) (h2 : l ≤ 10000) (hm0 : 0 ≤ most) (hm1 : most ≤ 5000) (hq0 : -1000000000000 ≤ q) (hq1 : q ≤ 1000000000000) {N : Nat} (hN : 200 ≤ N) : ∃ r, f_X0_greatestRate N B S T n ds (II (DD t)) (II l) (LL q) (II most) = some (II r) ∧ GS X Y t l q most r := by
  have ep : pw9 12 = 4096 := rfl
  obtain ⟨r, e, g⟩ := gzrL h hW h8 ht0 ht1 h1 h2 hm0 hm1 hq0 hq1 hN 12 (-1) (by omega) (by omega) (by omega) (Or.inl rfl) (fun y a b => by rw [ep] at a; omega) N (by omega)
  refine ⟨r, ?_, g⟩
  rw [ep] at e
  unfold f_X0_greatestRate
  simp (disch := omega) only [bd_e, jn_e, bi_e, gd_t, it_e, ie_e, if_true, if_false, ii_lit, ii_add, ii_sub, ii_mul, ii_neg, ii_lt, ii_le, ii_eq, ii_nat, ii_div, ii_nI, e]
theorem fp_c (h : CB X Y B S T n ds) (hW : WB X Y) {t p : Int} (ht0 : 0 ≤ t) (ht1 : t ≤ 18627) (h1 : 0 ≤ p) (h2 : p ≤ 30000) {N : Nat} (hN : 200 ≤ N) : f_X0_fullPrice N B S n ds (II (DD t)) (II p) = some (LL (FP9 X Y t p)) := by
  have h5 := hW.2.1
  have r := fp_r hW (t := t) h1 h2
  unfold f_X0_fullPrice f_X0_face FP9
  rw [h.1.2.1]
  simp (disch := omega) only [bd_e, jn_e, bi_e, gd_t, it_e, ie_e, if_true, if_false, ii_lit, ii_add, ii_sub, ii_mul, ii_neg, ii_lt, ii_le, ii_eq, ii_nat, ii_div, ii_nI, ll_lit, ll_add, ll_sub, ll_mul, ll_neg, ll_div, ii_toL, ll_toI, lz_gt, lz_lt, lz_le, lz_ge, lz_eq, ll_lt, ll_le, ll_eq, fo_c h5.1 h5.2.1, acf_c h hW ht0 ht1 (show 0 ≤ 10 * X 5 by omega) (show 10 * X 5 ≤ 100000 by omega) hN]
theorem yld_c (h : CB X Y B S T n ds) (hW : WB X Y) (h8 : X 8 = 0) {t p : Int} (ht0 : 0 ≤ t) (ht1 : t ≤ 18567) (h1 : 0 ≤ p) (h2 : p ≤ 30000) {N : Nat} (hN : 200 ≤ N) : ∃ r, f_X0_yieldAt N B S T n ds (II (DD t)) (II p) = some (II r) ∧ GS X Y t (X 5) (FP9 X Y t p) 5000 r := by
  have h5 := hW.2.1
  have r := fp_r hW (t := t) h1 h2
  obtain ⟨r9, e, g⟩ := gzrc h hW h8 ht0 ht1 h5.1 h5.2.1 (most := 5000) (q := FP9 X Y t p) (by omega) (by omega) (by omega) (by omega) hN
  refine ⟨r9, ?_, g⟩
  unfold f_X0_yieldAt
  rw [gone_c h hW, h.1.2.1]
  simp (disch := omega) only [bd_e, jn_e, bi_e, gd_t, it_e, ie_e, if_true, if_false, ii_lit, ii_add, ii_sub, ii_mul, ii_neg, ii_lt, ii_le, ii_eq, ii_nat, ii_div, ii_nI, ll_lit, ll_add, ll_sub, ll_mul, ll_neg, ll_div, ii_toL, ll_toI, lz_gt, lz_lt, lz_le, lz_ge, lz_eq, ll_lt, ll_le, ll_eq, fp_c h hW ht0 (show t ≤ 18627 by omega) h1 h2 hN, e]
end C12
section M12
variable {X Y : Nat → Int} {mof mdy : Nat → Int32} {i : Nat} {M : Nat → Int32}
theorem wnow_m (h : MD X Y mof mdy i) (hW : WB X Y) {t y : Int} (hM : M 1 = II t) (ht0 : 0 ≤ t) (ht1 : t ≤ 18567) (hy : 0 ≤ y) (hy1 : y ≤ 5001) {N : Nat} (hN : 300 ≤ N) : f_X5_worthNow N M mof mdy (II i) (II y) = some (LL (if X 8 = 0 then WO X Y t (X 5) y else 0)) := by
  have h5 := hW.2.1
  unfold f_X5_worthNow
  rw [hM]
  by_cases c : X 8 = 0
  · simp (disch := omega) only [bd_e, jn_e, bi_e, gd_t, it_e, ie_e, if_true, if_false, ii_lit, ii_add, ii_sub, ii_mul, ii_neg, ii_lt, ii_le, ii_eq, ii_nat, ii_div, ii_nI, ll_lit, ll_add, ll_sub, ll_mul, ll_neg, ll_div, ii_toL, ll_toI, lz_gt, lz_lt, lz_le, lz_ge, lz_eq, ll_lt, ll_le, ll_eq, thr_m h hW, own_5 h, won_m h hW ht0 ht1 h5.1 h5.2.1 hy hy1 hN]
  · simp (disch := omega) only [bd_e, jn_e, bi_e, gd_t, it_e, ie_e, if_true, if_false, ii_lit, ii_add, ii_sub, ii_mul, ii_neg, ii_lt, ii_le, ii_eq, ii_nat, ii_div, ii_nI, ll_lit, ll_add, ll_sub, ll_mul, ll_neg, ll_div, ii_toL, ll_toI, lz_gt, lz_lt, lz_le, lz_ge, lz_eq, ll_lt, ll_le, ll_eq, thr_m h hW]
theorem fp_m (h : MD X Y mof mdy i) (hW : WB X Y) {t p : Int} (hM : M 1 = II t) (ht0 : 0 ≤ t) (ht1 : t ≤ 18627) (h1 : 0 ≤ p) (h2 : p ≤ 30000) {N : Nat} (hN : 200 ≤ N) : f_X5_fullPrice N M mof mdy (II i) (II p) = some (LL (if X 8 = 0 then FP9 X Y t p else 10 * X 5 * p / 10000)) := by
  have h5 := hW.2.1
  have r := fp_r hW (t := t) h1 h2
  have ac := ac_r hW (t := t) (F := 10 * X 5) (by omega) (by omega)
  unfold f_X5_fullPrice FP9
  rw [hM]
  by_cases c : X 8 = 0
  · simp (disch := omega) only [bd_e, jn_e, bi_e, gd_t, it_e, ie_e, if_true, if_false, ii_lit, ii_add, ii_sub, ii_mul, ii_neg, ii_lt, ii_le, ii_eq, ii_nat, ii_div, ii_nI, ll_lit, ll_add, ll_sub, ll_mul, ll_neg, ll_div, ii_toL, ll_toI, lz_gt, lz_lt, lz_le, lz_ge, lz_eq, ll_lt, ll_le, ll_eq, own_5 h, acc_m h hW ht0 ht1 hN]
  · simp (disch := omega) only [bd_e, jn_e, bi_e, gd_t, it_e, ie_e, if_true, if_false, ii_lit, ii_add, ii_sub, ii_mul, ii_neg, ii_lt, ii_le, ii_eq, ii_nat, ii_div, ii_nI, ll_lit, ll_add, ll_sub, ll_mul, ll_neg, ll_div, ii_toL, ll_toI, lz_gt, lz_lt, lz_le, lz_ge, lz_eq, ll_lt, ll_le, ll_eq, own_5 h, acc_m h hW ht0 ht1 hN, Int.add_zero]
theorem yl_L (h : MD X Y mof mdy i) (hW : WB X Y) (h8 : X 8 = 0) {t q : Int} (hM : M 1 = II t) (ht0 : 0 ≤ t) (ht1 : t ≤ 18567) (hq0 : -1000000000000 ≤ q) (hq1 : q ≤ 1000000000000) {N0 : Nat} (hN0 : 300 ≤ N0) : ∀ (d : Nat) (f a : Int), a - f ≤ d → -1 ≤ f → f < a → a ≤ 5001 → (f = -1 ∨ q ≤ WO X Y t (X 5) f) → (∀ y, a ≤ y → y ≤ 5000 → WO X Y t (X 5) y < q) → ∀ N : Nat, d + 1 ≤ N → ∃ r, f_X5_yielded_L25 N0 M mof mdy (II i) (LL q) N (II f) (II a) = some (II r) ∧ GS X Y t (X 5) q 5000 r := by
  intro d
  induction d with
  | zero => intro f a hd hf hfa; omega
  | succ d ih =>
    intro f a hd hf hfa ha hp hn N hN
    obtain ⟨N, rfl⟩ : ∃ N', N = N' + 1 := ⟨N - 1, by omega⟩
    have h5 := hW.2.1
    unfold f_X5_yielded_L25
    by_cases c1 : a - f ≤ 1
    · refine ⟨f, ?_, by omega, by omega, hp, fun y b c => hn y (by omega) c⟩
      simp (disch := omega) only [bd_e, jn_e, bi_e, gd_t, it_e, ie_e, if_true, if_false, ii_lit, ii_add, ii_sub, ii_mul, ii_neg, ii_lt, ii_le, ii_eq, ii_nat, ii_div, ii_nI, ll_lit, ll_add, ll_sub, ll_mul, ll_neg, ll_div, ii_toL, ll_toI, lz_gt, lz_lt, lz_le, lz_ge, lz_eq, ll_lt, ll_le, ll_eq]
    · obtain ⟨m, hm⟩ : ∃ m, m = (a + f) / 2 := ⟨_, rfl⟩
      have w := wo_r hW (t := t) (l := X 5) (y := m) ht0 h5.1 h5.2.1 (by omega) (by omega)
      by_cases c2 : WO X Y t (X 5) m < q
      · obtain ⟨r, e, g⟩ := ih f m (by omega) hf (by omega) (by omega) hp (fun y b c => by
          have := wo_m hW (t := t) (l := X 5) (y1 := m) (y2 := y) ht0 h5.1 h5.2.1 (by omega) b (by omega)
          omega) N (by omega)
        refine ⟨r, ?_, g⟩
        simp (disch := omega) only [bd_e, jn_e, bi_e, gd_t, it_e, ie_e, if_true, if_false, ii_lit, ii_add, ii_sub, ii_mul, ii_neg, ii_lt, ii_le, ii_eq, ii_nat, ii_div, ii_nI, ll_lit, ll_add, ll_sub, ll_mul, ll_neg, ll_div, ii_toL, ll_toI, lz_gt, lz_lt, lz_le, lz_ge, lz_eq, ll_lt, ll_le, ll_eq, ← hm, wnow_m h hW hM ht0 ht1 (show 0 ≤ m by omega) (show m ≤ 5001 by omega) hN0, e]
      · obtain ⟨r, e, g⟩ := ih m a (by omega) (by omega) (by omega) ha (Or.inr (by omega)) hn N (by omega)
        refine ⟨r, ?_, g⟩
        simp (disch := omega) only [bd_e, jn_e, bi_e, gd_t, it_e, ie_e, if_true, if_false, ii_lit, ii_add, ii_sub, ii_mul, ii_neg, ii_lt, ii_le, ii_eq, ii_nat, ii_div, ii_nI, ll_lit, ll_add, ll_sub, ll_mul, ll_neg, ll_div, ii_toL, ll_toI, lz_gt, lz_lt, lz_le, lz_ge, lz_eq, ll_lt, ll_le, ll_eq, ← hm, wnow_m h hW hM ht0 ht1 (show 0 ≤ m by omega) (show m ≤ 5001 by omega) hN0, e]
theorem yld_m (h : MD X Y mof mdy i) (hW : WB X Y) (h8 : X 8 = 0) {t p : Int} (hM : M 1 = II t) (ht0 : 0 ≤ t) (ht1 : t ≤ 18567) (h1 : 0 ≤ p) (h2 : p ≤ 30000) {N : Nat} (hN : 6000 ≤ N) : ∃ r, f_X5_yielded N M mof mdy (II i) (II p) = some (II r) ∧ GS X Y t (X 5) (FP9 X Y t p) 5000 r := by
  have r := fp_r hW (t := t) h1 h2
  obtain ⟨r9, e, g⟩ := yl_L h hW h8 hM ht0 ht1 (q := FP9 X Y t p) (by omega) (by omega) (show 300 ≤ N by omega) 5002 (-1) 5001 (by omega) (by omega) (by omega) (by omega) (Or.inl rfl) (fun y a b => by omega) N (by omega)
  refine ⟨r9, ?_, g⟩
  unfold f_X5_yielded
  simp (disch := omega) only [bd_e, jn_e, bi_e, gd_t, it_e, ie_e, if_true, if_false, ii_lit, ii_add, ii_sub, ii_mul, ii_neg, ii_lt, ii_le, ii_eq, ii_nat, ii_div, ii_nI, ll_lit, ll_add, ll_sub, ll_mul, ll_neg, ll_div, ii_toL, ll_toI, lz_gt, lz_lt, lz_le, lz_ge, lz_eq, ll_lt, ll_le, ll_eq, thr_m h hW, fp_m h hW hM ht0 (show t ≤ 18627 by omega) h1 h2 (show 200 ≤ N by omega), e]
theorem cl_L (h : MD X Y mof mdy i) (hW : WB X Y) {k : Nat} (hk : (k : Int) < X 6) {l : Int} (h1 : 0 ≤ l) (h2 : l ≤ 10000) {N0 : Nat} (hN0 : 300 ≤ N0) : ∀ (d : Nat) (f a : Int), a - f ≤ d → -1 ≤ f → f < a → a ≤ 2001 → (f = -1 ∨ 10 * l * X 13 / 10000 + 1 ≤ WO X Y (Y (k + 1)) l f) → (∀ y, a ≤ y → y ≤ 2000 → WO X Y (Y (k + 1)) l y < 10 * l * X 13 / 10000 + 1) → ∀ N : Nat, d + 1 ≤ N → ∃ r, f_X5_callsAt_L53 M mdy (II i) (II k) N0 mof (II l) N (II f) (II a) = some (II r, va_up M 0 (II 0)) ∧ GS X Y (Y (k + 1)) l (10 * l * X 13 / 10000 + 1) 2000 r := by
  intro d
  induction d with
  | zero => intro f a hd hf hfa; omega
  | succ d ih =>
    intro f a hd hf hfa ha hp hn N hN
    obtain ⟨N, rfl⟩ : ∃ N', N = N' + 1 := ⟨N - 1, by omega⟩
    have h5 := hW.2.1
    have h13 := hW.2.2.1
    have yk := wb_y hW (j := k + 1) (by omega)
    have mm := mulr (a := 10 * l) (A := 100000) (b := X 13) (B := 15000) (by omega) (by omega) (by omega) (by omega)
    unfold f_X5_callsAt_L53 f_X5_callPaid
    by_cases c1 : a - f ≤ 1
    · refine ⟨f, ?_, by omega, by omega, hp, fun y b c => hn y (by omega) c⟩
      simp (disch := omega) only [bd_e, jn_e, bi_e, gd_t, it_e, ie_e, if_true, if_false, ii_lit, ii_add, ii_sub, ii_mul, ii_neg, ii_lt, ii_le, ii_eq, ii_nat, ii_div, ii_nI, ll_lit, ll_add, ll_sub, ll_mul, ll_neg, ll_div, ii_toL, ll_toI, lz_gt, lz_lt, lz_le, lz_ge, lz_eq, ll_lt, ll_le, ll_eq]
    · obtain ⟨m, hm⟩ : ∃ m, m = (a + f) / 2 := ⟨_, rfl⟩
      have w := wo_r hW (t := Y (k + 1)) (l := l) (y := m) yk.1 h1 h2 (by omega) (by omega)
      by_cases c2 : WO X Y (Y (k + 1)) l m < 10 * l * X 13 / 10000 + 1
      · obtain ⟨r, e, g⟩ := ih f m (by omega) hf (by omega) (by omega) hp (fun y b c => by
          have := wo_m hW (t := Y (k + 1)) (l := l) (y1 := m) (y2 := y) yk.1 h1 h2 (by omega) b (by omega)
          omega) N (by omega)
        refine ⟨r, ?_, g⟩
        simp (disch := omega) only [bd_e, jn_e, bi_e, gd_t, it_e, ie_e, if_true, if_false, ii_lit, ii_add, ii_sub, ii_mul, ii_neg, ii_lt, ii_le, ii_eq, ii_nat, ii_div, ii_nI, ll_lit, ll_add, ll_sub, ll_mul, ll_neg, ll_div, ii_toL, ll_toI, lz_gt, lz_lt, lz_le, lz_ge, lz_eq, ll_lt, ll_le, ll_eq, ← hm, cd_k h hW (show ((k + 1 : Nat) : Int) ≤ X 6 by omega), own_13 h, won_m h hW yk.1 yk.2.2 h1 h2 (show 0 ≤ m by omega) (show m ≤ 5001 by omega) hN0, e]
      · obtain ⟨r, e, g⟩ := ih m a (by omega) (by omega) (by omega) ha (Or.inr (by omega)) hn N (by omega)
        refine ⟨r, ?_, g⟩
        simp (disch := omega) only [bd_e, jn_e, bi_e, gd_t, it_e, ie_e, if_true, if_false, ii_lit, ii_add, ii_sub, ii_mul, ii_neg, ii_lt, ii_le, ii_eq, ii_nat, ii_div, ii_nI, ll_lit, ll_add, ll_sub, ll_mul, ll_neg, ll_div, ii_toL, ll_toI, lz_gt, lz_lt, lz_le, lz_ge, lz_eq, ll_lt, ll_le, ll_eq, ← hm, cd_k h hW (show ((k + 1 : Nat) : Int) ≤ X 6 by omega), own_13 h, won_m h hW yk.1 yk.2.2 h1 h2 (show 0 ≤ m by omega) (show m ≤ 5001 by omega) hN0, e]
end M12
