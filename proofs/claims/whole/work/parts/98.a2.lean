/-! pure: the worth, of class and reference; it never grows with the yield -/
def PY (X Y : Nat → Int) (j : Nat) (l : Int) : Int := CP X Y j (10 * l) + 10 * (if (j : Int) = X 6 - 1 then l else SK X Y j l)
def WS (X Y : Nat → Int) (y : Int) : Nat → Nat → Int → Int → Int → Int
  | 0, _, _, _, s => s
  | k + 1, j, l, w, s => WS X Y y k (j + 1) (l - SK X Y j l) (w * (10000 * X 3) / (10000 * X 3 + y)) (s + PY X Y j l * w / 1000000000)
def W0 (Y : Nat → Int) (t y : Int) (j : Nat) : Int := 3650000000000000 / (3650000 + y * (Y (j + 1) - t))
def WO (X Y : Nat → Int) (t l y : Int) : Int := if X 1 ≤ t then 0 else WS X Y y ((X 6).toNat - FB Y t (X 6).toNat 0) (FB Y t (X 6).toNat 0) l (W0 Y t y (FB Y t (X 6).toNat 0)) 0
theorem py_r {X Y : Nat → Int} (hW : WB X Y) {j : Nat} (hj : (j : Int) < X 6) {l : Int} (h1 : 0 ≤ l) (h2 : l ≤ 10000) : 0 ≤ PY X Y j l ∧ PY X Y j l ≤ 1200000 := by
  have a := cp_r hW hj (F := 10 * l) (by omega) (by omega)
  have b := sk_r hW (j := j) h1
  unfold PY
  split <;> omega
theorem wh_r {X Y : Nat → Int} (hW : WB X Y) : 10000 ≤ 10000 * X 3 ∧ 10000 * X 3 ≤ 120000 := by
  have := hW.1.2.2.2.2.2.1
  omega
/-- a weight, a step on -/
theorem ws_w {X Y : Nat → Int} (hW : WB X Y) {w y : Int} (h1 : 0 ≤ w) (h2 : w ≤ 1000000000) (h3 : 0 ≤ y) : 0 ≤ w * (10000 * X 3) ∧ w * (10000 * X 3) ≤ 120000000000000 ∧ 0 ≤ w * (10000 * X 3) / (10000 * X 3 + y) ∧ w * (10000 * X 3) / (10000 * X 3 + y) ≤ 1000000000 := by
  have a := wh_r hW
  have m := mulr h1 h2 (show 0 ≤ 10000 * X 3 by omega) a.2
  have m2 := mulr (A := w) (B := 10000 * X 3 + y) h1 (Int.le_refl _) (show 0 ≤ 10000 * X 3 by omega) (by omega)
  have q := divr (p := w * (10000 * X 3)) (d := 10000 * X 3 + y) (q := w) m.1 (by omega) m2.2
  refine ⟨m.1, by omega, q.1, by omega⟩
theorem ws_p {X Y : Nat → Int} (hW : WB X Y) {j : Nat} (hj : (j : Int) < X 6) {l w : Int} (h1 : 0 ≤ l) (h2 : l ≤ 10000) (h3 : 0 ≤ w) (h4 : w ≤ 1000000000) : 0 ≤ PY X Y j l * w ∧ PY X Y j l * w ≤ 1200000000000000 ∧ 0 ≤ PY X Y j l * w / 1000000000 ∧ PY X Y j l * w / 1000000000 ≤ 1200000 := by
  have a := py_r hW hj h1 h2
  have m := mulr a.1 a.2 h3 h4
  omega
theorem w0_r {Y : Nat → Int} {t y : Int} {j : Nat} (h1 : 0 ≤ y) (h2 : y ≤ 5001) (h3 : t ≤ Y (j + 1)) (h4 : Y (j + 1) ≤ 18627) (h5 : 0 ≤ t) : 0 ≤ y * (Y (j + 1) - t) ∧ y * (Y (j + 1) - t) ≤ 94000000 ∧ 0 ≤ W0 Y t y j ∧ W0 Y t y j ≤ 1000000000 := by
  have m := mulr h1 h2 (show 0 ≤ Y (j + 1) - t by omega) (show Y (j + 1) - t ≤ 18627 by omega)
  have q := divr (p := 3650000000000000) (d := 3650000 + y * (Y (j + 1) - t)) (q := 1000000000) (by omega) (by omega) (by omega)
  refine ⟨m.1, by omega, q.1, q.2⟩
theorem ws_r {X Y : Nat → Int} (hW : WB X Y) {y : Int} (hy : 0 ≤ y) : ∀ (k j : Nat) (l w s : Int), ((j + k : Nat) : Int) ≤ X 6 → 0 ≤ l → l ≤ 10000 → 0 ≤ w → w ≤ 1000000000 → s ≤ WS X Y y k j l w s ∧ WS X Y y k j l w s ≤ s + 1200000 * k
  | 0, j, l, w, s, _, _, _, _, _ => by unfold WS; omega
  | k + 1, j, l, w, s, hj, h1, h2, h3, h4 => by
    have r := sk_r hW (j := j) h1
    have a := ws_w hW h3 h4 hy
    have b := ws_p hW (show (j : Int) < X 6 by omega) h1 h2 h3 h4
    have ih := ws_r hW hy k (j + 1) (l - SK X Y j l) (w * (10000 * X 3) / (10000 * X 3 + y)) (s + PY X Y j l * w / 1000000000) (by omega) (by omega) (by omega) a.2.2.1 a.2.2.2
    unfold WS
    omega
theorem div_mono {a b c d : Int} (h1 : 0 ≤ b) (h2 : b ≤ a) (h3 : 0 < c) (h4 : c ≤ d) : b / d ≤ a / c := by
  have h5 : b / d ≤ b / c := by
    refine Int.le_ediv_of_mul_le h3 ?_
    have e1 : 0 ≤ b / d := Int.ediv_nonneg h1 (by omega)
    have e2 : b / d * c ≤ b / d * d := Int.mul_le_mul_of_nonneg_left h4 e1
    have e3 : b / d * d ≤ b := Int.ediv_mul_le b (by omega)
    omega
  exact Int.le_trans h5 (Int.ediv_le_ediv h3 h2)
theorem ws_m {X Y : Nat → Int} (hW : WB X Y) {y1 y2 : Int} (hy : 0 ≤ y1) (hy2 : y1 ≤ y2) : ∀ (k j : Nat) (l w1 w2 s1 s2 : Int), ((j + k : Nat) : Int) ≤ X 6 → 0 ≤ l → l ≤ 10000 → 0 ≤ w2 → w2 ≤ w1 → w1 ≤ 1000000000 → s2 ≤ s1 → WS X Y y2 k j l w2 s2 ≤ WS X Y y1 k j l w1 s1
  | 0, j, l, w1, w2, s1, s2, _, _, _, _, _, _, h => by unfold WS; exact h
  | k + 1, j, l, w1, w2, s1, s2, hj, h1, h2, h3, h4, h5, h6 => by
    have r := sk_r hW (j := j) h1
    have p := py_r hW (show (j : Int) < X 6 by omega) h1 h2
    have wh := wh_r hW
    have a1 := ws_w hW (w := w1) (by omega) h5 hy
    have a2 := ws_w hW (w := w2) (y := y2) h3 (by omega) (by omega)
    have m1 : w2 * (10000 * X 3) ≤ w1 * (10000 * X 3) := Int.mul_le_mul_of_nonneg_right h4 (by omega)
    have m2 : PY X Y j l * w2 ≤ PY X Y j l * w1 := Int.mul_le_mul_of_nonneg_left h4 p.1
    have d1 := div_mono a2.1 m1 (show 0 < 10000 * X 3 + y1 by omega) (show 10000 * X 3 + y1 ≤ 10000 * X 3 + y2 by omega)
    have d2 := Int.ediv_le_ediv (c := 1000000000) (by omega) m2
    unfold WS
    exact ws_m hW hy hy2 k (j + 1) _ _ _ _ _ (by omega) (by omega) (by omega) a2.2.2.1 d1 a1.2.2.2 (by omega)
theorem wo_r {X Y : Nat → Int} (hW : WB X Y) {t l y : Int} (ht : 0 ≤ t) (h1 : 0 ≤ l) (h2 : l ≤ 10000) (h3 : 0 ≤ y) (h4 : y ≤ 5001) : 0 ≤ WO X Y t l y ∧ WO X Y t l y ≤ 200000000 := by
  have h6 := hW.2.1
  obtain ⟨q1, q2, q3, q4⟩ := fb_n hW t
  unfold WO
  split
  · omega
  · have a := q2 (by omega)
    generalize FB Y t (X 6).toNat 0 = q at *
    have yy := wb_y hW (j := q + 1) (by omega)
    have w := w0_r (Y := Y) (t := t) (y := y) (j := q) h3 h4 (by omega) (by omega) ht
    have := ws_r hW h3 ((X 6).toNat - q) q l (W0 Y t y q) 0 (by omega) h1 h2 w.2.2.1 w.2.2.2
    omega
/-- the worth never grows with the yield -/
theorem wo_m {X Y : Nat → Int} (hW : WB X Y) {t l y1 y2 : Int} (ht : 0 ≤ t) (h1 : 0 ≤ l) (h2 : l ≤ 10000) (h3 : 0 ≤ y1) (h4 : y1 ≤ y2) (h5 : y2 ≤ 5001) : WO X Y t l y2 ≤ WO X Y t l y1 := by
  have h6 := hW.2.1
  obtain ⟨q1, q2, q3, q4⟩ := fb_n hW t
  unfold WO
  split
  · exact Int.le_refl _
  · have a := q2 (by omega)
    generalize FB Y t (X 6).toNat 0 = q at *
    have yy := wb_y hW (j := q + 1) (by omega)
    have w1 := w0_r (Y := Y) (t := t) (y := y1) (j := q) h3 (by omega) (by omega) (by omega) ht
    have w2 := w0_r (Y := Y) (t := t) (y := y2) (j := q) (by omega) h5 (by omega) (by omega) ht
    have m : y1 * (Y (q + 1) - t) ≤ y2 * (Y (q + 1) - t) := Int.mul_le_mul_of_nonneg_right h4 (by omega)
    exact ws_m hW h3 h4 _ _ _ _ _ _ _ (by omega) h1 h2 w2.2.2.1 (div_mono (by omega) (Int.le_refl _) (by omega) (by omega)) w1.2.2.2 (Int.le_refl _)
section C10
variable {X Y : Nat → Int} {B S : Nat → Int32} {T : Nat → Int64} {n : Nat} {ds : Nat → Int32}
theorem pay_c (h : CB X Y B S T n ds) (hW : WB X Y) {j : Nat} (hj : j < n) {l : Int} (h1 : 0 ≤ l) (h2 : l ≤ 10000) : f_X0_paymentOn B S T n ds (II j) (II l) = some (LL (PY X Y j l)) := by
  have h6 := hW.2.1.2.2.2.1
  have hn := h.1.1
  have r := sk_r hW (j := j) h1
  unfold f_X0_paymentOn f_X0_isEnd PY
  by_cases c : (j : Int) = X 6 - 1
  · simp (disch := omega) only [bd_e, jn_e, bi_e, gd_t, it_e, ie_e, if_true, if_false, ii_lit, ii_add, ii_sub, ii_mul, ii_neg, ii_lt, ii_le, ii_eq, ii_nat, ii_div, ii_nI, ll_lit, ll_add, ll_sub, ll_mul, ll_neg, ll_div, ii_toL, ll_toI, lz_gt, lz_lt, lz_le, lz_ge, lz_eq, ll_lt, ll_le, ll_eq, fo_c h1 h2, cpn_c h hW hj (show 0 ≤ 10 * l by omega) (show 10 * l ≤ 100000 by omega)]
  · simp (disch := omega) only [bd_e, jn_e, bi_e, gd_t, it_e, ie_e, if_true, if_false, ii_lit, ii_add, ii_sub, ii_mul, ii_neg, ii_lt, ii_le, ii_eq, ii_nat, ii_div, ii_nI, ll_lit, ll_add, ll_sub, ll_mul, ll_neg, ll_div, ii_toL, ll_toI, lz_gt, lz_lt, lz_le, lz_ge, lz_eq, ll_lt, ll_le, ll_eq, fo_c h1 h2, cpn_c h hW hj (show 0 ≤ 10 * l by omega) (show 10 * l ≤ 100000 by omega), snk_c h hW hj h1 h2, fo_c r.1 (show SK X Y j l ≤ 10000 by omega)]
theorem wor_L (h : CB X Y B S T n ds) (hW : WB X Y) {y : Int} (hy : 0 ≤ y) (hy1 : y ≤ 5001) : ∀ (k j : Nat) (l w s : Int), j + k = n → 0 ≤ l → l ≤ 10000 → 0 ≤ w → w ≤ 1000000000 → 0 ≤ s → s ≤ 1200000 * j → ∀ N : Nat, k + 1 ≤ N → f_X0_worthAt_L107 n B S T ds (LL (10000 * X 3)) (II y) N (II l) (LL w) (LL s) (II j) = some (LL (WS X Y y k j l w s))
  | 0, j, l, w, s, hj, h1, h2, h3, h4, h5, h8, N, hN => by
    obtain ⟨N, rfl⟩ : ∃ N', N = N' + 1 := ⟨N - 1, by omega⟩
    have h6 := hW.2.1.2.2.2.1
    have hn := h.1.1
    unfold f_X0_worthAt_L107 WS
    simp (disch := omega) only [bd_e, jn_e, bi_e, gd_t, it_e, ie_e, if_true, if_false, ii_lit, ii_add, ii_sub, ii_mul, ii_neg, ii_lt, ii_le, ii_eq, ii_nat, ii_div, ii_nI, ll_lit, ll_add, ll_sub, ll_mul, ll_neg, ll_div, ii_toL, ll_toI, lz_gt, lz_lt, lz_le, lz_ge, lz_eq, ll_lt, ll_le, ll_eq]
  | k + 1, j, l, w, s, hj, h1, h2, h3, h4, h5, h8, N, hN => by
    obtain ⟨N, rfl⟩ : ∃ N', N = N' + 1 := ⟨N - 1, by omega⟩
    have h6 := hW.2.1.2.2.2.1
    have hn := h.1.1
    have r := sk_r hW (j := j) h1
    have wh := wh_r hW
    have a := ws_w hW h3 h4 hy
    have b := ws_p hW (show (j : Int) < X 6 by omega) h1 h2 h3 h4
    have ih := wor_L h hW hy hy1 k (j + 1) (l - SK X Y j l) (w * (10000 * X 3) / (10000 * X 3 + y)) (s + PY X Y j l * w / 1000000000) (by omega) (by omega) (by omega) a.2.2.1 a.2.2.2 (by omega) (by omega) N (by omega)
    have e : ((j : Int) + 1) = ((j + 1 : Nat) : Int) := by omega
    unfold f_X0_worthAt_L107 WS
    simp (disch := omega) only [bd_e, jn_e, bi_e, gd_t, it_e, ie_e, if_true, if_false, ii_lit, ii_add, ii_sub, ii_mul, ii_neg, ii_lt, ii_le, ii_eq, ii_nat, ii_div, ii_nI, ll_lit, ll_add, ll_sub, ll_mul, ll_neg, ll_div, ii_toL, ll_toI, lz_gt, lz_lt, lz_le, lz_ge, lz_eq, ll_lt, ll_le, ll_eq, pay_c h hW (show j < n by omega) h1 h2, snk_c h hW (show j < n by omega) h1 h2, e, ih]
theorem wor_c (h : CB X Y B S T n ds) (hW : WB X Y) {t l y : Int} (ht0 : 0 ≤ t) (ht1 : t ≤ 18567) (h1 : 0 ≤ l) (h2 : l ≤ 10000) (hy : 0 ≤ y) (hy1 : y ≤ 5001) {N : Nat} (hN : 200 ≤ N) : f_X0_worthAt N B S T n ds (II (DD t)) (II l) (II y) = some (LL (if X 8 = 0 then WO X Y t l y else 0)) := by
  have h6 := hW.2.1
  have hw1 := hW.1
  have hn := h.1.1
  have wh := wh_r hW
  obtain ⟨s0, s1, s2, s3, -⟩ := h.2.1
  obtain ⟨q1, q2, q3, q4⟩ := fb_n hW t
  have ef := fbh_e h hW ht0 (show t ≤ 18627 by omega) hN
  unfold f_X0_worthAt WO
  rw [gone_c h hW]
  generalize FB Y t (X 6).toNat 0 = q at *
  by_cases c : X 8 = 0
  · by_cases c2 : X 1 ≤ t
    · have := q3 c2
      simp (disch := omega) only [bd_e, jn_e, bi_e, gd_t, it_e, ie_e, if_true, if_false, ii_lit, ii_add, ii_sub, ii_mul, ii_neg, ii_lt, ii_le, ii_eq, ii_nat, ii_div, ii_nI, ll_lit, ll_add, ll_sub, ll_mul, ll_neg, ll_div, ii_toL, ll_toI, lz_gt, lz_lt, lz_le, lz_ge, lz_eq, ll_lt, ll_le, ll_eq, ef, s3]
    · have a := q2 (by omega)
      have yy := wb_y hW (j := q + 1) (by omega)
      have w := w0_r (Y := Y) (t := t) (y := y) (j := q) hy hy1 (by omega) (by omega) ht0
      have ed := h.2.2 q (by omega)
      have ih := wor_L h hW hy hy1 ((X 6).toNat - q) q l (W0 Y t y q) 0 (by omega) h1 h2 w.2.2.1 w.2.2.2 (by omega) (by omega) N (by omega)
      have eW : W0 Y t y q = 3650000000000000 / (3650000 + y * (Y (q + 1) - t)) := rfl
      rw [eW] at ih
      simp (disch := omega) only [bd_e, jn_e, bi_e, gd_t, it_e, ie_e, if_true, if_false, ii_lit, ii_add, ii_sub, ii_mul, ii_neg, ii_lt, ii_le, ii_eq, ii_nat, ii_div, ii_nI, ll_lit, ll_add, ll_sub, ll_mul, ll_neg, ll_div, ii_toL, ll_toI, lz_gt, lz_lt, lz_le, lz_ge, lz_eq, ll_lt, ll_le, ll_eq, ef, s3, Int.toNat_natCast, ed, btw_x1 ht0 (show t ≤ 18627 by omega) yy.1 (show Y (q + 1) ≤ 18627 by omega), ih, eW]
  · simp (disch := omega) only [bd_e, jn_e, bi_e, gd_t, it_e, ie_e, if_true, if_false, ii_lit, ii_add, ii_sub, ii_mul, ii_neg, ii_lt, ii_le, ii_eq, ii_nat, ii_div, ii_nI, ll_lit, ll_add, ll_sub, ll_mul, ll_neg, ll_div, ii_toL, ll_toI, lz_gt, lz_lt, lz_le, lz_ge, lz_eq, ll_lt, ll_le, ll_eq, ef, s3]
end C10
