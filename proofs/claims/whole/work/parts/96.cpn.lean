/-! pure: sinking, coupons, interest, accrued: class and reference -/
theorem lz_gt (x y : Int64) : (II 0 < lg_cmp x y) = (y < x) := propext (lg_cmp_gt x y)
theorem lz_lt (x y : Int64) : (lg_cmp x y < II 0) = (x < y) := propext (lg_cmp_lt x y)
theorem lz_le (x y : Int64) : (lg_cmp x y ≤ II 0) = (x ≤ y) := propext (lg_cmp_le x y)
theorem lz_ge (x y : Int64) : (II 0 ≤ lg_cmp x y) = (y ≤ x) := propext (lg_cmp_ge x y)
theorem lz_eq (x y : Int64) : (lg_cmp x y = II 0) = (x = y) := propext (lg_cmp_eq x y)
def SK (X Y : Nat → Int) (j : Nat) (l : Int) : Int := if 0 < X 11 ∧ (j : Int) < X 6 - 1 ∧ X 10 ≤ Y (j + 1) then (if l < X 11 then l else X 11) else 0
def CP (X Y : Nat → Int) (j : Nat) (F : Int) : Int := if j = 0 ∧ Y 0 < X 0 then F * X 2 * DC X (X 0) (Y 1) / YP X Y 0 else F * X 2 / (10000 * X 3)
theorem sk_r {X Y : Nat → Int} (hW : WB X Y) {j : Nat} {l : Int} (h1 : 0 ≤ l) : 0 ≤ SK X Y j l ∧ SK X Y j l ≤ l := by
  unfold SK
  repeat' split
  all_goals omega
theorem yp_r {X Y : Nat → Int} (hW : WB X Y) {j : Nat} (hj : (j : Int) < X 6) : 10000 ≤ YP X Y j ∧ YP X Y j ≤ 2232000000 ∧ (X 4 = 3 → 10000 * (Y (j + 1) - Y j) ≤ YP X Y j) ∧ (X 4 ≠ 3 → 3600000 ≤ YP X Y j) := by
  have s := wb_s hW hj
  have y0 := wb_y hW (j := j) (by omega)
  have y1 := wb_y hW (j := j + 1) (by omega)
  have e : ∀ f : Int, 10000 * f * (Y (j + 1) - Y j) = f * (10000 * (Y (j + 1) - Y j)) := fun f => by rw [Int.mul_comm 10000 f, Int.mul_assoc]
  unfold YP
  rcases hW.1.2.2.2.2.2.1 with h | h | h | h <;> rw [h, e] <;> (repeat' split) <;> omega
theorem dc_r {X : Nat → Int} {a b : Int} (h1 : 0 ≤ a) (h2 : a ≤ b) (h3 : b ≤ 18627) : 0 ≤ DC X a b ∧ DC X a b ≤ 18627 ∧ (X 4 = 3 → DC X a b = b - a) := by
  have := th_r h1 h2 h3
  unfold DC
  split
  · omega
  · omega
/-- what an interest is worth at most -/
theorem it_r {X Y : Nat → Int} (hW : WB X Y) {j : Nat} (hj : (j : Int) < X 6) {F a b : Int} (hF : 0 ≤ F) (hF1 : F ≤ 100000) (h1 : Y j ≤ a) (h2 : a ≤ b) (h3 : b ≤ Y (j + 1)) : 0 ≤ F * X 2 ∧ F * X 2 ≤ 200000000 ∧ 0 ≤ F * X 2 * DC X a b ∧ F * X 2 * DC X a b ≤ 3725400000000 ∧ 0 ≤ F * X 2 * DC X a b / YP X Y j ∧ F * X 2 * DC X a b / YP X Y j ≤ 1100000 := by
  have y0 := wb_y hW (j := j) (by omega)
  have y1 := wb_y hW (j := j + 1) (by omega)
  have hy := yp_r hW hj
  have m1 := mulr hF hF1 hW.1.2.2.2.1 hW.1.2.2.2.2.1
  have d := dc_r (X := X) (a := a) (b := b) (by omega) h2 (by omega)
  have m2 := mulr m1.1 m1.2 d.1 d.2.1
  have q := divr (p := F * X 2 * DC X a b) (d := YP X Y j) (q := 1100000) m2.1 (by omega) (by
    by_cases c : X 4 = 3
    · have m3 := mulr m1.1 m1.2 d.1 (show DC X a b ≤ Y (j + 1) - Y j by have := d.2.2 c; omega)
      have := hy.2.2.1 c
      omega
    · have := hy.2.2.2 c
      omega)
  refine ⟨m1.1, by omega, m2.1, by omega, q.1, q.2⟩
theorem cp_r {X Y : Nat → Int} (hW : WB X Y) {j : Nat} (hj : (j : Int) < X 6) {F : Int} (hF : 0 ≤ F) (hF1 : F ≤ 100000) : 0 ≤ CP X Y j F ∧ CP X Y j F ≤ 1100000 := by
  have m1 := mulr hF hF1 hW.1.2.2.2.1 hW.1.2.2.2.2.1
  have y := hW.2.2.2.1
  unfold CP
  split
  · have := it_r hW (j := 0) (by omega) hF hF1 (a := X 0) (b := Y 1) (by omega) (by omega) (Int.le_refl _)
    omega
  · rcases hW.1.2.2.2.2.2.1 with h | h | h | h <;> rw [h] <;> omega
section C7
variable {X Y : Nat → Int} {B S : Nat → Int32} {T : Nat → Int64} {n : Nat} {ds : Nat → Int32}
theorem snk_c (h : CB X Y B S T n ds) (hW : WB X Y) {j : Nat} (hj : j < n) {l : Int} (h1 : 0 ≤ l) (h2 : l ≤ 10000) : f_X0_sunkOn B n ds (II j) (II l) = some (II (SK X Y j l)) := by
  have h6 := hW.2.1.2.2.2.1
  have hp := hW.2.2.1
  obtain ⟨⟨hn, b1, b2, b3, b4, b6, b8, b5, b7⟩, -, hd⟩ := h
  have hy := wb_y hW (j := j + 1) (by omega)
  have ed := hd j hj
  unfold f_X0_sunkOn SK
  by_cases c1 : (j : Int) < X 6 - 1
  · by_cases c2 : 0 < X 11
    · have e5 := b5 c2
      have bt := dd_b (n := X 10) (by omega) (by omega)
      have by9 := dd_b hy.1 (show Y (j + 1) ≤ 18627 by omega)
      have ec := dd_lt_iff hy.1 (show Y (j + 1) ≤ 18627 by omega) (show 0 ≤ X 10 by omega) (show X 10 ≤ 18627 by omega)
      by_cases c3 : X 10 ≤ Y (j + 1)
      · by_cases c4 : l < X 11
        · simp (disch := omega) only [bd_e, jn_e, bi_e, gd_t, it_e, ie_e, if_true, if_false, ii_lit, ii_add, ii_sub, ii_mul, ii_neg, ii_lt, ii_le, ii_eq, ii_nat, ii_div, ii_nI, Int.toNat_natCast, b6, ed, e5, ec]
        · simp (disch := omega) only [bd_e, jn_e, bi_e, gd_t, it_e, ie_e, if_true, if_false, ii_lit, ii_add, ii_sub, ii_mul, ii_neg, ii_lt, ii_le, ii_eq, ii_nat, ii_div, ii_nI, Int.toNat_natCast, b6, ed, e5, ec]
      · simp (disch := omega) only [bd_e, jn_e, bi_e, gd_t, it_e, ie_e, if_true, if_false, ii_lit, ii_add, ii_sub, ii_mul, ii_neg, ii_lt, ii_le, ii_eq, ii_nat, ii_div, ii_nI, Int.toNat_natCast, b6, ed, e5, ec]
    · have e : X 11 = 0 := by omega
      by_cases c3 : ds j < B 5
      · simp (disch := omega) only [bd_e, jn_e, bi_e, gd_t, it_e, ie_e, if_true, if_false, ii_lit, ii_add, ii_sub, ii_mul, ii_neg, ii_lt, ii_le, ii_eq, ii_nat, ii_div, ii_nI, Int.toNat_natCast, b6, c3]
      · simp (disch := omega) only [bd_e, jn_e, bi_e, gd_t, it_e, ie_e, if_true, if_false, ii_lit, ii_add, ii_sub, ii_mul, ii_neg, ii_lt, ii_le, ii_eq, ii_nat, ii_div, ii_nI, Int.toNat_natCast, b6, c3, e]
  · simp (disch := omega) only [bd_e, jn_e, bi_e, gd_t, it_e, ie_e, if_true, if_false, ii_lit, ii_add, ii_sub, ii_mul, ii_neg, ii_lt, ii_le, ii_eq, ii_nat, ii_div, ii_nI, Int.toNat_natCast, b6]
theorem cpn_c (h : CB X Y B S T n ds) (hW : WB X Y) {j : Nat} (hj : j < n) {F : Int} (hF : 0 ≤ F) (hF1 : F ≤ 100000) : f_X3_couponFor S T (II j) (LL F) = some (LL (CP X Y j F)) := by
  have h6 := hW.2.1.2.2.2.1
  have hw1 := hW.1
  obtain ⟨⟨hn, -⟩, ⟨s0, s1, s2, s3, s4, s5, t7, t8⟩, hd⟩ := h
  have y := hW.2.2.2.1
  have y0 := wb_y hW (j := 0) (by omega)
  have b0 := dd_b (n := X 0) (by omega) (by omega)
  have b1 := dd_b (n := Y 0) (by omega) (by omega)
  have ec := dd_le_iff (a := X 0) (b := Y 0) (by omega) (by omega) (by omega) (by omega)
  have m1 := it_r hW (j := 0) (by omega) hF hF1 (a := X 0) (b := Y 1) (by omega) (by omega) (Int.le_refl _)
  have hy := yp_r hW (j := 0) (by omega)
  unfold f_X3_couponFor CP
  by_cases c1 : j = 0
  · by_cases c2 : Y 0 < X 0
    · simp (disch := omega) only [bd_e, jn_e, bi_e, gd_t, it_e, ie_e, if_true, if_false, ii_lit, ii_add, ii_sub, ii_mul, ii_neg, ii_lt, ii_le, ii_eq, ii_nat, ii_div, ii_nI, ll_lit, ll_add, ll_sub, ll_mul, ll_neg, ll_div, ii_toL, ll_toI, lz_gt, lz_lt, lz_le, lz_ge, lz_eq, ll_lt, ll_le, ll_eq, s0, s2, s3, s5, t7, t8, ec]
    · simp (disch := omega) only [bd_e, jn_e, bi_e, gd_t, it_e, ie_e, if_true, if_false, ii_lit, ii_add, ii_sub, ii_mul, ii_neg, ii_lt, ii_le, ii_eq, ii_nat, ii_div, ii_nI, ll_lit, ll_add, ll_sub, ll_mul, ll_neg, ll_div, ii_toL, ll_toI, lz_gt, lz_lt, lz_le, lz_ge, lz_eq, ll_lt, ll_le, ll_eq, s0, s2, s3, s5, t7, t8, ec]
  · simp (disch := omega) only [bd_e, jn_e, bi_e, gd_t, it_e, ie_e, if_true, if_false, ii_lit, ii_add, ii_sub, ii_mul, ii_neg, ii_lt, ii_le, ii_eq, ii_nat, ii_div, ii_nI, ll_lit, ll_add, ll_sub, ll_mul, ll_neg, ll_div, ii_toL, ll_toI, lz_gt, lz_lt, lz_le, lz_ge, lz_eq, ll_lt, ll_le, ll_eq, s0, s2, s3, s5, t7, t8, ec]
end C7
