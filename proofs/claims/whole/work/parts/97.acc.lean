/-! pure: accrued, of class and reference; interest and coupons of the reference -/
def BG (X Y : Nat → Int) (j : Nat) : Int := if j = 0 then X 0 else Y j
def AC (X Y : Nat → Int) (t F : Int) : Int := if t < X 0 ∨ X 1 ≤ t then 0 else F * X 2 * DC X (BG X Y (FB Y t (X 6).toNat 0)) t / YP X Y (FB Y t (X 6).toNat 0)
def SU (X Y : Nat → Int) (j : Nat) : Prop := 0 < X 11 ∧ (j : Int) < X 6 - 1 ∧ X 10 ≤ Y (j + 1)
def CU (X Y : Nat → Int) (j : Nat) : Prop := 0 < X 13 ∧ (j : Int) < X 6 - 1 ∧ X 12 ≤ Y (j + 1)
theorem fb_n {X Y : Nat → Int} (hW : WB X Y) (t : Int) : FB Y t (X 6).toNat 0 ≤ (X 6).toNat ∧ (t < X 1 → FB Y t (X 6).toNat 0 < (X 6).toNat ∧ t < Y (FB Y t (X 6).toNat 0 + 1)) ∧ (X 1 ≤ t → FB Y t (X 6).toNat 0 = (X 6).toNat) ∧ (X 0 ≤ t → t < X 1 → BG X Y (FB Y t (X 6).toNat 0) ≤ t ∧ Y (FB Y t (X 6).toNat 0) ≤ BG X Y (FB Y t (X 6).toNat 0)) := by
  obtain ⟨h1, h2, h3, h4⟩ := fb_r Y t (X 6).toNat 0
  have h6 := hW.2.1.2.2.1
  have y := hW.2.2.2.1
  generalize FB Y t (X 6).toNat 0 = q at *
  have hlast : q = (X 6).toNat → X 1 ≤ t := fun e => by
    have := h4 ((X 6).toNat - 1) (by omega) (by omega)
    have e2 : (X 6).toNat - 1 + 1 = (X 6).toNat := by omega
    rw [e2, y.2.2.2.2] at this
    exact this
  have hin : q < (X 6).toNat → t < Y (q + 1) ∧ Y (q + 1) ≤ X 1 := fun e => ⟨h3 (by omega), (wb_y hW (j := q + 1) (by omega)).2.1⟩
  refine ⟨by omega, fun h => ?_, fun h => ?_, fun h5 h6 => ?_⟩
  · have : q < (X 6).toNat := by
      apply Decidable.byContradiction; intro c
      have := hlast (by omega)
      omega
    exact ⟨this, (hin this).1⟩
  · apply Decidable.byContradiction; intro c
    have := hin (by omega)
    omega
  · unfold BG
    split
    · rename_i e; subst e; omega
    · have := h4 (q - 1) (by omega) (by omega)
      have e2 : q - 1 + 1 = q := by omega
      rw [e2] at this
      omega
theorem ac_r {X Y : Nat → Int} (hW : WB X Y) {t F : Int} (hF : 0 ≤ F) (hF1 : F ≤ 100000) : 0 ≤ AC X Y t F ∧ AC X Y t F ≤ 1100000 := by
  have h6 := hW.2.1.2.2.1
  obtain ⟨q1, q2, q3, q4⟩ := fb_n hW t
  unfold AC
  split
  · omega
  · have a := q2 (by omega)
    have b := q4 (by omega) (by omega)
    have := it_r hW (j := FB Y t (X 6).toNat 0) (by omega) hF hF1 (a := BG X Y (FB Y t (X 6).toNat 0)) (b := t) b.2 b.1 (by omega)
    omega
section C8
variable {X Y : Nat → Int} {B S : Nat → Int32} {T : Nat → Int64} {n : Nat} {ds : Nat → Int32}
theorem bg_c (h : CB X Y B S T n ds) (hW : WB X Y) {j : Nat} (hj : j ≤ n) : f_X3_beginOf S n ds (II j) = some (II (DD (BG X Y j))) := by
  have h6 := hW.2.1.2.2.2.1
  obtain ⟨⟨hn, -⟩, ⟨s0, -⟩, hd⟩ := h
  unfold f_X3_beginOf BG
  cases j with
  | zero => simp (disch := omega) only [bd_e, jn_e, bi_e, gd_t, it_e, ie_e, if_true, if_false, ii_lit, ii_add, ii_sub, ii_mul, ii_neg, ii_lt, ii_le, ii_eq, ii_nat, ii_div, ii_nI, s0]
  | succ j =>
    have e : (((j + 1 : Nat) : Int) - 1).toNat = j := by omega
    have ed := hd j (by omega)
    have e0 : ¬ (j + 1 = 0) := by omega
    simp (disch := omega) only [bd_e, jn_e, bi_e, gd_t, it_e, ie_e, if_true, if_false, ii_lit, ii_add, ii_sub, ii_mul, ii_neg, ii_lt, ii_le, ii_eq, ii_nat, ii_div, ii_nI, e, ed]
theorem dc_c (h : CB X Y B S T n ds) (hW : WB X Y) {a b : Int} (h1 : 0 ≤ a) (h2 : a ≤ b) (h4 : b ≤ 18627) : f_X3_daysCounted S (II (DD a)) (II (DD b)) = some (LL (DC X a b)) := by
  have hw1 := hW.1
  obtain ⟨-, ⟨s0, s1, s2, s3, s4, -⟩, -⟩ := h
  have r := th_r h1 h2 h4
  unfold f_X3_daysCounted DC
  by_cases c : X 4 = 0
  · simp (disch := omega) only [bd_e, jn_e, bi_e, gd_t, it_e, ie_e, if_true, if_false, ii_lit, ii_add, ii_sub, ii_mul, ii_neg, ii_lt, ii_le, ii_eq, ii_nat, ii_div, ii_nI, ll_lit, ll_add, ll_sub, ll_mul, ll_neg, ll_div, ii_toL, ll_toI, lz_gt, lz_lt, lz_le, lz_ge, lz_eq, ll_lt, ll_le, ll_eq, s4, th_x1 h1 (show a ≤ 18627 by omega) (show 0 ≤ b by omega) h4]
  · simp (disch := omega) only [bd_e, jn_e, bi_e, gd_t, it_e, ie_e, if_true, if_false, ii_lit, ii_add, ii_sub, ii_mul, ii_neg, ii_lt, ii_le, ii_eq, ii_nat, ii_div, ii_nI, ll_lit, ll_add, ll_sub, ll_mul, ll_neg, ll_div, ii_toL, ll_toI, lz_gt, lz_lt, lz_le, lz_ge, lz_eq, ll_lt, ll_le, ll_eq, s4, btw_x1 h1 (show a ≤ 18627 by omega) (show 0 ≤ b by omega) h4]
theorem yp_c (h : CB X Y B S T n ds) (hW : WB X Y) {j : Nat} (hj : j < n) : f_X3_yearOfPeriod S n ds (II j) = some (LL (YP X Y j)) := by
  have h6 := hW.2.1.2.2.2.1
  have hw1 := hW.1
  have y00 := hW.2.2.2.1
  obtain ⟨⟨hn, -⟩, ⟨s0, s1, s2, s3, s4, s5, -⟩, hd⟩ := h
  have y0 := wb_y hW (j := j) (by omega)
  have y1 := wb_y hW (j := j + 1) (by omega)
  have ed := hd j hj
  unfold f_X3_yearOfPeriod YP
  by_cases c2 : X 4 = 2
  · simp (disch := omega) only [bd_e, jn_e, bi_e, gd_t, it_e, ie_e, if_true, if_false, ii_lit, ii_add, ii_sub, ii_mul, ii_neg, ii_lt, ii_le, ii_eq, ii_nat, ii_div, ii_nI, ll_lit, ll_add, ll_sub, ll_mul, ll_neg, ll_div, ii_toL, ll_toI, lz_gt, lz_lt, lz_le, lz_ge, lz_eq, ll_lt, ll_le, ll_eq, s4]
  · by_cases c3 : X 4 = 3
    · cases j with
      | zero => simp (disch := omega) only [bd_e, jn_e, bi_e, gd_t, it_e, ie_e, if_true, if_false, ii_lit, ii_add, ii_sub, ii_mul, ii_neg, ii_lt, ii_le, ii_eq, ii_nat, ii_div, ii_nI, ll_lit, ll_add, ll_sub, ll_mul, ll_neg, ll_div, ii_toL, ll_toI, lz_gt, lz_lt, lz_le, lz_ge, lz_eq, ll_lt, ll_le, ll_eq, s4, s3, s5, ed, Int.toNat_natCast, Int.toNat_zero, btw_x1 y0.1 (show Y 0 ≤ 18627 by omega) y1.1 (show Y (0 + 1) ≤ 18627 by omega)]
      | succ j =>
        have e : (((j + 1 : Nat) : Int) - 1).toNat = j := by omega
        have ed2 := hd j (by omega)
        simp (disch := omega) only [bd_e, jn_e, bi_e, gd_t, it_e, ie_e, if_true, if_false, ii_lit, ii_add, ii_sub, ii_mul, ii_neg, ii_lt, ii_le, ii_eq, ii_nat, ii_div, ii_nI, ll_lit, ll_add, ll_sub, ll_mul, ll_neg, ll_div, ii_toL, ll_toI, lz_gt, lz_lt, lz_le, lz_ge, lz_eq, ll_lt, ll_le, ll_eq, s4, s3, s5, ed, ed2, e, Int.toNat_natCast, btw_x1 y0.1 (show Y (j + 1) ≤ 18627 by omega) y1.1 (show Y (j + 1 + 1) ≤ 18627 by omega)]
    · simp (disch := omega) only [bd_e, jn_e, bi_e, gd_t, it_e, ie_e, if_true, if_false, ii_lit, ii_add, ii_sub, ii_mul, ii_neg, ii_lt, ii_le, ii_eq, ii_nat, ii_div, ii_nI, ll_lit, ll_add, ll_sub, ll_mul, ll_neg, ll_div, ii_toL, ll_toI, lz_gt, lz_lt, lz_le, lz_ge, lz_eq, ll_lt, ll_le, ll_eq, s4]
theorem acf_c (h : CB X Y B S T n ds) (hW : WB X Y) {t F : Int} (ht0 : 0 ≤ t) (ht1 : t ≤ 18627) (hF : 0 ≤ F) (hF1 : F ≤ 100000) {N : Nat} (hN : 200 ≤ N) : f_X3_accruedFor N S n ds (II (DD t)) (LL F) = some (LL (AC X Y t F)) := by
  have h6 := hW.2.1.2.2.2.1
  have h60 := hW.2.1.2.2.1
  have hw1 := hW.1
  have hn := h.1.1
  obtain ⟨s0, s1, s2, -⟩ := h.2.1
  obtain ⟨q1, q2, q3, q4⟩ := fb_n hW t
  have ec := dd_lt_iff ht0 ht1 (show 0 ≤ X 0 by omega) (show X 0 ≤ 18627 by omega)
  have b1 := dd_b ht0 ht1
  have b0 := dd_b (n := X 0) (by omega) (by omega)
  have ef := fbh_e h hW ht0 ht1 hN
  unfold f_X3_accruedFor AC
  generalize FB Y t (X 6).toNat 0 = q at *
  by_cases c1 : t < X 0
  · simp (disch := omega) only [bd_e, jn_e, bi_e, gd_t, it_e, ie_e, if_true, if_false, ii_lit, ii_add, ii_sub, ii_mul, ii_neg, ii_lt, ii_le, ii_eq, ii_nat, ii_div, ii_nI, ll_lit, ll_add, ll_sub, ll_mul, ll_neg, ll_div, ii_toL, ll_toI, lz_gt, lz_lt, lz_le, lz_ge, lz_eq, ll_lt, ll_le, ll_eq, ef, s0, ec]
  · by_cases c2 : X 1 ≤ t
    · have := q3 c2
      simp (disch := omega) only [bd_e, jn_e, bi_e, gd_t, it_e, ie_e, if_true, if_false, ii_lit, ii_add, ii_sub, ii_mul, ii_neg, ii_lt, ii_le, ii_eq, ii_nat, ii_div, ii_nI, ll_lit, ll_add, ll_sub, ll_mul, ll_neg, ll_div, ii_toL, ll_toI, lz_gt, lz_lt, lz_le, lz_ge, lz_eq, ll_lt, ll_le, ll_eq, ef, s0, ec]
    · have a := q2 (by omega)
      have b := q4 (by omega) (by omega)
      have r := it_r hW (j := q) (by omega) hF hF1 (a := BG X Y q) (b := t) b.2 b.1 (by omega)
      have y := yp_r hW (j := q) (by omega)
      have y0 := wb_y hW (j := q) (by omega)
      simp (disch := omega) only [bd_e, jn_e, bi_e, gd_t, it_e, ie_e, if_true, if_false, ii_lit, ii_add, ii_sub, ii_mul, ii_neg, ii_lt, ii_le, ii_eq, ii_nat, ii_div, ii_nI, ll_lit, ll_add, ll_sub, ll_mul, ll_neg, ll_div, ii_toL, ll_toI, lz_gt, lz_lt, lz_le, lz_ge, lz_eq, ll_lt, ll_le, ll_eq, ef, s0, s2, ec, yp_c h hW (show q < n by omega), bg_c h hW (show q ≤ n by omega), dc_c h hW (show 0 ≤ BG X Y q by omega) b.1 ht1]
theorem fo_c {l : Int} (h1 : 0 ≤ l) (h2 : l ≤ 10000) : f_X0_faceOf (II l) = some (LL (10 * l)) := by
  unfold f_X0_faceOf
  simp (disch := omega) only [bd_e, jn_e, bi_e, gd_t, it_e, ie_e, if_true, if_false, ii_lit, ii_add, ii_sub, ii_mul, ii_neg, ii_lt, ii_le, ii_eq, ii_nat, ii_div, ii_nI, ll_lit, ll_add, ll_sub, ll_mul, ll_neg, ll_div, ii_toL, ll_toI, lz_gt, lz_lt, lz_le, lz_ge, lz_eq, ll_lt, ll_le, ll_eq]
  congr 2
  omega
theorem gone_c (h : CB X Y B S T n ds) (hW : WB X Y) : f_X0_isGone B = some (if X 8 = 0 then II 0 else II 1) := by
  have h8 := hW.2.1
  unfold f_X0_isGone
  rw [h.1.2.2.1]
  by_cases c : X 8 = 0
  · simp (disch := omega) only [bd_e, jn_e, bi_e, gd_t, it_e, ie_e, if_true, if_false, ii_lit, ii_add, ii_sub, ii_mul, ii_neg, ii_lt, ii_le, ii_eq, ii_nat, ii_div, ii_nI]
  · simp (disch := omega) only [bd_e, jn_e, bi_e, gd_t, it_e, ie_e, if_true, if_false, ii_lit, ii_add, ii_sub, ii_mul, ii_neg, ii_lt, ii_le, ii_eq, ii_nat, ii_div, ii_nI]
theorem acc_c (h : CB X Y B S T n ds) (hW : WB X Y) {t : Int} (ht0 : 0 ≤ t) (ht1 : t ≤ 18627) {N : Nat} (hN : 200 ≤ N) : f_X0_accruedOn N B S n ds (II (DD t)) = some (LL (if X 8 = 0 then AC X Y t (10 * X 5) else 0)) := by
  have h8 := hW.2.1
  unfold f_X0_accruedOn f_X0_face
  rw [gone_c h hW, h.1.2.1]
  by_cases c : X 8 = 0
  · simp (disch := omega) only [bd_e, jn_e, bi_e, gd_t, it_e, ie_e, if_true, if_false, ii_lit, ii_add, ii_sub, ii_mul, ii_neg, ii_lt, ii_le, ii_eq, ii_nat, ii_div, ii_nI, ll_lit, ll_add, ll_sub, ll_mul, ll_neg, ll_div, ii_toL, ll_toI, lz_gt, lz_lt, lz_le, lz_ge, lz_eq, ll_lt, ll_le, ll_eq, fo_c h8.1 h8.2.1, acf_c h hW ht0 ht1 (show 0 ≤ 10 * X 5 by omega) (show 10 * X 5 ≤ 100000 by omega) hN]
  · simp (disch := omega) only [bd_e, jn_e, bi_e, gd_t, it_e, ie_e, if_true, if_false, ii_lit, ii_add, ii_sub, ii_mul, ii_neg, ii_lt, ii_le, ii_eq, ii_nat, ii_div, ii_nI, ll_lit, ll_add, ll_sub, ll_mul, ll_neg, ll_div, ii_toL, ll_toI, lz_gt, lz_lt, lz_le, lz_ge, lz_eq, ll_lt, ll_le, ll_eq]
end C8
section M8
variable {X Y : Nat → Int} {mof mdy : Nat → Int32} {i : Nat}
theorem snk_m (h : MD X Y mof mdy i) (hW : WB X Y) {j : Nat} (hj : (j : Int) < X 6) : (SU X Y j ∧ f_X5_isSunk mof mdy (II i) (II j) = some (II 1)) ∨ (¬ SU X Y j ∧ f_X5_isSunk mof mdy (II i) (II j) = some (II 0)) := by
  have h6 := hW.2.1.2.2.2.1
  have hp := hW.2.2.1
  have hy := wb_y hW (j := j + 1) (by omega)
  unfold f_X5_isSunk SU
  by_cases c1 : 0 < X 11
  · by_cases c2 : (j : Int) < X 6 - 1
    · by_cases c3 : X 10 ≤ Y (j + 1)
      · left; refine ⟨⟨c1, c2, c3⟩, ?_⟩
        simp (disch := omega) only [bd_e, jn_e, bi_e, gd_t, it_e, ie_e, if_true, if_false, ii_lit, ii_add, ii_sub, ii_mul, ii_neg, ii_lt, ii_le, ii_eq, ii_nat, ii_div, ii_nI, own_11 h, own_6 h, own_10 h, cd_k h hW (show ((j + 1 : Nat) : Int) ≤ X 6 by omega)]
      · right; refine ⟨fun k => c3 k.2.2, ?_⟩
        simp (disch := omega) only [bd_e, jn_e, bi_e, gd_t, it_e, ie_e, if_true, if_false, ii_lit, ii_add, ii_sub, ii_mul, ii_neg, ii_lt, ii_le, ii_eq, ii_nat, ii_div, ii_nI, own_11 h, own_6 h, own_10 h, cd_k h hW (show ((j + 1 : Nat) : Int) ≤ X 6 by omega)]
    · right; refine ⟨fun k => c2 k.2.1, ?_⟩
      simp (disch := omega) only [bd_e, jn_e, bi_e, gd_t, it_e, ie_e, if_true, if_false, ii_lit, ii_add, ii_sub, ii_mul, ii_neg, ii_lt, ii_le, ii_eq, ii_nat, ii_div, ii_nI, own_11 h, own_6 h]
  · right; refine ⟨fun k => c1 k.1, ?_⟩
    simp (disch := omega) only [bd_e, jn_e, bi_e, gd_t, it_e, ie_e, if_true, if_false, ii_lit, ii_add, ii_sub, ii_mul, ii_neg, ii_lt, ii_le, ii_eq, ii_nat, ii_div, ii_nI, own_11 h]
theorem cal_m (h : MD X Y mof mdy i) (hW : WB X Y) {j : Nat} (hj : (j : Int) < X 6) : (CU X Y j ∧ f_X5_isCalled mof mdy (II i) (II j) = some (II 1)) ∨ (¬ CU X Y j ∧ f_X5_isCalled mof mdy (II i) (II j) = some (II 0)) := by
  have h6 := hW.2.1.2.2.2.1
  have hp := hW.2.2.1
  have hy := wb_y hW (j := j + 1) (by omega)
  unfold f_X5_isCalled CU
  by_cases c1 : 0 < X 13
  · by_cases c2 : (j : Int) < X 6 - 1
    · by_cases c3 : X 12 ≤ Y (j + 1)
      · left; refine ⟨⟨c1, c2, c3⟩, ?_⟩
        simp (disch := omega) only [bd_e, jn_e, bi_e, gd_t, it_e, ie_e, if_true, if_false, ii_lit, ii_add, ii_sub, ii_mul, ii_neg, ii_lt, ii_le, ii_eq, ii_nat, ii_div, ii_nI, own_13 h, own_6 h, own_12 h, cd_k h hW (show ((j + 1 : Nat) : Int) ≤ X 6 by omega)]
      · right; refine ⟨fun k => c3 k.2.2, ?_⟩
        simp (disch := omega) only [bd_e, jn_e, bi_e, gd_t, it_e, ie_e, if_true, if_false, ii_lit, ii_add, ii_sub, ii_mul, ii_neg, ii_lt, ii_le, ii_eq, ii_nat, ii_div, ii_nI, own_13 h, own_6 h, own_12 h, cd_k h hW (show ((j + 1 : Nat) : Int) ≤ X 6 by omega)]
    · right; refine ⟨fun k => c2 k.2.1, ?_⟩
      simp (disch := omega) only [bd_e, jn_e, bi_e, gd_t, it_e, ie_e, if_true, if_false, ii_lit, ii_add, ii_sub, ii_mul, ii_neg, ii_lt, ii_le, ii_eq, ii_nat, ii_div, ii_nI, own_13 h, own_6 h]
  · right; refine ⟨fun k => c1 k.1, ?_⟩
    simp (disch := omega) only [bd_e, jn_e, bi_e, gd_t, it_e, ie_e, if_true, if_false, ii_lit, ii_add, ii_sub, ii_mul, ii_neg, ii_lt, ii_le, ii_eq, ii_nat, ii_div, ii_nI, own_13 h]
theorem sk_su (X Y : Nat → Int) (j : Nat) (l : Int) : (SU X Y j → SK X Y j l = if l < X 11 then l else X 11) ∧ (¬ SU X Y j → SK X Y j l = 0) := ⟨fun h => if_pos h, fun h => if_neg h⟩
theorem int_m (h : MD X Y mof mdy i) (hW : WB X Y) {j : Nat} (hj : (j : Int) < X 6) {F a b : Int} (hF : 0 ≤ F) (hF1 : F ≤ 100000) (h1 : Y j ≤ a) (h2 : a ≤ b) (h3 : b ≤ Y (j + 1)) {N : Nat} (hN : 200 ≤ N) : f_X5_interest N mof mdy (II i) (II F) (II a) (II b) (II j) = some (II (F * X 2 * DC X a b / YP X Y j)) := by
  have h6 := hW.2.1.2.2.2.1
  have hw1 := hW.1
  have y0 := wb_y hW (j := j) (by omega)
  have y1 := wb_y hW (j := j + 1) (by omega)
  have r := it_r hW hj hF hF1 h1 h2 h3
  have y := yp_r hW hj
  have d := dc_r (X := X) (a := a) (b := b) (by omega) h2 (by omega)
  unfold f_X5_interest
  by_cases c0 : X 4 = 0
  · have e1 : DC X a b = TH a b := if_pos c0
    have e2 : YP X Y j = 3600000 := by unfold YP; rw [if_neg (by omega), if_neg (by omega)]
    rw [e1] at r ⊢
    rw [e1] at d
    rw [e2] at r ⊢
    simp (disch := omega) only [bd_e, jn_e, bi_e, gd_t, it_e, ie_e, if_true, if_false, ii_lit, ii_add, ii_sub, ii_mul, ii_neg, ii_lt, ii_le, ii_eq, ii_nat, ii_div, ii_nI, ll_lit, ll_add, ll_sub, ll_mul, ll_neg, ll_div, ii_toL, ll_toI, lz_gt, lz_lt, lz_le, lz_ge, lz_eq, ll_lt, ll_le, ll_eq, own_2 h, own_4 h, dat_x5 (n := a) (by omega) (by omega) (show 100 ≤ N by omega), dat_x5 (n := b) (by omega) (by omega) (show 100 ≤ N by omega), th_x5 (a := a) (b := b) (by omega) (by omega) (by omega) (by omega)]
  · have e1 : DC X a b = b - a := if_neg c0
    rw [e1] at r ⊢
    by_cases c1 : X 4 = 1
    · have e2 : YP X Y j = 3600000 := by unfold YP; rw [if_neg (by omega), if_neg (by omega)]
      rw [e2] at r ⊢
      simp (disch := omega) only [bd_e, jn_e, bi_e, gd_t, it_e, ie_e, if_true, if_false, ii_lit, ii_add, ii_sub, ii_mul, ii_neg, ii_lt, ii_le, ii_eq, ii_nat, ii_div, ii_nI, ll_lit, ll_add, ll_sub, ll_mul, ll_neg, ll_div, ii_toL, ll_toI, lz_gt, lz_lt, lz_le, lz_ge, lz_eq, ll_lt, ll_le, ll_eq, own_2 h, own_4 h]
    · by_cases c2 : X 4 = 2
      · have e2 : YP X Y j = 3650000 := by unfold YP; rw [if_pos (by omega)]
        rw [e2] at r ⊢
        simp (disch := omega) only [bd_e, jn_e, bi_e, gd_t, it_e, ie_e, if_true, if_false, ii_lit, ii_add, ii_sub, ii_mul, ii_neg, ii_lt, ii_le, ii_eq, ii_nat, ii_div, ii_nI, ll_lit, ll_add, ll_sub, ll_mul, ll_neg, ll_div, ii_toL, ll_toI, lz_gt, lz_lt, lz_le, lz_ge, lz_eq, ll_lt, ll_le, ll_eq, own_2 h, own_4 h]
      · have e2 : YP X Y j = X 3 * (Y (j + 1) - Y j) * 10000 := by
          unfold YP
          rw [if_neg (by omega), if_pos (by omega), Int.mul_comm 10000 (X 3), Int.mul_assoc, Int.mul_comm 10000, ← Int.mul_assoc]
        rw [e2] at r y ⊢
        have e9 : f_X5_couponDay mdy (II i) (II (j - 1)) = some (II (Y j)) := by
          cases j with
          | zero => exact cd_m h hW
          | succ j =>
            have e : ((j + 1 : Nat) : Int) - 1 = (j : Int) := by omega
            rw [e]
            exact cd_k h hW (by omega)
        simp (disch := omega) only [bd_e, jn_e, bi_e, gd_t, it_e, ie_e, if_true, if_false, ii_lit, ii_add, ii_sub, ii_mul, ii_neg, ii_lt, ii_le, ii_eq, ii_nat, ii_div, ii_nI, ll_lit, ll_add, ll_sub, ll_mul, ll_neg, ll_div, ii_toL, ll_toI, lz_gt, lz_lt, lz_le, lz_ge, lz_eq, ll_lt, ll_le, ll_eq, own_2 h, own_4 h, own_3 h, e9, cd_k h hW (show ((j + 1 : Nat) : Int) ≤ X 6 by omega)]
theorem cpn_m (h : MD X Y mof mdy i) (hW : WB X Y) {j : Nat} (hj : (j : Int) < X 6) {F : Int} (hF : 0 ≤ F) (hF1 : F ≤ 100000) {N : Nat} (hN : 200 ≤ N) : f_X5_coupon N mof mdy (II i) (II j) (LL F) = some (II (CP X Y j F)) := by
  have h6 := hW.2.1.2.2.2.1
  have hw1 := hW.1
  have yy := hW.2.2.2.1
  have m1 := mulr hF hF1 hW.1.2.2.2.1 hW.1.2.2.2.2.1
  have y0 := wb_y hW (j := 0) (by omega)
  have y1 := wb_y hW (j := 1) (by omega)
  have e0 : f_X5_couponDay mdy (II i) (II 0) = some (II (Y 1)) := cd_k h hW (j := 0) (by omega)
  unfold f_X5_coupon CP
  by_cases c1 : j = 0
  · subst c1
    by_cases c2 : Y 0 < X 0
    · have ei := int_m h hW (j := 0) hj hF hF1 (a := X 0) (b := Y 1) (by omega) (by omega) (Int.le_refl _) hN
      have ez : II ((0 : Nat) : Int) = II 0 := rfl
      rw [ez] at ei
      simp (disch := omega) only [bd_e, jn_e, bi_e, gd_t, it_e, ie_e, if_true, if_false, ii_lit, ii_add, ii_sub, ii_mul, ii_neg, ii_lt, ii_le, ii_eq, ii_nat, ii_div, ii_nI, ll_lit, ll_add, ll_sub, ll_mul, ll_neg, ll_div, ii_toL, ll_toI, lz_gt, lz_lt, lz_le, lz_ge, lz_eq, ll_lt, ll_le, ll_eq, cd_m h hW, own_0 h, e0, ei, Int.natCast_zero, Int.ofNat_zero, true_and]
    · simp (disch := omega) only [bd_e, jn_e, bi_e, gd_t, it_e, ie_e, if_true, if_false, ii_lit, ii_add, ii_sub, ii_mul, ii_neg, ii_lt, ii_le, ii_eq, ii_nat, ii_div, ii_nI, ll_lit, ll_add, ll_sub, ll_mul, ll_neg, ll_div, ii_toL, ll_toI, lz_gt, lz_lt, lz_le, lz_ge, lz_eq, ll_lt, ll_le, ll_eq, cd_m h hW, own_0 h, own_2 h, own_3 h, true_and]
  · simp (disch := omega) only [bd_e, jn_e, bi_e, gd_t, it_e, ie_e, if_true, if_false, ii_lit, ii_add, ii_sub, ii_mul, ii_neg, ii_lt, ii_le, ii_eq, ii_nat, ii_div, ii_nI, ll_lit, ll_add, ll_sub, ll_mul, ll_neg, ll_div, ii_toL, ll_toI, lz_gt, lz_lt, lz_le, lz_ge, lz_eq, ll_lt, ll_le, ll_eq, own_2 h, own_3 h]
end M8
