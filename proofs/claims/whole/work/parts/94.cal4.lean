/-! pure: days between, months back -/
theorem btw_x1 {a b : Int} (h1 : 0 ≤ a) (h2 : a ≤ 18627) (h3 : 0 ≤ b) (h4 : b ≤ 18627) : f_X1_daysBetween (II (DD a)) (II (DD b)) = some (II (b - a)) := by
  unfold f_X1_daysBetween
  rw [num_x1 h1 h2, num_x1 h3 h4]
  simp only [bi_e, ii_sub]
theorem yr_x1 {a : Int} (h1 : 0 ≤ a) (h2 : a ≤ 18627) : f_X1_yearOf (II (DD a)) = some (II (2016 + cy a)) := by
  have b := dd_b h1 h2
  have ey := dd_y h1 h2
  unfold f_X1_yearOf
  simp (disch := omega) only [bd_e, jn_e, bi_e, gd_t, it_e, ie_e, if_true, if_false, ii_lit, ii_add, ii_sub, ii_mul, ii_neg, ii_lt, ii_le, ii_eq, ii_nat, ii_div, ii_nI, ey]
def TH (a b : Int) : Int := 360 * (cy b - cy a) + 30 * (mn b - mn a) + (if 30 ≤ dn a then (if 30 < dn b then 30 else dn b) else dn b) - (if 30 < dn a then 30 else dn a)
theorem th_x1 {a b : Int} (h1 : 0 ≤ a) (h2 : a ≤ 18627) (h3 : 0 ≤ b) (h4 : b ≤ 18627) : f_X1_daysOf30 (II (DD a)) (II (DD b)) = some (II (TH a b)) := by
  obtain ⟨a1, a2, a3, a4, a5, a6, a7, a8, a9, a0⟩ := dd_r h1 h2
  obtain ⟨b1, b2, b3, b4, b5, b6, b7, b8, b9, b0⟩ := dd_r h3 h4
  have ba := dd_b h1 h2
  have bb := dd_b h3 h4
  have eya := dd_y h1 h2
  have ema := dd_m h1 h2
  have eda := dd_d h1 h2
  have eyb := dd_y h3 h4
  have emb := dd_m h3 h4
  have edb := dd_d h3 h4
  unfold f_X1_daysOf30 f_X1_dayOf f_X1_yearOf f_X1_monthOf TH
  simp (disch := omega) only [bd_e, jn_e, bi_e, gd_t, it_e, ie_e, if_true, if_false, ii_lit, ii_add, ii_sub, ii_mul, ii_neg, ii_lt, ii_le, ii_eq, ii_nat, ii_div, ii_nI, eya, ema, eda, eyb, emb, edb]
  by_cases c1 : 30 < dn a
  · by_cases c2 : 30 < dn b
    · simp (disch := omega) only [bd_e, jn_e, bi_e, gd_t, it_e, ie_e, if_true, if_false, ii_lit, ii_add, ii_sub, ii_mul, ii_neg, ii_lt, ii_le, ii_eq, ii_nat, ii_div, ii_nI]
      congr 2
      omega
    · simp (disch := omega) only [bd_e, jn_e, bi_e, gd_t, it_e, ie_e, if_true, if_false, ii_lit, ii_add, ii_sub, ii_mul, ii_neg, ii_lt, ii_le, ii_eq, ii_nat, ii_div, ii_nI]
      congr 2
      omega
  · by_cases c3 : dn a = 30
    · by_cases c2 : 30 < dn b
      · simp (disch := omega) only [bd_e, jn_e, bi_e, gd_t, it_e, ie_e, if_true, if_false, ii_lit, ii_add, ii_sub, ii_mul, ii_neg, ii_lt, ii_le, ii_eq, ii_nat, ii_div, ii_nI]
        congr 2
        omega
      · simp (disch := omega) only [bd_e, jn_e, bi_e, gd_t, it_e, ie_e, if_true, if_false, ii_lit, ii_add, ii_sub, ii_mul, ii_neg, ii_lt, ii_le, ii_eq, ii_nat, ii_div, ii_nI]
        congr 2
        omega
    · simp (disch := omega) only [bd_e, jn_e, bi_e, gd_t, it_e, ie_e, if_true, if_false, ii_lit, ii_add, ii_sub, ii_mul, ii_neg, ii_lt, ii_le, ii_eq, ii_nat, ii_div, ii_nI]
      congr 2
      omega
theorem th_x5 {a b : Int} (h1 : 0 ≤ a) (h2 : a ≤ 18627) (h3 : 0 ≤ b) (h4 : b ≤ 18627) : f_X5_thirty (II (DD a)) (II (DD b)) = some (II (TH a b)) := by
  obtain ⟨a1, a2, a3, a4, a5, a6, a7, a8, a9, a0⟩ := dd_r h1 h2
  obtain ⟨b1, b2, b3, b4, b5, b6, b7, b8, b9, b0⟩ := dd_r h3 h4
  have ba := dd_b h1 h2
  have bb := dd_b h3 h4
  have eya := dd_y h1 h2
  have ema := dd_m h1 h2
  have eda := dd_d h1 h2
  have eyb := dd_y h3 h4
  have emb := dd_m h3 h4
  have edb := dd_d h3 h4
  unfold f_X5_thirty TH
  simp (disch := omega) only [bd_e, jn_e, bi_e, gd_t, it_e, ie_e, if_true, if_false, ii_lit, ii_add, ii_sub, ii_mul, ii_neg, ii_lt, ii_le, ii_eq, ii_nat, ii_div, ii_nI, eya, ema, eda, eyb, emb, edb]
  by_cases c1 : dn a < 30
  · by_cases c2 : dn b = 31
    · simp (disch := omega) only [bd_e, jn_e, bi_e, gd_t, it_e, ie_e, if_true, if_false, ii_lit, ii_add, ii_sub, ii_mul, ii_neg, ii_lt, ii_le, ii_eq, ii_nat, ii_div, ii_nI]
      congr 2
      omega
    · simp (disch := omega) only [bd_e, jn_e, bi_e, gd_t, it_e, ie_e, if_true, if_false, ii_lit, ii_add, ii_sub, ii_mul, ii_neg, ii_lt, ii_le, ii_eq, ii_nat, ii_div, ii_nI]
      congr 2
      omega
  · by_cases c2 : dn b = 31
    · simp (disch := omega) only [bd_e, jn_e, bi_e, gd_t, it_e, ie_e, if_true, if_false, ii_lit, ii_add, ii_sub, ii_mul, ii_neg, ii_lt, ii_le, ii_eq, ii_nat, ii_div, ii_nI]
      congr 2
      omega
    · simp (disch := omega) only [bd_e, jn_e, bi_e, gd_t, it_e, ie_e, if_true, if_false, ii_lit, ii_add, ii_sub, ii_mul, ii_neg, ii_lt, ii_le, ii_eq, ii_nat, ii_div, ii_nI]
      congr 2
      omega
theorem th_r {a b : Int} (h1 : 0 ≤ a) (h2 : a ≤ b) (h4 : b ≤ 18627) : 0 ≤ TH a b ∧ TH a b ≤ 18400 := by
  obtain ⟨a1, a2, a3, a4, a5, a6, a7, a8, a9, a0⟩ := dd_r h1 (by omega)
  obtain ⟨b1, b2, b3, b4, b5, b6, b7, b8, b9, b0⟩ := dd_r (n := b) (by omega) h4
  have h : DD a ≤ DD b := by rw [dd_le_iff h1 (by omega) (by omega) h4]; exact h2
  have hc : cy a < cy b ∨ (cy a = cy b ∧ (mn a < mn b ∨ (mn a = mn b ∧ dn a ≤ dn b))) := by omega
  unfold TH
  rcases hc with hc | ⟨hc, hc | ⟨hc, hd⟩⟩
  all_goals (constructor <;> (repeat' split) <;> omega)
theorem len_x1w {y m : Int} (h1 : -1 ≤ y) (h2 : y ≤ 50) (h3 : 1 ≤ m) (h4 : m ≤ 12) : f_X1_monthLength (II (2016 + y)) (II m) = some (II (len y m)) := by
  unfold f_X1_monthLength len
  simp (disch := omega) only [bd_e, jn_e, bi_e, gd_t, it_e, ie_e, if_true, if_false, ii_lit, ii_add, ii_sub, ii_mul, ii_neg, ii_lt, ii_le, ii_eq, ii_nat, ii_div, ii_nI]
  repeat' split
  all_goals first | rfl | omega
theorem len_x5w {y m : Int} (h1 : -1 ≤ y) (h2 : y ≤ 50) (h3 : 1 ≤ m) (h4 : m ≤ 12) : f_X5_length (II (2016 + y)) (II m) = some (II (len y m)) := len_x1w h1 h2 h3 h4
/-- the month that lies k months back, and the day there -/
def mt (e k : Int) : Int := 12 * (2016 + cy e) + mn e - 1 - k
def mby (e k : Int) : Int := mt e k / 12 - 2016
def mbm (e k : Int) : Int := mt e k - mt e k / 12 * 12 + 1
def mbd (e k : Int) : Int := if dn e = len (cy e) (mn e) then len (mby e k) (mbm e k) else if len (mby e k) (mbm e k) < dn e then len (mby e k) (mbm e k) else dn e
def MB (e k : Int) : Int := 10000 * (2016 + mby e k) + 100 * mbm e k + mbd e k
theorem mb_r {e k : Int} (h1 : 0 ≤ e) (h2 : e ≤ 18627) (h3 : 0 ≤ k) (h4 : 24180 ≤ mt e k) : -1 ≤ mby e k ∧ mby e k ≤ 50 ∧ 1 ≤ mbm e k ∧ mbm e k ≤ 12 ∧ 1 ≤ mbd e k ∧ mbd e k ≤ len (mby e k) (mbm e k) ∧ len (mby e k) (mbm e k) ≤ 31 ∧ mt e k = 12 * (2016 + mby e k) + mbm e k - 1 := by
  obtain ⟨a1, a2, a3, a4, a5, a6, a7, a8, a9, a0⟩ := dd_r h1 h2
  have e1 : mby e k = mt e k / 12 - 2016 := rfl
  have e2 : mbm e k = mt e k - mt e k / 12 * 12 + 1 := rfl
  have e3 : mt e k = 12 * (2016 + cy e) + mn e - 1 - k := rfl
  have b1 : 1 ≤ mbm e k := by omega
  have b2 : mbm e k ≤ 12 := by omega
  have lr := len_r (y := mby e k) b1 b2
  refine ⟨by omega, by omega, b1, b2, ?_, ?_, lr.2, by omega⟩
  · unfold mbd
    repeat' split
    all_goals omega
  · unfold mbd
    repeat' split
    all_goals omega
theorem mb_x1 {e k : Int} (h1 : 0 ≤ e) (h2 : e ≤ 18627) (h3 : 0 ≤ k) (h4 : 24180 ≤ mt e k) : f_X1_monthsBack (II (DD e)) (II k) = some (II (MB e k)) := by
  obtain ⟨a1, a2, a3, a4, a5, a6, a7, a8, a9, a0⟩ := dd_r h1 h2
  obtain ⟨b1, b2, b3, b4, b5, b6, b7, b8⟩ := mb_r h1 h2 h3 h4
  have ba := dd_b h1 h2
  have eya := dd_y h1 h2
  have ema := dd_m h1 h2
  have eda := dd_d h1 h2
  have lr := len_r (y := mby e k) b3 b4
  have e3 : 12 * (2016 + cy e) + mn e - 1 - k = mt e k := rfl
  have e1 : mt e k / 12 = 2016 + mby e k := by unfold mby; omega
  have e2 : mt e k - (2016 + mby e k) * 12 + 1 = mbm e k := by omega
  have hmt : mt e k ≤ 25000 := by omega
  unfold f_X1_monthsBack f_X1_dayOf f_X1_yearOf f_X1_monthOf
  simp (disch := omega) only [bd_e, jn_e, bi_e, gd_t, it_e, ie_e, if_true, if_false, ii_lit, ii_add, ii_sub, ii_mul, ii_neg, ii_lt, ii_le, ii_eq, ii_nat, ii_div, ii_nI, eya, ema, eda, e3, e1, e2, len_x1w b1 b2 b3 b4, len_x1 a1 a2 a3 a4]
  unfold MB mbd
  by_cases c1 : dn e = len (cy e) (mn e)
  · simp (disch := omega) only [bd_e, jn_e, bi_e, gd_t, it_e, ie_e, if_true, if_false, ii_lit, ii_add, ii_sub, ii_mul, ii_neg, ii_lt, ii_le, ii_eq, ii_nat, ii_div, ii_nI]
  · by_cases c2 : len (mby e k) (mbm e k) < dn e
    · simp (disch := omega) only [bd_e, jn_e, bi_e, gd_t, it_e, ie_e, if_true, if_false, ii_lit, ii_add, ii_sub, ii_mul, ii_neg, ii_lt, ii_le, ii_eq, ii_nat, ii_div, ii_nI]
    · simp (disch := omega) only [bd_e, jn_e, bi_e, gd_t, it_e, ie_e, if_true, if_false, ii_lit, ii_add, ii_sub, ii_mul, ii_neg, ii_lt, ii_le, ii_eq, ii_nat, ii_div, ii_nI]
theorem mb_x5 {e k : Int} (h1 : 0 ≤ e) (h2 : e ≤ 18627) (h3 : 0 ≤ k) (h4 : 24180 ≤ mt e k) : f_X5_moved (II (DD e)) (II k) = some (II (MB e k)) := by
  obtain ⟨a1, a2, a3, a4, a5, a6, a7, a8, a9, a0⟩ := dd_r h1 h2
  obtain ⟨b1, b2, b3, b4, b5, b6, b7, b8⟩ := mb_r h1 h2 h3 h4
  have ba := dd_b h1 h2
  have eya := dd_y h1 h2
  have ema := dd_m h1 h2
  have eda := dd_d h1 h2
  have lr := len_r (y := mby e k) b3 b4
  have e3 : (2016 + cy e) * 12 + mn e - 1 - k = mt e k := by unfold mt; omega
  have e1 : mt e k / 12 = 2016 + mby e k := by unfold mby; omega
  have e2 : mt e k - (2016 + mby e k) * 12 + 1 = mbm e k := by omega
  have hmt : mt e k ≤ 25000 := by omega
  unfold f_X5_moved
  simp (disch := omega) only [bd_e, jn_e, bi_e, gd_t, it_e, ie_e, if_true, if_false, ii_lit, ii_add, ii_sub, ii_mul, ii_neg, ii_lt, ii_le, ii_eq, ii_nat, ii_div, ii_nI, eya, ema, eda, e3, e1, e2, len_x5w b1 b2 b3 b4, len_x5 a1 a2 a3 a4]
  unfold MB mbd
  by_cases c1 : dn e = len (cy e) (mn e)
  · simp (disch := omega) only [bd_e, jn_e, bi_e, gd_t, it_e, ie_e, if_true, if_false, ii_lit, ii_add, ii_sub, ii_mul, ii_neg, ii_lt, ii_le, ii_eq, ii_nat, ii_div, ii_nI]
  · by_cases c2 : dn e < len (mby e k) (mbm e k)
    · simp (disch := omega) only [bd_e, jn_e, bi_e, gd_t, it_e, ie_e, if_true, if_false, ii_lit, ii_add, ii_sub, ii_mul, ii_neg, ii_lt, ii_le, ii_eq, ii_nat, ii_div, ii_nI]
    · simp (disch := omega) only [bd_e, jn_e, bi_e, gd_t, it_e, ie_e, if_true, if_false, ii_lit, ii_add, ii_sub, ii_mul, ii_neg, ii_lt, ii_le, ii_eq, ii_nat, ii_div, ii_nI]
      congr 2
      omega
