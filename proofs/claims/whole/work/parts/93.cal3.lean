/-! pure: the calendars, on -/
theorem dat_x5_M {n : Int} (h1 : 0 ≤ n) (h2 : n ≤ 18627) (K : Int32 → Int32 → Option Int32) : ∀ (k : Nat) (m : Int), m + k = mn n → 1 ≤ m → ∀ N : Nat, k + 1 ≤ N → f_X5_date_L45 (II (cy n)) K N (II (cr n - aw (lpy (cy n)) m)) (II m) = K (II (dn n - 1)) (II (mn n)) := by
  obtain ⟨a1, a2, a3, a4, a5, a6, a7, a8, a9, a0⟩ := dd_r h1 h2
  obtain ⟨r1, r2, r3, r4, r5⟩ := cy_r h1 h2
  have hl := lpy_c (cy n)
  have e9 : cy n + 2016 = 2016 + cy n := by omega
  intro k
  induction k with
  | zero =>
    intro m hm h1m N hN
    have em : m = mn n := by omega
    subst em
    obtain ⟨N, rfl⟩ : ∃ N', N = N' + 1 := ⟨N - 1, by omega⟩
    have lr := len_r (y := cy n) a3 a4
    have e1 : cr n - aw (lpy (cy n)) (mn n) = dn n - 1 := by omega
    rw [e1]
    unfold f_X5_date_L45
    simp (disch := omega) only [bd_e, jn_e, bi_e, gd_t, it_e, ie_e, if_true, if_false, ii_lit, ii_add, ii_sub, ii_mul, ii_neg, ii_lt, ii_le, ii_eq, ii_nat, ii_div, ii_nI, e9, len_x5 a1 a2 a3 a4]
  | succ k ih =>
    intro m hm h1m N hN
    obtain ⟨N, rfl⟩ : ∃ N', N = N' + 1 := ⟨N - 1, by omega⟩
    have lr := len_r (y := cy n) h1m (show m ≤ 12 by omega)
    obtain ⟨c1, c2, c3⟩ := aw_s hl h1m (show m ≤ 12 by omega)
    have g1 := aw_m (l := lpy (cy n)) (m := m + 1) (m' := mn n) (by omega) (by omega)
    have g0 := aw_m (l := lpy (cy n)) (m := 1) (m' := m) (by omega) h1m
    rw [aw_1] at g0
    unfold f_X5_date_L45
    simp (disch := omega) only [bd_e, jn_e, bi_e, gd_t, it_e, ie_e, if_true, if_false, ii_lit, ii_add, ii_sub, ii_mul, ii_neg, ii_lt, ii_le, ii_eq, ii_nat, ii_div, ii_nI, e9, len_x5 a1 a2 h1m (show m ≤ 12 by omega)]
    have e1 : cr n - aw (lpy (cy n)) m - len (cy n) m = cr n - aw (lpy (cy n)) (m + 1) := by omega
    rw [e1]
    exact ih (m + 1) (by omega) (by omega) N (by omega)
theorem dat_x5_Y {n : Int} (h1 : 0 ≤ n) (h2 : n ≤ 18627) (K : Int32 → Option Int32) : ∀ (k : Nat) (y : Int), y + k = cy n → 0 ≤ y → ∀ N : Nat, k + 1 ≤ N → f_X5_date_L6 (II n) K N (II y) = K (II (cy n)) := by
  obtain ⟨r1, r2, r3, r4, r5⟩ := cy_r h1 h2
  have hl := lpy_c (cy n)
  intro k
  induction k with
  | zero =>
    intro y hy h0 N hN
    have ey : y = cy n := by omega
    subst ey
    obtain ⟨N, rfl⟩ : ∃ N', N = N' + 1 := ⟨N - 1, by omega⟩
    unfold f_X5_date_L6
    simp (disch := omega) only [bd_e, jn_e, bi_e, gd_t, it_e, ie_e, if_true, if_false, ii_lit, ii_add, ii_sub, ii_mul, ii_neg, ii_lt, ii_le, ii_eq, ii_nat, ii_div, ii_nI]
  | succ k ih =>
    intro y hy h0 N hN
    obtain ⟨N, rfl⟩ : ∃ N', N = N' + 1 := ⟨N - 1, by omega⟩
    unfold f_X5_date_L6
    simp (disch := omega) only [bd_e, jn_e, bi_e, gd_t, it_e, ie_e, if_true, if_false, ii_lit, ii_add, ii_sub, ii_mul, ii_neg, ii_lt, ii_le, ii_eq, ii_nat, ii_div, ii_nI]
    exact ih (y + 1) (by omega) (by omega) N (by omega)
theorem dat_x5 {n : Int} (h1 : 0 ≤ n) (h2 : n ≤ 18627) {N : Nat} (hN : 100 ≤ N) : f_X5_date N (II n) = some (II (DD n)) := by
  obtain ⟨a1, a2, a3, a4, a5, a6, a7, a8, a9, a0⟩ := dd_r h1 h2
  obtain ⟨r1, r2, r3, r4, r5⟩ := cy_r h1 h2
  have hq : n / 366 ≤ cy n := by
    have ec : cy n = 4 * n / 1461 := rfl
    omega
  unfold f_X5_date
  simp (disch := omega) only [bd_e, jn_e, bi_e, gd_t, it_e, ie_e, if_true, if_false, ii_lit, ii_add, ii_sub, ii_mul, ii_neg, ii_lt, ii_le, ii_eq, ii_nat, ii_div, ii_nI]
  rw [dat_x5_Y h1 h2 _ (cy n - n / 366).toNat (n / 366) (by omega) (by omega) N (by omega)]
  have e1 : n - 365 * cy n - (cy n + 3) / 4 = cr n - aw (lpy (cy n)) 1 := by rw [aw_1]; omega
  simp (disch := omega) only [bd_e, jn_e, bi_e, gd_t, it_e, ie_e, if_true, if_false, ii_lit, ii_add, ii_sub, ii_mul, ii_neg, ii_lt, ii_le, ii_eq, ii_nat, ii_div, ii_nI, e1]
  rw [dat_x5_M h1 h2 _ (mn n - 1).toNat 1 (by omega) (by omega) N (by omega)]
  simp only [ii_lit, ii_add, ii_sub, ii_mul]
  congr 2
  omega
theorem rng (a : Int32) : ∃ x : Int, -2147483648 ≤ x ∧ x < 2147483648 ∧ a = II x := ⟨a.toInt, a.le_toInt, a.toInt_lt, (Int32.ofInt_toInt a).symm⟩
theorem isin (a lo hi : Int) (h1 : -2147483648 ≤ a) (h2 : a < 2147483648) (h3 : -2147483648 ≤ lo) (h4 : lo < 2147483648) (h5 : -2147483648 ≤ hi) (h6 : hi < 2147483648) : f_X5_isIn (II a) (II lo) (II hi) = some (if lo ≤ a ∧ a ≤ hi then II 1 else II 0) := by
  unfold f_X5_isIn
  simp (disch := omega) only [bd_e, jn_e, bi_e, gd_t, it_e, ie_e, if_true, if_false, ii_lit, ii_add, ii_sub, ii_mul, ii_neg, ii_lt, ii_le, ii_eq, ii_nat, ii_div, ii_nI]
  by_cases c1 : a < lo
  · simp (disch := omega) only [bd_e, jn_e, bi_e, gd_t, it_e, ie_e, if_true, if_false, ii_lit, ii_add, ii_sub, ii_mul, ii_neg, ii_lt, ii_le, ii_eq, ii_nat, ii_div, ii_nI]
  · by_cases c2 : hi < a
    · simp (disch := omega) only [bd_e, jn_e, bi_e, gd_t, it_e, ie_e, if_true, if_false, ii_lit, ii_add, ii_sub, ii_mul, ii_neg, ii_lt, ii_le, ii_eq, ii_nat, ii_div, ii_nI]
    · simp (disch := omega) only [bd_e, jn_e, bi_e, gd_t, it_e, ie_e, if_true, if_false, ii_lit, ii_add, ii_sub, ii_mul, ii_neg, ii_lt, ii_le, ii_eq, ii_nat, ii_div, ii_nI]
/-- what is a date, to both -/
theorem isd (a : Int32) : (∃ n, 0 ≤ n ∧ n ≤ 18627 ∧ a = II (DD n) ∧ f_X1_isDate a = some (II 1) ∧ f_X5_isDate a = some (II 1)) ∨ (f_X1_isDate a = some (II 0) ∧ f_X5_isDate a = some (II 0)) := by
  obtain ⟨x, hx1, hx2, rfl⟩ := rng a
  by_cases c1 : 20160101 ≤ x ∧ x ≤ 20661231
  · obtain ⟨c1, c2⟩ := c1
    obtain ⟨y, hy⟩ : ∃ y, y = x / 10000 - 2016 := ⟨_, rfl⟩
    obtain ⟨m, hm⟩ : ∃ m, m = x / 100 - x / 100 / 100 * 100 := ⟨_, rfl⟩
    obtain ⟨d, hd⟩ : ∃ d, d = x - x / 100 * 100 := ⟨_, rfl⟩
    have e1 : x / 10000 = 2016 + y := by omega
    have hy0 : 0 ≤ y := by omega
    have hy5 : y ≤ 50 := by omega
    by_cases c3 : 1 ≤ m ∧ m ≤ 12
    · obtain ⟨c3, c4⟩ := c3
      have lr := len_r (y := y) c3 c4
      by_cases c5 : 1 ≤ d ∧ d ≤ len y m
      · obtain ⟨c5, c6⟩ := c5
        left
        obtain ⟨n, n1, n2, n3, n4, n5⟩ := dd_of hy0 hy5 c3 c4 c5 c6
        have ex : x = DD n := by
          have := (dd_r n1 n2).2.2.2.2.2.2.2.2.1
          rw [this, n3, n4, n5]
          omega
        refine ⟨n, n1, n2, by rw [ex], ?_, ?_⟩
        · unfold f_X1_isDate f_X1_monthOf f_X1_dayOf f_X1_yearOf
          simp (disch := omega) only [bd_e, jn_e, bi_e, gd_t, it_e, ie_e, if_true, if_false, ii_lit, ii_add, ii_sub, ii_mul, ii_neg, ii_lt, ii_le, ii_eq, ii_nat, ii_div, ii_nI, ← hm, ← hd, e1, len_x1 hy0 hy5 c3 c4]
        · unfold f_X5_isDate
          simp (disch := omega) only [bd_e, jn_e, bi_e, gd_t, it_e, ie_e, if_true, if_false, ii_lit, ii_add, ii_sub, ii_mul, ii_neg, ii_lt, ii_le, ii_eq, ii_nat, ii_div, ii_nI, ← hm, ← hd, e1, len_x5 hy0 hy5 c3 c4, isin]
      · right
        constructor
        · unfold f_X1_isDate f_X1_monthOf f_X1_dayOf f_X1_yearOf
          by_cases c6 : d < 1
          · simp (disch := omega) only [bd_e, jn_e, bi_e, gd_t, it_e, ie_e, if_true, if_false, ii_lit, ii_add, ii_sub, ii_mul, ii_neg, ii_lt, ii_le, ii_eq, ii_nat, ii_div, ii_nI, ← hm, ← hd]
          · simp (disch := omega) only [bd_e, jn_e, bi_e, gd_t, it_e, ie_e, if_true, if_false, ii_lit, ii_add, ii_sub, ii_mul, ii_neg, ii_lt, ii_le, ii_eq, ii_nat, ii_div, ii_nI, ← hm, ← hd, e1, len_x1 hy0 hy5 c3 c4]
        · unfold f_X5_isDate
          simp (disch := omega) only [bd_e, jn_e, bi_e, gd_t, it_e, ie_e, if_true, if_false, ii_lit, ii_add, ii_sub, ii_mul, ii_neg, ii_lt, ii_le, ii_eq, ii_nat, ii_div, ii_nI, ← hm, ← hd, e1, len_x5 hy0 hy5 c3 c4, isin]
    · right
      constructor
      · unfold f_X1_isDate f_X1_monthOf f_X1_dayOf f_X1_yearOf
        by_cases c6 : m < 1
        · simp (disch := omega) only [bd_e, jn_e, bi_e, gd_t, it_e, ie_e, if_true, if_false, ii_lit, ii_add, ii_sub, ii_mul, ii_neg, ii_lt, ii_le, ii_eq, ii_nat, ii_div, ii_nI, ← hm, ← hd]
        · simp (disch := omega) only [bd_e, jn_e, bi_e, gd_t, it_e, ie_e, if_true, if_false, ii_lit, ii_add, ii_sub, ii_mul, ii_neg, ii_lt, ii_le, ii_eq, ii_nat, ii_div, ii_nI, ← hm, ← hd]
      · unfold f_X5_isDate
        simp (disch := omega) only [bd_e, jn_e, bi_e, gd_t, it_e, ie_e, if_true, if_false, ii_lit, ii_add, ii_sub, ii_mul, ii_neg, ii_lt, ii_le, ii_eq, ii_nat, ii_div, ii_nI, ← hm, ← hd, isin]
  · right
    constructor
    · unfold f_X1_isDate
      by_cases c6 : x < 20160101
      · simp (disch := omega) only [bd_e, jn_e, bi_e, gd_t, it_e, ie_e, if_true, if_false, ii_lit, ii_add, ii_sub, ii_mul, ii_neg, ii_lt, ii_le, ii_eq, ii_nat, ii_div, ii_nI]
      · simp (disch := omega) only [bd_e, jn_e, bi_e, gd_t, it_e, ie_e, if_true, if_false, ii_lit, ii_add, ii_sub, ii_mul, ii_neg, ii_lt, ii_le, ii_eq, ii_nat, ii_div, ii_nI]
    · unfold f_X5_isDate
      simp (disch := omega) only [bd_e, jn_e, bi_e, gd_t, it_e, ie_e, if_true, if_false, ii_lit, ii_add, ii_sub, ii_mul, ii_neg, ii_lt, ii_le, ii_eq, ii_nat, ii_div, ii_nI, isin]
