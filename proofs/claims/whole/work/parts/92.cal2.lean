/-! pure: both calendars answer alike -/
theorem len_x1 {y m : Int} (h1 : 0 ≤ y) (h2 : y ≤ 50) (h3 : 1 ≤ m) (h4 : m ≤ 12) : f_X1_monthLength (II (2016 + y)) (II m) = some (II (len y m)) := by
  unfold f_X1_monthLength len
  simp (disch := omega) only [bd_e, jn_e, bi_e, gd_t, it_e, ie_e, if_true, if_false, ii_lit, ii_add, ii_sub, ii_mul, ii_neg, ii_lt, ii_le, ii_eq, ii_nat, ii_div, ii_nI]
  repeat' split
  all_goals first | rfl | omega
theorem len_x5 {y m : Int} (h1 : 0 ≤ y) (h2 : y ≤ 50) (h3 : 1 ≤ m) (h4 : m ≤ 12) : f_X5_length (II (2016 + y)) (II m) = some (II (len y m)) := len_x1 h1 h2 h3 h4
theorem len_r {y m : Int} (h3 : 1 ≤ m) (h4 : m ≤ 12) : 28 ≤ len y m ∧ len y m ≤ 31 := (aw_s (lpy_c y) h3 h4).2
theorem ahd_0 : ahd ((1 : Int) - 1).toNat = II 0 := rfl
theorem ahd_1 : ahd ((2 : Int) - 1).toNat = II 31 := rfl
theorem ahd_2 : ahd ((3 : Int) - 1).toNat = II 59 := rfl
theorem ahd_3 : ahd ((4 : Int) - 1).toNat = II 90 := rfl
theorem ahd_4 : ahd ((5 : Int) - 1).toNat = II 120 := rfl
theorem ahd_5 : ahd ((6 : Int) - 1).toNat = II 151 := rfl
theorem ahd_6 : ahd ((7 : Int) - 1).toNat = II 181 := rfl
theorem ahd_7 : ahd ((8 : Int) - 1).toNat = II 212 := rfl
theorem ahd_8 : ahd ((9 : Int) - 1).toNat = II 243 := rfl
theorem ahd_9 : ahd ((10 : Int) - 1).toNat = II 273 := rfl
theorem ahd_10 : ahd ((11 : Int) - 1).toNat = II 304 := rfl
theorem ahd_11 : ahd ((12 : Int) - 1).toNat = II 334 := rfl
/-- a day by its date -/
theorem num_x1 {n : Int} (h1 : 0 ≤ n) (h2 : n ≤ 18627) : f_X1_dayNumber (II (DD n)) = some (II n) := by
  obtain ⟨a1, a2, a3, a4, a5, a6, a7, a8, a9, a0⟩ := dd_r h1 h2
  have b := dd_b h1 h2
  have ey := dd_y h1 h2
  have em := dd_m h1 h2
  have ed := dd_d h1 h2
  have hl := lpy_c (cy n)
  unfold f_X1_dayNumber
  simp (disch := omega) only [bd_e, jn_e, bi_e, gd_t, it_e, ie_e, if_true, if_false, ii_lit, ii_add, ii_sub, ii_mul, ii_neg, ii_lt, ii_le, ii_eq, ii_nat, ii_div, ii_nI, ey, em, ed]
  generalize mn n = m at *
  generalize cy n = y at *
  generalize dn n = d at *
  generalize lpy y = l at *
  have e2 : (2016 + y - 2016 : Int) = y := by omega
  simp only [e2]
  rcases m_c a3 a4 with rfl | rfl | rfl | rfl | rfl | rfl | rfl | rfl | rfl | rfl | rfl | rfl <;> simp [aw] at a8 <;> simp (disch := omega) only [bd_e, jn_e, bi_e, gd_t, it_e, ie_e, if_true, if_false, ii_lit, ii_add, ii_sub, ii_mul, ii_neg, ii_lt, ii_le, ii_eq, ii_nat, ii_div, ii_nI, ahd_0, ahd_1, ahd_2, ahd_3, ahd_4, ahd_5, ahd_6, ahd_7, ahd_8, ahd_9, ahd_10, ahd_11] <;> (repeat' split) <;> (first | omega | (simp only [ii_lit, ii_add, ii_sub]; congr 2; omega) | (congr 2; omega))
/-- a month of a day's year, counted on -/
theorem dat_x1_L {n : Int} (h1 : 0 ≤ n) (h2 : n ≤ 18627) (K : Int32 → Int32 → Option Int32) : ∀ (k : Nat) (m : Int), m + k = mn n → 1 ≤ m → ∀ N : Nat, k + 1 ≤ N → f_X1_dateOf_L31 (II (2016 + cy n)) K N (II (cr n - aw (lpy (cy n)) m)) (II m) = K (II (dn n - 1)) (II (mn n)) := by
  obtain ⟨a1, a2, a3, a4, a5, a6, a7, a8, a9, a0⟩ := dd_r h1 h2
  obtain ⟨r1, r2, r3, r4, r5⟩ := cy_r h1 h2
  have hl := lpy_c (cy n)
  have er : cr n = aw (lpy (cy n)) (mn n) + dn n - 1 := by omega
  intro k
  induction k with
  | zero =>
    intro m hm h1m N hN
    have em : m = mn n := by omega
    subst em
    obtain ⟨N, rfl⟩ : ∃ N', N = N' + 1 := ⟨N - 1, by omega⟩
    have lr := len_r (y := cy n) a3 a4
    have e1 : cr n - aw (lpy (cy n)) (mn n) = dn n - 1 := by omega
    rw [e1]
    unfold f_X1_dateOf_L31
    by_cases c : 12 ≤ mn n
    · simp (disch := omega) only [bd_e, jn_e, bi_e, gd_t, it_e, ie_e, if_true, if_false, ii_lit, ii_add, ii_sub, ii_mul, ii_neg, ii_lt, ii_le, ii_eq, ii_nat, ii_div, ii_nI]
    · simp (disch := omega) only [bd_e, jn_e, bi_e, gd_t, it_e, ie_e, if_true, if_false, ii_lit, ii_add, ii_sub, ii_mul, ii_neg, ii_lt, ii_le, ii_eq, ii_nat, ii_div, ii_nI, len_x1 a1 a2 a3 a4]
  | succ k ih =>
    intro m hm h1m N hN
    obtain ⟨N, rfl⟩ : ∃ N', N = N' + 1 := ⟨N - 1, by omega⟩
    have lr := len_r (y := cy n) h1m (show m ≤ 12 by omega)
    obtain ⟨c1, c2, c3⟩ := aw_s hl h1m (show m ≤ 12 by omega)
    have g1 := aw_m (l := lpy (cy n)) (m := m + 1) (m' := mn n) (by omega) (by omega)
    have g0 := aw_m (l := lpy (cy n)) (m := 1) (m' := m) (by omega) h1m
    rw [aw_1] at g0
    unfold f_X1_dateOf_L31
    simp (disch := omega) only [bd_e, jn_e, bi_e, gd_t, it_e, ie_e, if_true, if_false, ii_lit, ii_add, ii_sub, ii_mul, ii_neg, ii_lt, ii_le, ii_eq, ii_nat, ii_div, ii_nI, len_x1 a1 a2 h1m (show m ≤ 12 by omega)]
    have e1 : cr n - aw (lpy (cy n)) m - len (cy n) m = cr n - aw (lpy (cy n)) (m + 1) := by omega
    rw [e1]
    exact ih (m + 1) (by omega) (by omega) N (by omega)
theorem dat_x1 {n : Int} (h1 : 0 ≤ n) (h2 : n ≤ 18627) {N : Nat} (hN : 100 ≤ N) : f_X1_dateOf N (II n) = some (II (DD n)) := by
  obtain ⟨a1, a2, a3, a4, a5, a6, a7, a8, a9, a0⟩ := dd_r h1 h2
  obtain ⟨r1, r2, r3, r4, r5⟩ := cy_r h1 h2
  unfold f_X1_dateOf
  have ec : 4 * n / 1461 = cy n := rfl
  simp (disch := omega) only [bd_e, jn_e, bi_e, gd_t, it_e, ie_e, if_true, if_false, ii_lit, ii_add, ii_sub, ii_mul, ii_neg, ii_lt, ii_le, ii_eq, ii_nat, ii_div, ii_nI, ec]
  have e1 : n - 365 * cy n - (cy n + 3) / 4 = cr n - aw (lpy (cy n)) 1 := by rw [aw_1]; omega
  rw [e1, dat_x1_L h1 h2 _ (mn n - 1).toNat 1 (by omega) (by omega) N (by omega)]
  simp only [ii_lit, ii_add, ii_sub, ii_mul]
  congr 2
  omega
theorem num_x5_L {n : Int} (h1 : 0 ≤ n) (h2 : n ≤ 18627) : ∀ (k : Nat) (m : Int), m + k = mn n → 1 ≤ m → ∀ N : Nat, k + 1 ≤ N → f_X5_number_L31 (II (DD n)) (II (cy n)) N (II (365 * cy n + (cy n + 3) / 4 + dn n - 1 + aw (lpy (cy n)) m)) (II m) = some (II n) := by
  obtain ⟨a1, a2, a3, a4, a5, a6, a7, a8, a9, a0⟩ := dd_r h1 h2
  have b := dd_b h1 h2
  have em := dd_m h1 h2
  have hl := lpy_c (cy n)
  intro k
  induction k with
  | zero =>
    intro m hm h1m N hN
    have em9 : m = mn n := by omega
    subst em9
    obtain ⟨N, rfl⟩ : ∃ N', N = N' + 1 := ⟨N - 1, by omega⟩
    unfold f_X5_number_L31
    simp (disch := omega) only [bd_e, jn_e, bi_e, gd_t, it_e, ie_e, if_true, if_false, ii_lit, ii_add, ii_sub, ii_mul, ii_neg, ii_lt, ii_le, ii_eq, ii_nat, ii_div, ii_nI, em]
    congr 2
    omega
  | succ k ih =>
    intro m hm h1m N hN
    obtain ⟨N, rfl⟩ : ∃ N', N = N' + 1 := ⟨N - 1, by omega⟩
    obtain ⟨c1, c2, c3⟩ := aw_s hl h1m (show m ≤ 12 by omega)
    have e9 : cy n + 2016 = 2016 + cy n := by omega
    unfold f_X5_number_L31
    simp (disch := omega) only [bd_e, jn_e, bi_e, gd_t, it_e, ie_e, if_true, if_false, ii_lit, ii_add, ii_sub, ii_mul, ii_neg, ii_lt, ii_le, ii_eq, ii_nat, ii_div, ii_nI, em, e9, len_x5 a1 a2 h1m (show m ≤ 12 by omega)]
    have e1 : 365 * cy n + (cy n + 3) / 4 + dn n - 1 + aw (lpy (cy n)) m + len (cy n) m = 365 * cy n + (cy n + 3) / 4 + dn n - 1 + aw (lpy (cy n)) (m + 1) := by omega
    rw [e1]
    exact ih (m + 1) (by omega) (by omega) N (by omega)
theorem num_x5 {n : Int} (h1 : 0 ≤ n) (h2 : n ≤ 18627) {N : Nat} (hN : 100 ≤ N) : f_X5_number N (II (DD n)) = some (II n) := by
  obtain ⟨a1, a2, a3, a4, a5, a6, a7, a8, a9, a0⟩ := dd_r h1 h2
  have b := dd_b h1 h2
  have ey := dd_y h1 h2
  have ed := dd_d h1 h2
  unfold f_X5_number
  have e2 : (2016 + cy n - 2016 : Int) = cy n := by omega
  simp (disch := omega) only [bd_e, jn_e, bi_e, gd_t, it_e, ie_e, if_true, if_false, ii_lit, ii_add, ii_sub, ii_mul, ii_neg, ii_lt, ii_le, ii_eq, ii_nat, ii_div, ii_nI, ey, ed, e2]
  have e1 : 365 * cy n + (cy n + 3) / 4 + dn n - 1 = 365 * cy n + (cy n + 3) / 4 + dn n - 1 + aw (lpy (cy n)) 1 := by rw [aw_1]; omega
  rw [e1]
  exact num_x5_L h1 h2 (mn n - 1).toNat 1 (by omega) (by omega) N (by omega)
