/-! pure: working days -/
theorem gd_T {β : Type} {_ : Decidable True} {k : Option β} : gd True k = k := gd_t trivial
def HD (nh : Nat) (hd : Nat → Int) (n : Int) : Prop := ∃ k, k < nh ∧ hd k = n
def CH (nh : Nat) (hd : Nat → Int) (hol : Nat → Int32) : Prop := nh ≤ 30 ∧ (∀ k, k < nh → 0 ≤ hd k ∧ hd k ≤ 18627 ∧ hol k = II (DD (hd k))) ∧ ∀ k, nh ≤ k → k < 30 → hol k = II 0
def MH (nh : Nat) (hd : Nat → Int) (M mhol : Nat → Int32) : Prop := nh ≤ 30 ∧ M 5 = II nh ∧ ∀ k, k < nh → 0 ≤ hd k ∧ hd k ≤ 18627 ∧ mhol k = II (hd k)
/-- a working day -/
def WK (nh : Nat) (hd : Nat → Int) (n : Int) : Prop := (n + 4) % 7 < 5 ∧ ¬ HD nh hd n
theorem ish_L {nh : Nat} {hd : Nat → Int} {hol : Nat → Int32} (h : CH nh hd hol) {n : Int} (h1 : 0 ≤ n) (h2 : n ≤ 18627) : ∀ (k j : Nat), j + k = 30 → (∀ i, i < j → i < nh → hd i ≠ n) → ∀ N : Nat, k + 1 ≤ N → (HD nh hd n ∧ f_X4_isHoliday_L11 hol (II (DD n)) N (II j) = some (II 1)) ∨ (¬ HD nh hd n ∧ f_X4_isHoliday_L11 hol (II (DD n)) N (II j) = some (II 0))
  | 0, j, hj, hi, N, hN => by
    obtain ⟨N, rfl⟩ : ∃ N', N = N' + 1 := ⟨N - 1, by omega⟩
    have h30 := h.1
    right
    refine ⟨fun ⟨k, hk, e⟩ => hi k (by omega) hk e, ?_⟩
    unfold f_X4_isHoliday_L11
    simp (disch := omega) only [true_or, or_true, gd_T, bd_e, jn_e, bi_e, gd_t, it_e, ie_e, if_true, if_false, ii_lit, ii_add, ii_sub, ii_mul, ii_neg, ii_lt, ii_le, ii_eq, ii_nat, ii_div, ii_nI]
  | k + 1, j, hj, hi, N, hN => by
    obtain ⟨N, rfl⟩ : ∃ N', N = N' + 1 := ⟨N - 1, by omega⟩
    have bn := dd_b h1 h2
    have e : ((j : Int) + 1) = ((j + 1 : Nat) : Int) := by omega
    unfold f_X4_isHoliday_L11
    by_cases c : j < nh
    · obtain ⟨a1, a2, a3⟩ := h.2.1 j c
      have bj := dd_b a1 a2
      have ec := dd_eq_iff a1 a2 h1 h2
      by_cases c2 : hd j = n
      · left
        refine ⟨⟨j, c, c2⟩, ?_⟩
        simp (disch := omega) only [true_or, or_true, gd_T, bd_e, jn_e, bi_e, gd_t, it_e, ie_e, if_true, if_false, ii_lit, ii_add, ii_sub, ii_mul, ii_neg, ii_lt, ii_le, ii_eq, ii_nat, ii_div, ii_nI, Int.toNat_natCast, a3, ec]
      · have ih := ish_L h h1 h2 k (j + 1) (by omega) (fun i a b => by
          by_cases ci : i = j
          · subst ci; exact c2
          · exact hi i (by omega) b) N (by omega)
        simp (disch := omega) only [true_or, or_true, gd_T, bd_e, jn_e, bi_e, gd_t, it_e, ie_e, if_true, if_false, ii_lit, ii_add, ii_sub, ii_mul, ii_neg, ii_lt, ii_le, ii_eq, ii_nat, ii_div, ii_nI, Int.toNat_natCast, a3, ec, e]
        exact ih
    · have a3 := h.2.2 j (by omega) (by omega)
      have ih := ish_L h h1 h2 k (j + 1) (by omega) (fun i a b => hi i (by omega) b) N (by omega)
      simp (disch := omega) only [true_or, or_true, gd_T, bd_e, jn_e, bi_e, gd_t, it_e, ie_e, if_true, if_false, ii_lit, ii_add, ii_sub, ii_mul, ii_neg, ii_lt, ii_le, ii_eq, ii_nat, ii_div, ii_nI, Int.toNat_natCast, a3, e]
      exact ih
theorem wk_c {nh : Nat} {hd : Nat → Int} {hol : Nat → Int32} (h : CH nh hd hol) {n : Int} (h1 : 0 ≤ n) (h2 : n ≤ 18627) {N : Nat} (hN : 200 ≤ N) : (WK nh hd n ∧ f_X4_isWorkingDay N hol (II n) = some (II 1)) ∨ (¬ WK nh hd n ∧ f_X4_isWorkingDay N hol (II n) = some (II 0)) := by
  unfold f_X4_isWorkingDay f_X1_dayOfWeek f_X4_isHoliday WK
  by_cases c : (n + 4) % 7 < 5
  · rcases ish_L h h1 h2 30 0 rfl (fun i a => absurd a (Nat.not_lt_zero i)) N (by omega) with ⟨a, b⟩ | ⟨a, b⟩
    · right
      refine ⟨fun k => k.2 a, ?_⟩
      have ez : II ((0 : Nat) : Int) = II 0 := rfl
      rw [ez] at b
      simp (disch := omega) only [true_or, or_true, gd_T, bd_e, jn_e, bi_e, gd_t, it_e, ie_e, if_true, if_false, ii_lit, ii_add, ii_sub, ii_mul, ii_neg, ii_lt, ii_le, ii_eq, ii_nat, ii_div, ii_nI, dat_x1 h1 h2 (show 100 ≤ N by omega), b]
    · left
      refine ⟨⟨c, a⟩, ?_⟩
      have ez : II ((0 : Nat) : Int) = II 0 := rfl
      rw [ez] at b
      simp (disch := omega) only [true_or, or_true, gd_T, bd_e, jn_e, bi_e, gd_t, it_e, ie_e, if_true, if_false, ii_lit, ii_add, ii_sub, ii_mul, ii_neg, ii_lt, ii_le, ii_eq, ii_nat, ii_div, ii_nI, dat_x1 h1 h2 (show 100 ≤ N by omega), b]
  · right
    refine ⟨fun k => c k.1, ?_⟩
    simp (disch := omega) only [true_or, or_true, gd_T, bd_e, jn_e, bi_e, gd_t, it_e, ie_e, if_true, if_false, ii_lit, ii_add, ii_sub, ii_mul, ii_neg, ii_lt, ii_le, ii_eq, ii_nat, ii_div, ii_nI]
theorem wk_L {nh : Nat} {hd : Nat → Int} {M mhol : Nat → Int32} (h : MH nh hd M mhol) {n : Int} (h1 : 0 ≤ n) (h2 : n ≤ 18700) : ∀ (k j : Nat), j + k = nh → (∀ i, i < j → hd i ≠ n) → ∀ N : Nat, k + 2 ≤ N → (HD nh hd n ∧ f_X5_isWorking_L17 M mhol (II n) N (II 1) (II j) = some (II 0)) ∨ (¬ HD nh hd n ∧ f_X5_isWorking_L17 M mhol (II n) N (II 1) (II j) = some (II 1))
  | 0, j, hj, hi, N, hN => by
    obtain ⟨N, rfl⟩ : ∃ N', N = N' + 1 := ⟨N - 1, by omega⟩
    have h30 := h.1
    right
    refine ⟨fun ⟨k, hk, e⟩ => hi k (by omega) e, ?_⟩
    unfold f_X5_isWorking_L17
    simp (disch := omega) only [true_or, or_true, gd_T, bd_e, jn_e, bi_e, gd_t, it_e, ie_e, if_true, if_false, ii_lit, ii_add, ii_sub, ii_mul, ii_neg, ii_lt, ii_le, ii_eq, ii_nat, ii_div, ii_nI, h.2.1]
  | k + 1, j, hj, hi, N, hN => by
    obtain ⟨N, rfl⟩ : ∃ N', N = N' + 1 := ⟨N - 1, by omega⟩
    have h30 := h.1
    have e : ((j : Int) + 1) = ((j + 1 : Nat) : Int) := by omega
    obtain ⟨a1, a2, a3⟩ := h.2.2 j (by omega)
    by_cases c2 : hd j = n
    · left
      refine ⟨⟨j, by omega, c2⟩, ?_⟩
      obtain ⟨N, rfl⟩ : ∃ N', N = N' + 1 := ⟨N - 1, by omega⟩
      unfold f_X5_isWorking_L17
      simp (disch := omega) only [true_or, or_true, gd_T, bd_e, jn_e, bi_e, gd_t, it_e, ie_e, if_true, if_false, ii_lit, ii_add, ii_sub, ii_mul, ii_neg, ii_lt, ii_le, ii_eq, ii_nat, ii_div, ii_nI, h.2.1, Int.toNat_natCast, a3, e]
      unfold f_X5_isWorking_L17
      by_cases c3 : (nh : Int) ≤ ((j + 1 : Nat) : Int)
      · simp (disch := omega) only [true_or, or_true, gd_T, bd_e, jn_e, bi_e, gd_t, it_e, ie_e, if_true, if_false, ii_lit, ii_add, ii_sub, ii_mul, ii_neg, ii_lt, ii_le, ii_eq, ii_nat, ii_div, ii_nI, h.2.1]
      · simp (disch := omega) only [true_or, or_true, gd_T, bd_e, jn_e, bi_e, gd_t, it_e, ie_e, if_true, if_false, ii_lit, ii_add, ii_sub, ii_mul, ii_neg, ii_lt, ii_le, ii_eq, ii_nat, ii_div, ii_nI, h.2.1]
    · have ih := wk_L h h1 h2 k (j + 1) (by omega) (fun i a => by
        by_cases ci : i = j
        · subst ci; exact c2
        · exact hi i (by omega)) N (by omega)
      unfold f_X5_isWorking_L17
      simp (disch := omega) only [true_or, or_true, gd_T, bd_e, jn_e, bi_e, gd_t, it_e, ie_e, if_true, if_false, ii_lit, ii_add, ii_sub, ii_mul, ii_neg, ii_lt, ii_le, ii_eq, ii_nat, ii_div, ii_nI, h.2.1, Int.toNat_natCast, a3, e]
      exact ih
theorem wk_m {nh : Nat} {hd : Nat → Int} {M mhol : Nat → Int32} (h : MH nh hd M mhol) {n : Int} (h1 : 0 ≤ n) (h2 : n ≤ 18700) {N : Nat} (hN : 200 ≤ N) : (WK nh hd n ∧ f_X5_isWorking N M mhol (II n) = some (II 1)) ∨ (¬ WK nh hd n ∧ f_X5_isWorking N M mhol (II n) = some (II 0)) := by
  have h30 := h.1
  unfold f_X5_isWorking f_X5_weekday WK
  by_cases c : (n + 4) % 7 < 5
  · have ez : II ((0 : Nat) : Int) = II 0 := rfl
    rcases wk_L h h1 h2 nh 0 (by omega) (fun i a => absurd a (Nat.not_lt_zero i)) N (by omega) with ⟨a, b⟩ | ⟨a, b⟩
    · right
      refine ⟨fun k => k.2 a, ?_⟩
      rw [ez] at b
      simp (disch := omega) only [true_or, or_true, gd_T, bd_e, jn_e, bi_e, gd_t, it_e, ie_e, if_true, if_false, ii_lit, ii_add, ii_sub, ii_mul, ii_neg, ii_lt, ii_le, ii_eq, ii_nat, ii_div, ii_nI, b]
    · left
      refine ⟨⟨c, a⟩, ?_⟩
      rw [ez] at b
      simp (disch := omega) only [true_or, or_true, gd_T, bd_e, jn_e, bi_e, gd_t, it_e, ie_e, if_true, if_false, ii_lit, ii_add, ii_sub, ii_mul, ii_neg, ii_lt, ii_le, ii_eq, ii_nat, ii_div, ii_nI, b]
  · right
    refine ⟨fun k => c k.1, ?_⟩
    obtain ⟨N, rfl⟩ : ∃ N', N = N' + 1 := ⟨N - 1, by omega⟩
    unfold f_X5_isWorking_L17
    by_cases c2 : nh = 0
    · simp (disch := omega) only [true_or, or_true, gd_T, bd_e, jn_e, bi_e, gd_t, it_e, ie_e, if_true, if_false, ii_lit, ii_add, ii_sub, ii_mul, ii_neg, ii_lt, ii_le, ii_eq, ii_nat, ii_div, ii_nI, h.2.1]
    · simp (disch := omega) only [true_or, or_true, gd_T, bd_e, jn_e, bi_e, gd_t, it_e, ie_e, if_true, if_false, ii_lit, ii_add, ii_sub, ii_mul, ii_neg, ii_lt, ii_le, ii_eq, ii_nat, ii_div, ii_nI, h.2.1]
