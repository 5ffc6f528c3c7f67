/-! pure: accrued of the reference; what is left behind; the first call -/
def LBk (X Y : Nat → Int) : Nat → Nat → Int → Int
  | 0, _, l => l
  | k + 1, j, l => LBk X Y k (j + 1) (l - SK X Y j l)
def FCk (X Y : Nat → Int) : Nat → Nat → Int
  | 0, _ => -1
  | k + 1, j => if 0 < X 13 ∧ (j : Int) < X 6 - 1 ∧ X 12 ≤ Y (j + 1) then j else FCk X Y k (j + 1)
theorem lb_r {X Y : Nat → Int} (hW : WB X Y) : ∀ (k j : Nat) (l : Int), 0 ≤ l → 0 ≤ LBk X Y k j l ∧ LBk X Y k j l ≤ l
  | 0, j, l, h => ⟨h, Int.le_refl _⟩
  | k + 1, j, l, h => by
    have r := sk_r hW (j := j) h
    have := lb_r hW k (j + 1) (l - SK X Y j l) (by omega)
    unfold LBk
    omega
theorem fc_r {X Y : Nat → Int} : ∀ (k j : Nat), FCk X Y k j = -1 ∨ ((j : Int) ≤ FCk X Y k j ∧ FCk X Y k j < (j : Int) + k ∧ FCk X Y k j < X 6 - 1 ∧ 0 < X 13)
  | 0, j => Or.inl rfl
  | k + 1, j => by
    unfold FCk
    split
    · right; omega
    · have := fc_r (X := X) (Y := Y) k (j + 1)
      omega
section C9
variable {X Y : Nat → Int} {B S : Nat → Int32} {T : Nat → Int64} {n : Nat} {ds : Nat → Int32}
theorem fbe_L (h : CB X Y B S T n ds) (hW : WB X Y) {a : Int} (ha : a < X 6) : ∀ (k j : Nat) (l : Int), (j : Int) + k = a + 1 → 0 ≤ l → l ≤ 10000 → ∀ N : Nat, k + 1 ≤ N → f_X0_factorBehind_L10 (II a) B n ds N (II l) (II j) = some (II (LBk X Y k j l))
  | 0, j, l, hj, h1, h2, N, hN => by
    obtain ⟨N, rfl⟩ : ∃ N', N = N' + 1 := ⟨N - 1, by omega⟩
    have h6 := hW.2.1.2.2.2.1
    unfold f_X0_factorBehind_L10 LBk
    simp (disch := omega) only [bd_e, jn_e, bi_e, gd_t, it_e, ie_e, if_true, if_false, ii_lit, ii_add, ii_sub, ii_mul, ii_neg, ii_lt, ii_le, ii_eq, ii_nat, ii_div, ii_nI]
  | k + 1, j, l, hj, h1, h2, N, hN => by
    obtain ⟨N, rfl⟩ : ∃ N', N = N' + 1 := ⟨N - 1, by omega⟩
    have h6 := hW.2.1.2.2.2.1
    have hn := h.1.1
    have r := sk_r hW (j := j) h1
    have ih := fbe_L h hW ha k (j + 1) (l - SK X Y j l) (by omega) (by omega) (by omega) N (by omega)
    unfold f_X0_factorBehind_L10 LBk
    simp (disch := omega) only [bd_e, jn_e, bi_e, gd_t, it_e, ie_e, if_true, if_false, ii_lit, ii_add, ii_sub, ii_mul, ii_neg, ii_lt, ii_le, ii_eq, ii_nat, ii_div, ii_nI, snk_c h hW (show j < n by omega) h1 h2]
    have e : ((j : Int) + 1) = ((j + 1 : Nat) : Int) := by omega
    rw [e, ih]
theorem icd_c (h : CB X Y B S T n ds) (hW : WB X Y) {j : Nat} (hj : j < n) : f_X0_isCallDate B n ds (II j) = some (if 0 < X 13 ∧ (j : Int) < X 6 - 1 ∧ X 12 ≤ Y (j + 1) then II 1 else II 0) := by
  have h6 := hW.2.1.2.2.2.1
  have hp := hW.2.2.1
  obtain ⟨⟨hn, b1, b2, b3, b4, b6, b8, b5, b7⟩, -, hd⟩ := h
  have hy := wb_y hW (j := j + 1) (by omega)
  have ed := hd j hj
  unfold f_X0_isCallDate
  by_cases c2 : 0 < X 13
  · have e5 := b7 c2
    have bt := dd_b (n := X 12) (by omega) (by omega)
    have by9 := dd_b hy.1 (show Y (j + 1) ≤ 18627 by omega)
    have ec := dd_lt_iff hy.1 (show Y (j + 1) ≤ 18627 by omega) (show 0 ≤ X 12 by omega) (show X 12 ≤ 18627 by omega)
    by_cases c1 : (j : Int) < X 6 - 1
    · by_cases c3 : X 12 ≤ Y (j + 1)
      · simp (disch := omega) only [bd_e, jn_e, bi_e, gd_t, it_e, ie_e, if_true, if_false, ii_lit, ii_add, ii_sub, ii_mul, ii_neg, ii_lt, ii_le, ii_eq, ii_nat, ii_div, ii_nI, Int.toNat_natCast, b8, ed, e5, ec]
      · simp (disch := omega) only [bd_e, jn_e, bi_e, gd_t, it_e, ie_e, if_true, if_false, ii_lit, ii_add, ii_sub, ii_mul, ii_neg, ii_lt, ii_le, ii_eq, ii_nat, ii_div, ii_nI, Int.toNat_natCast, b8, ed, e5, ec]
    · simp (disch := omega) only [bd_e, jn_e, bi_e, gd_t, it_e, ie_e, if_true, if_false, ii_lit, ii_add, ii_sub, ii_mul, ii_neg, ii_lt, ii_le, ii_eq, ii_nat, ii_div, ii_nI, Int.toNat_natCast, b8]
  · simp (disch := omega) only [bd_e, jn_e, bi_e, gd_t, it_e, ie_e, if_true, if_false, ii_lit, ii_add, ii_sub, ii_mul, ii_neg, ii_lt, ii_le, ii_eq, ii_nat, ii_div, ii_nI, Int.toNat_natCast, b8]
theorem fca_L (h : CB X Y B S T n ds) (hW : WB X Y) : ∀ (k j : Nat), j + k = n → ∀ N : Nat, k + 1 ≤ N → f_X0_firstCall_L5 n B ds N (II j) = some (II (FCk X Y k j))
  | 0, j, hj, N, hN => by
    obtain ⟨N, rfl⟩ : ∃ N', N = N' + 1 := ⟨N - 1, by omega⟩
    have h6 := hW.2.1.2.2.2.1
    have hn := h.1.1
    unfold f_X0_firstCall_L5 FCk
    simp (disch := omega) only [bd_e, jn_e, bi_e, gd_t, it_e, ie_e, if_true, if_false, ii_lit, ii_add, ii_sub, ii_mul, ii_neg, ii_lt, ii_le, ii_eq, ii_nat, ii_div, ii_nI]
  | k + 1, j, hj, N, hN => by
    obtain ⟨N, rfl⟩ : ∃ N', N = N' + 1 := ⟨N - 1, by omega⟩
    have h6 := hW.2.1.2.2.2.1
    have hn := h.1.1
    have ih := fca_L h hW k (j + 1) (by omega) N (by omega)
    have e : ((j : Int) + 1) = ((j + 1 : Nat) : Int) := by omega
    unfold f_X0_firstCall_L5 FCk
    by_cases c : 0 < X 13 ∧ (j : Int) < X 6 - 1 ∧ X 12 ≤ Y (j + 1)
    · simp (disch := omega) only [bd_e, jn_e, bi_e, gd_t, it_e, ie_e, if_true, if_false, ii_lit, ii_add, ii_sub, ii_mul, ii_neg, ii_lt, ii_le, ii_eq, ii_nat, ii_div, ii_nI, icd_c h hW (show j < n by omega)]
    · simp (disch := omega) only [bd_e, jn_e, bi_e, gd_t, it_e, ie_e, if_true, if_false, ii_lit, ii_add, ii_sub, ii_mul, ii_neg, ii_lt, ii_le, ii_eq, ii_nat, ii_div, ii_nI, icd_c h hW (show j < n by omega), e, ih]
theorem fca_c (h : CB X Y B S T n ds) (hW : WB X Y) {N : Nat} (hN : 200 ≤ N) : f_X0_firstCall N B n ds = some (II (FCk X Y ((X 6).toNat - (X 7).toNat) (X 7).toNat)) := by
  have h6 := hW.2.1
  have hn := h.1.1
  have h7 := h.1.2.2.2.1
  have e : X 7 = (((X 7).toNat : Nat) : Int) := by omega
  unfold f_X0_firstCall
  rw [bd_e, h7]
  conv => lhs; rw [e]
  exact fca_L h hW _ _ (by omega) N (by omega)
end C9
section M9
variable {X Y : Nat → Int} {mof mdy : Nat → Int32} {i : Nat}
theorem thr_m (h : MD X Y mof mdy i) (hW : WB X Y) : f_X5_isThere mof (II i) = some (if X 8 = 0 then II 1 else II 0) := by
  have h8 := hW.2.1
  unfold f_X5_isThere
  by_cases c : X 8 = 0
  · simp (disch := omega) only [bd_e, jn_e, bi_e, gd_t, it_e, ie_e, if_true, if_false, ii_lit, ii_add, ii_sub, ii_mul, ii_neg, ii_lt, ii_le, ii_eq, ii_nat, ii_div, ii_nI, own_8 h]
  · simp (disch := omega) only [bd_e, jn_e, bi_e, gd_t, it_e, ie_e, if_true, if_false, ii_lit, ii_add, ii_sub, ii_mul, ii_neg, ii_lt, ii_le, ii_eq, ii_nat, ii_div, ii_nI, own_8 h]
theorem bg_m (h : MD X Y mof mdy i) (hW : WB X Y) {j : Nat} (hj : (j : Int) < X 6) : f_X5_beginning mof mdy (II i) (II j) = some (II (BG X Y j)) := by
  have h6 := hW.2.1.2.2.2.1
  have hw1 := hW.1
  have yy := hW.2.2.2.1
  unfold f_X5_beginning BG
  cases j with
  | zero =>
    have ez : II ((0 : Nat) : Int) = II 0 := rfl
    rw [ez]
    simp (disch := omega) only [bd_e, jn_e, bi_e, gd_t, it_e, ie_e, if_true, if_false, ii_lit, ii_add, ii_sub, ii_mul, ii_neg, ii_lt, ii_le, ii_eq, ii_nat, ii_div, ii_nI, own_0 h, cd_m h hW]
  | succ j =>
    have e : ((j + 1 : Nat) : Int) - 1 = (j : Int) := by omega
    have e0 : ¬ (j + 1 = 0) := by omega
    simp (disch := omega) only [bd_e, jn_e, bi_e, gd_t, it_e, ie_e, if_true, if_false, ii_lit, ii_add, ii_sub, ii_mul, ii_neg, ii_lt, ii_le, ii_eq, ii_nat, ii_div, ii_nI, e, cd_k h hW (show ((j + 1 : Nat) : Int) ≤ X 6 by omega)]
theorem acc_m (h : MD X Y mof mdy i) (hW : WB X Y) {t : Int} (ht0 : 0 ≤ t) (ht1 : t ≤ 18627) {N : Nat} (hN : 200 ≤ N) : f_X5_accruedOn N mof mdy (II i) (II t) = some (II (if X 8 = 0 then AC X Y t (10 * X 5) else 0)) := by
  have h8 := hW.2.1
  have hw1 := hW.1
  obtain ⟨q1, q2, q3, q4⟩ := fb_n hW t
  have eb := beh_e h hW ht0 ht1 hN
  unfold f_X5_accruedOn AC
  generalize FB Y t (X 6).toNat 0 = q at *
  by_cases c : X 8 = 0
  · by_cases c1 : t < X 0
    · simp (disch := omega) only [bd_e, jn_e, bi_e, gd_t, it_e, ie_e, if_true, if_false, ii_lit, ii_add, ii_sub, ii_mul, ii_neg, ii_lt, ii_le, ii_eq, ii_nat, ii_div, ii_nI, thr_m h hW, own_0 h, own_1 h]
    · by_cases c2 : X 1 ≤ t
      · simp (disch := omega) only [bd_e, jn_e, bi_e, gd_t, it_e, ie_e, if_true, if_false, ii_lit, ii_add, ii_sub, ii_mul, ii_neg, ii_lt, ii_le, ii_eq, ii_nat, ii_div, ii_nI, thr_m h hW, own_0 h, own_1 h]
      · have a := q2 (by omega)
        have b := q4 (by omega) (by omega)
        simp (disch := omega) only [bd_e, jn_e, bi_e, gd_t, it_e, ie_e, if_true, if_false, ii_lit, ii_add, ii_sub, ii_mul, ii_neg, ii_lt, ii_le, ii_eq, ii_nat, ii_div, ii_nI, thr_m h hW, own_0 h, own_1 h, own_5 h, eb, bg_m h hW (show (q : Int) < X 6 by omega), int_m h hW (show (q : Int) < X 6 by omega) (show 0 ≤ 10 * X 5 by omega) (show 10 * X 5 ≤ 100000 by omega) b.2 b.1 (show t ≤ Y (q + 1) by omega) hN]
  · simp (disch := omega) only [bd_e, jn_e, bi_e, gd_t, it_e, ie_e, if_true, if_false, ii_lit, ii_add, ii_sub, ii_mul, ii_neg, ii_lt, ii_le, ii_eq, ii_nat, ii_div, ii_nI, thr_m h hW]
theorem lbe_L (h : MD X Y mof mdy i) (hW : WB X Y) {a : Int} (ha : a < X 6) : ∀ (k j : Nat) (l : Int), (j : Int) + k = a + 1 → 0 ≤ l → l ≤ 10000 → ∀ N : Nat, k + 1 ≤ N → f_X5_leftBehind_L16 (II a) mof mdy (II i) N (II l) (II j) = some (II (LBk X Y k j l))
  | 0, j, l, hj, h1, h2, N, hN => by
    obtain ⟨N, rfl⟩ : ∃ N', N = N' + 1 := ⟨N - 1, by omega⟩
    have h6 := hW.2.1.2.2.2.1
    unfold f_X5_leftBehind_L16 LBk
    simp (disch := omega) only [bd_e, jn_e, bi_e, gd_t, it_e, ie_e, if_true, if_false, ii_lit, ii_add, ii_sub, ii_mul, ii_neg, ii_lt, ii_le, ii_eq, ii_nat, ii_div, ii_nI]
  | k + 1, j, l, hj, h1, h2, N, hN => by
    obtain ⟨N, rfl⟩ : ∃ N', N = N' + 1 := ⟨N - 1, by omega⟩
    have h6 := hW.2.1.2.2.2.1
    have h11 := hW.2.2.1
    have r := sk_r hW (j := j) h1
    have ih := lbe_L h hW ha k (j + 1) (l - SK X Y j l) (by omega) (by omega) (by omega) N (by omega)
    have e : ((j : Int) + 1) = ((j + 1 : Nat) : Int) := by omega
    obtain ⟨s1, s2⟩ := sk_su X Y j l
    unfold f_X5_leftBehind_L16 LBk
    rcases snk_m h hW (show (j : Int) < X 6 by omega) with ⟨a1, a2⟩ | ⟨a1, a2⟩
    · have e1 := s1 a1
      by_cases c : l < X 11
      · rw [if_pos c] at e1
        have e3 : l - SK X Y j l = 0 := by omega
        rw [e3] at ih ⊢
        simp (disch := omega) only [bd_e, jn_e, bi_e, gd_t, it_e, ie_e, if_true, if_false, ii_lit, ii_add, ii_sub, ii_mul, ii_neg, ii_lt, ii_le, ii_eq, ii_nat, ii_div, ii_nI, a2, own_11 h, e, ih]
      · rw [if_neg c] at e1
        by_cases c2 : l = X 11
        · have e3 : l - SK X Y j l = 0 := by omega
          rw [e3] at ih ⊢
          simp (disch := omega) only [bd_e, jn_e, bi_e, gd_t, it_e, ie_e, if_true, if_false, ii_lit, ii_add, ii_sub, ii_mul, ii_neg, ii_lt, ii_le, ii_eq, ii_nat, ii_div, ii_nI, a2, own_11 h, e, ih]
        · rw [e1] at ih ⊢
          simp (disch := omega) only [bd_e, jn_e, bi_e, gd_t, it_e, ie_e, if_true, if_false, ii_lit, ii_add, ii_sub, ii_mul, ii_neg, ii_lt, ii_le, ii_eq, ii_nat, ii_div, ii_nI, a2, own_11 h, e, ih]
    · have e1 := s2 a1
      have e3 : l - SK X Y j l = l := by omega
      rw [e3] at ih ⊢
      simp (disch := omega) only [bd_e, jn_e, bi_e, gd_t, it_e, ie_e, if_true, if_false, ii_lit, ii_add, ii_sub, ii_mul, ii_neg, ii_lt, ii_le, ii_eq, ii_nat, ii_div, ii_nI, a2, e, ih]
theorem fca_M (h : MD X Y mof mdy i) (hW : WB X Y) : ∀ (k j : Nat), ((j + k : Nat) : Int) = X 6 → ∀ N : Nat, k + 1 ≤ N → f_X5_firstCall_L18 mof (II i) mdy N (II j) = some (II (FCk X Y k j))
  | 0, j, hj, N, hN => by
    obtain ⟨N, rfl⟩ : ∃ N', N = N' + 1 := ⟨N - 1, by omega⟩
    have h6 := hW.2.1.2.2.2.1
    unfold f_X5_firstCall_L18 FCk
    simp (disch := omega) only [bd_e, jn_e, bi_e, gd_t, it_e, ie_e, if_true, if_false, ii_lit, ii_add, ii_sub, ii_mul, ii_neg, ii_lt, ii_le, ii_eq, ii_nat, ii_div, ii_nI, own_6 h]
  | k + 1, j, hj, N, hN => by
    obtain ⟨N, rfl⟩ : ∃ N', N = N' + 1 := ⟨N - 1, by omega⟩
    have h6 := hW.2.1.2.2.2.1
    have ih := fca_M h hW k (j + 1) (by omega) N (by omega)
    have e : ((j : Int) + 1) = ((j + 1 : Nat) : Int) := by omega
    unfold f_X5_firstCall_L18 FCk
    rcases cal_m h hW (show (j : Int) < X 6 by omega) with ⟨a1, a2⟩ | ⟨a1, a2⟩
    · unfold CU at a1
      simp (disch := omega) only [bd_e, jn_e, bi_e, gd_t, it_e, ie_e, if_true, if_false, ii_lit, ii_add, ii_sub, ii_mul, ii_neg, ii_lt, ii_le, ii_eq, ii_nat, ii_div, ii_nI, own_6 h, a2]
    · unfold CU at a1
      simp (disch := omega) only [bd_e, jn_e, bi_e, gd_t, it_e, ie_e, if_true, if_false, ii_lit, ii_add, ii_sub, ii_mul, ii_neg, ii_lt, ii_le, ii_eq, ii_nat, ii_div, ii_nI, own_6 h, a2, e, ih]
theorem fca_m (h : MD X Y mof mdy i) (hW : WB X Y) {N : Nat} (hN : 200 ≤ N) : f_X5_firstCall N mof mdy (II i) = some (II (if X 8 = 0 then FCk X Y ((X 6).toNat - (X 7).toNat) (X 7).toNat else -1)) := by
  have h6 := hW.2.1
  have e : X 7 = (((X 7).toNat : Nat) : Int) := by omega
  have ih := fca_M h hW ((X 6).toNat - (X 7).toNat) (X 7).toNat (by omega) N (by omega)
  rw [← e] at ih
  unfold f_X5_firstCall
  by_cases c : X 8 = 0
  · simp (disch := omega) only [bd_e, jn_e, bi_e, gd_t, it_e, ie_e, if_true, if_false, ii_lit, ii_add, ii_sub, ii_mul, ii_neg, ii_lt, ii_le, ii_eq, ii_nat, ii_div, ii_nI, thr_m h hW, own_7 h, ih]
  · simp (disch := omega) only [bd_e, jn_e, bi_e, gd_t, it_e, ie_e, if_true, if_false, ii_lit, ii_add, ii_sub, ii_mul, ii_neg, ii_lt, ii_le, ii_eq, ii_nat, ii_div, ii_nI, thr_m h hW]
end M9
