/-! pure: a bond, told by its numbers X and its days Y; how the class and the reference hold it -/
def WB (X Y : Nat → Int) : Prop := (0 ≤ X 0 ∧ X 0 < X 1 ∧ X 1 ≤ 18567 ∧ 0 ≤ X 2 ∧ X 2 ≤ 2000 ∧ (X 3 = 1 ∨ X 3 = 2 ∨ X 3 = 4 ∨ X 3 = 12) ∧ 0 ≤ X 4 ∧ X 4 ≤ 3) ∧ (0 ≤ X 5 ∧ X 5 ≤ 10000 ∧ 1 ≤ X 6 ∧ X 6 ≤ 120 ∧ 0 ≤ X 7 ∧ X 7 ≤ X 6 ∧ 0 ≤ X 8 ∧ X 8 ≤ 2 ∧ 0 ≤ X 9 ∧ X 9 ≤ 1000) ∧ (0 ≤ X 11 ∧ X 11 ≤ 5000 ∧ 0 ≤ X 10 ∧ X 10 ≤ 18627 ∧ 0 ≤ X 13 ∧ X 13 ≤ 15000 ∧ 0 ≤ X 12 ∧ X 12 ≤ 18627) ∧ (0 ≤ Y 0 ∧ Y 0 ≤ X 0 ∧ X 0 < Y 1 ∧ (∀ j : Nat, (j : Int) < X 6 → Y j < Y (j + 1)) ∧ Y (X 6).toNat = X 1) ∧ (X 8 = 0 → X 7 < X 6) ∧ (X 8 ≠ 0 → X 9 = 0)
def YP (X Y : Nat → Int) (j : Nat) : Int := if X 4 = 2 then 3650000 else if X 4 = 3 then 10000 * X 3 * (Y (j + 1) - Y j) else 3600000
def DC (X : Nat → Int) (a b : Int) : Int := if X 4 = 0 then TH a b else b - a
def CB (X Y : Nat → Int) (B S : Nat → Int32) (T : Nat → Int64) (n : Nat) (ds : Nat → Int32) : Prop := ((n : Int) = X 6 ∧ B 1 = II (X 5) ∧ B 2 = II (X 8) ∧ B 3 = II (X 7) ∧ B 4 = II (X 9) ∧ B 6 = II (X 11) ∧ B 8 = II (X 13) ∧ (0 < X 11 → B 5 = II (DD (X 10))) ∧ (0 < X 13 → B 7 = II (DD (X 12)))) ∧ (S 0 = II (DD (X 0)) ∧ S 1 = II (DD (X 1)) ∧ S 2 = II (X 2) ∧ S 3 = II (X 3) ∧ S 4 = II (X 4) ∧ S 5 = II (DD (Y 0)) ∧ T 7 = LL (DC X (X 0) (Y 1)) ∧ T 8 = LL (YP X Y 0)) ∧ ∀ j : Nat, j < n → ds j = II (DD (Y (j + 1)))
def MD (X Y : Nat → Int) (mof mdy : Nat → Int32) (i : Nat) : Prop := i < 10 ∧ (∀ k : Nat, k < 14 → mof (14 * i + k) = II (X k)) ∧ ∀ j : Nat, (j : Int) ≤ X 6 → mdy (121 * i + j) = II (Y j)
theorem mulr {a b A B : Int} (h1 : 0 ≤ a) (h2 : a ≤ A) (h3 : 0 ≤ b) (h4 : b ≤ B) : 0 ≤ a * b ∧ a * b ≤ A * B := ⟨Int.mul_nonneg h1 h3, Int.mul_le_mul h2 h4 h3 (Int.le_trans h1 h2)⟩
theorem divr {p d q : Int} (h1 : 0 ≤ p) (h2 : 0 < d) (h3 : p ≤ q * d) : 0 ≤ p / d ∧ p / d ≤ q := ⟨Int.ediv_nonneg h1 (Int.le_of_lt h2), by
  have := Int.ediv_le_ediv h2 h3
  rwa [Int.mul_ediv_cancel _ (Int.ne_of_gt h2)] at this⟩
section WBL
variable {X Y : Nat → Int}
theorem wb_m (h : WB X Y) {i : Nat} : ∀ k : Nat, ((i + k : Nat) : Int) ≤ X 6 → Y i ≤ Y (i + k)
  | 0, _ => Int.le_refl _
  | k + 1, hk => by
    have h1 := wb_m h (i := i) k (by omega)
    have h2 := h.2.2.2.1.2.2.2.1 (i + k) (by omega)
    have e : i + (k + 1) = i + k + 1 := by omega
    rw [e]
    omega
theorem wb_y (h : WB X Y) {j : Nat} (hj : (j : Int) ≤ X 6) : 0 ≤ Y j ∧ Y j ≤ X 1 ∧ Y j ≤ 18567 := by
  have h0 := wb_m h (i := 0) j (by omega)
  have h1 := wb_m h (i := j) ((X 6).toNat - j) (by omega)
  have e0 : 0 + j = j := by omega
  have e1 : j + ((X 6).toNat - j) = (X 6).toNat := by omega
  rw [e0] at h0
  rw [e1, h.2.2.2.1.2.2.2.2] at h1
  have := h.1.2.2.1
  have := h.2.2.2.1.1
  omega
theorem wb_s (h : WB X Y) {j : Nat} (hj : (j : Int) < X 6) : Y j < Y (j + 1) := h.2.2.2.1.2.2.2.1 j hj
end WBL
/-- the first coupon date behind a day -/
def FB (Y : Nat → Int) (t : Int) : Nat → Nat → Nat
  | 0, j => j
  | k + 1, j => if Y (j + 1) ≤ t then FB Y t k (j + 1) else j
theorem fb_r (Y : Nat → Int) (t : Int) : ∀ k j : Nat, j ≤ FB Y t k j ∧ FB Y t k j ≤ j + k ∧ (FB Y t k j < j + k → t < Y (FB Y t k j + 1)) ∧ ∀ i : Nat, j ≤ i → i < FB Y t k j → Y (i + 1) ≤ t
  | 0, j => ⟨Nat.le_refl _, Nat.le_refl _, fun h => absurd h (Nat.lt_irrefl _), fun i h1 h2 => absurd h2 (Nat.not_lt.mpr h1)⟩
  | k + 1, j => by
    unfold FB
    split
    · obtain ⟨h1, h2, h3, h4⟩ := fb_r Y t k (j + 1)
      refine ⟨by omega, by omega, fun h => h3 (by omega), fun i a b => ?_⟩
      by_cases c : i = j
      · subst c; assumption
      · exact h4 i (by omega) b
    · exact ⟨Nat.le_refl _, by omega, fun _ => by omega, fun i h1 h2 => absurd h2 (Nat.not_lt.mpr h1)⟩
section MDL
variable {X Y : Nat → Int} {mof mdy : Nat → Int32} {i : Nat}
theorem own_k (h : MD X Y mof mdy i) (k : Nat) (hk : k < 14) : f_X5_own mof (II i) (II k) = some (II (X k)) := by
  have hi := h.1
  unfold f_X5_own
  simp (disch := omega) only [bd_e, jn_e, bi_e, gd_t, it_e, ie_e, if_true, if_false, ii_lit, ii_add, ii_sub, ii_mul, ii_neg, ii_lt, ii_le, ii_eq, ii_nat, ii_div, ii_nI]
  have e : (14 * (i : Int) + k).toNat = 14 * i + k := by omega
  rw [e, h.2.1 k hk]
theorem own_0 (h : MD X Y mof mdy i) : f_X5_own mof (II i) (II 0) = some (II (X 0)) := own_k h 0 (by omega)
theorem own_1 (h : MD X Y mof mdy i) : f_X5_own mof (II i) (II 1) = some (II (X 1)) := own_k h 1 (by omega)
theorem own_2 (h : MD X Y mof mdy i) : f_X5_own mof (II i) (II 2) = some (II (X 2)) := own_k h 2 (by omega)
theorem own_3 (h : MD X Y mof mdy i) : f_X5_own mof (II i) (II 3) = some (II (X 3)) := own_k h 3 (by omega)
theorem own_4 (h : MD X Y mof mdy i) : f_X5_own mof (II i) (II 4) = some (II (X 4)) := own_k h 4 (by omega)
theorem own_5 (h : MD X Y mof mdy i) : f_X5_own mof (II i) (II 5) = some (II (X 5)) := own_k h 5 (by omega)
theorem own_6 (h : MD X Y mof mdy i) : f_X5_own mof (II i) (II 6) = some (II (X 6)) := own_k h 6 (by omega)
theorem own_7 (h : MD X Y mof mdy i) : f_X5_own mof (II i) (II 7) = some (II (X 7)) := own_k h 7 (by omega)
theorem own_8 (h : MD X Y mof mdy i) : f_X5_own mof (II i) (II 8) = some (II (X 8)) := own_k h 8 (by omega)
theorem own_9 (h : MD X Y mof mdy i) : f_X5_own mof (II i) (II 9) = some (II (X 9)) := own_k h 9 (by omega)
theorem own_10 (h : MD X Y mof mdy i) : f_X5_own mof (II i) (II 10) = some (II (X 10)) := own_k h 10 (by omega)
theorem own_11 (h : MD X Y mof mdy i) : f_X5_own mof (II i) (II 11) = some (II (X 11)) := own_k h 11 (by omega)
theorem own_12 (h : MD X Y mof mdy i) : f_X5_own mof (II i) (II 12) = some (II (X 12)) := own_k h 12 (by omega)
theorem own_13 (h : MD X Y mof mdy i) : f_X5_own mof (II i) (II 13) = some (II (X 13)) := own_k h 13 (by omega)
theorem cd_k (h : MD X Y mof mdy i) (hW : WB X Y) {j : Nat} (hj : ((j + 1 : Nat) : Int) ≤ X 6) : f_X5_couponDay mdy (II i) (II j) = some (II (Y (j + 1))) := by
  have hi := h.1
  have h6 := hW.2.1.2.2.2.1
  unfold f_X5_couponDay
  simp (disch := omega) only [bd_e, jn_e, bi_e, gd_t, it_e, ie_e, if_true, if_false, ii_lit, ii_add, ii_sub, ii_mul, ii_neg, ii_lt, ii_le, ii_eq, ii_nat, ii_div, ii_nI]
  have e : (121 * (i : Int) + j + 1).toNat = 121 * i + (j + 1) := by omega
  rw [e, h.2.2 (j + 1) hj]
theorem cd_m (h : MD X Y mof mdy i) (hW : WB X Y) : f_X5_couponDay mdy (II i) (II (-1)) = some (II (Y 0)) := by
  have hi := h.1
  have h6 := hW.2.1.2.2.1
  unfold f_X5_couponDay
  simp (disch := omega) only [bd_e, jn_e, bi_e, gd_t, it_e, ie_e, if_true, if_false, ii_lit, ii_add, ii_sub, ii_mul, ii_neg, ii_lt, ii_le, ii_eq, ii_nat, ii_div, ii_nI]
  have e : (121 * (i : Int) + -1 + 1).toNat = 121 * i + 0 := by omega
  rw [e, h.2.2 0 (by omega)]
theorem beh_L (h : MD X Y mof mdy i) (hW : WB X Y) {t : Int} (ht0 : 0 ≤ t) (ht1 : t ≤ 18627) : ∀ k j : Nat, ((j + k : Nat) : Int) = X 6 → ∀ N : Nat, k + 1 ≤ N → f_X5_behind_L2 mof (II i) mdy (II t) N (II j) = some (II (FB Y t k j))
  | 0, j, hj, N, hN => by
    obtain ⟨N, rfl⟩ : ∃ N', N = N' + 1 := ⟨N - 1, by omega⟩
    have h6 := hW.2.1.2.2.2.1
    unfold f_X5_behind_L2 FB
    simp (disch := omega) only [bd_e, jn_e, bi_e, gd_t, it_e, ie_e, if_true, if_false, ii_lit, ii_add, ii_sub, ii_mul, ii_neg, ii_lt, ii_le, ii_eq, ii_nat, ii_div, ii_nI, own_6 h]
  | k + 1, j, hj, N, hN => by
    obtain ⟨N, rfl⟩ : ∃ N', N = N' + 1 := ⟨N - 1, by omega⟩
    have h6 := hW.2.1.2.2.2.1
    have hy := wb_y hW (j := j + 1) (by omega)
    have ih := beh_L h hW ht0 ht1 k (j + 1) (by omega) N (by omega)
    unfold f_X5_behind_L2 FB
    simp (disch := omega) only [bd_e, jn_e, bi_e, gd_t, it_e, ie_e, if_true, if_false, ii_lit, ii_add, ii_sub, ii_mul, ii_neg, ii_lt, ii_le, ii_eq, ii_nat, ii_div, ii_nI, own_6 h, cd_k h hW (show ((j + 1 : Nat) : Int) ≤ X 6 by omega)]
    have e : ((j : Int) + 1) = ((j + 1 : Nat) : Int) := by omega
    rw [e, ih]
    by_cases c : Y (j + 1) ≤ t
    · simp (disch := omega) only [bd_e, jn_e, bi_e, gd_t, it_e, ie_e, if_true, if_false, ii_lit, ii_add, ii_sub, ii_mul, ii_neg, ii_lt, ii_le, ii_eq, ii_nat, ii_div, ii_nI]
    · simp (disch := omega) only [bd_e, jn_e, bi_e, gd_t, it_e, ie_e, if_true, if_false, ii_lit, ii_add, ii_sub, ii_mul, ii_neg, ii_lt, ii_le, ii_eq, ii_nat, ii_div, ii_nI]
theorem beh_e (h : MD X Y mof mdy i) (hW : WB X Y) {t : Int} (ht0 : 0 ≤ t) (ht1 : t ≤ 18627) {N : Nat} (hN : 200 ≤ N) : f_X5_behind N mof mdy (II i) (II t) = some (II (FB Y t (X 6).toNat 0)) := by
  have h6 := hW.2.1.2.2.2.1
  have h60 := hW.2.1.2.2.1
  unfold f_X5_behind
  exact beh_L h hW ht0 ht1 (X 6).toNat 0 (by omega) N (by omega)
end MDL
section CBL
variable {X Y : Nat → Int} {B S : Nat → Int32} {T : Nat → Int64} {n : Nat} {ds : Nat → Int32}
theorem fbh_L (h : CB X Y B S T n ds) (hW : WB X Y) {t : Int} (ht0 : 0 ≤ t) (ht1 : t ≤ 18627) : ∀ k j : Nat, j + k = n → ∀ N : Nat, k + 1 ≤ N → f_X3_firstBehind_L2 n (II (DD t)) ds N (II j) = some (II (FB Y t k j))
  | 0, j, hj, N, hN => by
    obtain ⟨N, rfl⟩ : ∃ N', N = N' + 1 := ⟨N - 1, by omega⟩
    have h6 := hW.2.1.2.2.2.1
    have hn := h.1.1
    unfold f_X3_firstBehind_L2 FB
    simp (disch := omega) only [bd_e, jn_e, bi_e, gd_t, it_e, ie_e, if_true, if_false, ii_lit, ii_add, ii_sub, ii_mul, ii_neg, ii_lt, ii_le, ii_eq, ii_nat, ii_div, ii_nI]
  | k + 1, j, hj, N, hN => by
    obtain ⟨N, rfl⟩ : ∃ N', N = N' + 1 := ⟨N - 1, by omega⟩
    have h6 := hW.2.1.2.2.2.1
    have hn := h.1.1
    have hy := wb_y hW (j := j + 1) (by omega)
    have bt := dd_b ht0 ht1
    have by9 := dd_b hy.1 (show Y (j + 1) ≤ 18627 by omega)
    have ih := fbh_L h hW ht0 ht1 k (j + 1) (by omega) N (by omega)
    have ed := h.2.2 j (by omega)
    have ec := dd_lt_iff ht0 ht1 hy.1 (show Y (j + 1) ≤ 18627 by omega)
    unfold f_X3_firstBehind_L2 FB
    simp (disch := omega) only [bd_e, jn_e, bi_e, gd_t, it_e, ie_e, if_true, if_false, ii_lit, ii_add, ii_sub, ii_mul, ii_neg, ii_lt, ii_le, ii_eq, ii_nat, ii_div, ii_nI, Int.toNat_natCast, ed, ec]
    have e : ((j : Int) + 1) = ((j + 1 : Nat) : Int) := by omega
    rw [e, ih]
    by_cases c : Y (j + 1) ≤ t
    · simp (disch := omega) only [bd_e, jn_e, bi_e, gd_t, it_e, ie_e, if_true, if_false, ii_lit, ii_add, ii_sub, ii_mul, ii_neg, ii_lt, ii_le, ii_eq, ii_nat, ii_div, ii_nI]
    · simp (disch := omega) only [bd_e, jn_e, bi_e, gd_t, it_e, ie_e, if_true, if_false, ii_lit, ii_add, ii_sub, ii_mul, ii_neg, ii_lt, ii_le, ii_eq, ii_nat, ii_div, ii_nI]
theorem fbh_e (h : CB X Y B S T n ds) (hW : WB X Y) {t : Int} (ht0 : 0 ≤ t) (ht1 : t ≤ 18627) {N : Nat} (hN : 200 ≤ N) : f_X3_firstBehind N n ds (II (DD t)) = some (II (FB Y t (X 6).toNat 0)) := by
  have h6 := hW.2.1.2.2.2.1
  have h60 := hW.2.1.2.2.1
  have hn := h.1.1
  have e : (X 6).toNat = n := by omega
  rw [e]
  unfold f_X3_firstBehind
  exact fbh_L h hW ht0 ht1 n 0 (by omega) N (by omega)
end CBL
