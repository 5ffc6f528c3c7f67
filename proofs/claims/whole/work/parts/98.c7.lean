/-! pure: paysIn: one bond -/
def PI9 (X Y : Nat → Int) (yr : Int) : Nat → Nat → Int → Int → Int
  | 0, _, _, s => s
  | k + 1, j, l, s => PI9 X Y yr k (j + 1) (l - SK X Y j l) (if 2016 + cy (Y (j + 1)) = yr then s + PY X Y j l else s)
section PAC
variable {X Y : Nat → Int} {B S : Nat → Int32} {T : Nat → Int64} {n : Nat} {ds : Nat → Int32} {mof mdy : Nat → Int32} {i : Nat}
theorem pin_L (h : CB X Y B S T n ds) (hW : WB X Y) {yr : Int} (y0 : 2016 ≤ yr) (y1 : yr ≤ 2066) : ∀ (k j : Nat) (l s : Int), j + k = n → 0 ≤ l → l ≤ 10000 → ∀ N : Nat, k + 1 ≤ N → f_X0_paymentsIn_L18 n ds B (II yr) S T N (LL s) (II l) (II j) = some (LL (PI9 X Y yr k j l s)) := by
  have h6 := hW.2.1
  have hn := h.1.1
  intro k
  induction k with
  | zero =>
    intro j l s hj h1 h2 N hN
    obtain ⟨N, rfl⟩ : ∃ N', N = N' + 1 := ⟨N - 1, by omega⟩
    unfold f_X0_paymentsIn_L18 PI9
    simp (disch := omega) only [true_or, or_true, gd_T, bd_e, jn_e, bi_e, gd_t, it_e, ie_e, if_true, if_false, ii_lit, ii_add, ii_sub, ii_mul, ii_neg, ii_lt, ii_le, ii_eq, ii_nat, ii_div, ii_nI]
  | succ k ih =>
    intro j l s hj h1 h2 N hN
    obtain ⟨N, rfl⟩ : ∃ N', N = N' + 1 := ⟨N - 1, by omega⟩
    have r := sk_r hW (j := j) h1
    have yy := wb_y hW (j := j + 1) (by omega)
    have ry := cy_r (n := Y (j + 1)) yy.1 (by omega)
    have ed := h.2.2 j (by omega)
    have e : ((j : Int) + 1) = ((j + 1 : Nat) : Int) := by omega
    have ep := pay_c h hW (j := j) (by omega) h1 h2
    have es := snk_c h hW (j := j) (by omega) h1 h2
    unfold f_X0_paymentsIn_L18 PI9
    by_cases c : 2016 + cy (Y (j + 1)) = yr
    · have ih := ih (j + 1) (l - SK X Y j l) (s + PY X Y j l) (by omega) (by omega) (by omega) N (by omega)
      simp (disch := omega) only [true_or, or_true, gd_T, bd_e, jn_e, bi_e, gd_t, it_e, ie_e, if_true, if_false, ii_lit, ii_add, ii_sub, ii_mul, ii_neg, ii_lt, ii_le, ii_eq, ii_nat, ii_div, ii_nI, ll_lit, ll_add, ll_sub, ll_mul, ll_neg, ll_div, ii_toL, ll_toI, lz_gt, lz_lt, lz_le, lz_ge, lz_eq, ll_lt, ll_le, ll_eq, Int.toNat_natCast, ed, yr_x1 yy.1 (show Y (j + 1) ≤ 18627 by omega), ep, es, e, ih]
    · have ih := ih (j + 1) (l - SK X Y j l) s (by omega) (by omega) (by omega) N (by omega)
      simp (disch := omega) only [true_or, or_true, gd_T, bd_e, jn_e, bi_e, gd_t, it_e, ie_e, if_true, if_false, ii_lit, ii_add, ii_sub, ii_mul, ii_neg, ii_lt, ii_le, ii_eq, ii_nat, ii_div, ii_nI, ll_lit, ll_add, ll_sub, ll_mul, ll_neg, ll_div, ii_toL, ll_toI, lz_gt, lz_lt, lz_le, lz_ge, lz_eq, ll_lt, ll_le, ll_eq, Int.toNat_natCast, ed, yr_x1 yy.1 (show Y (j + 1) ≤ 18627 by omega), es, e, ih]
theorem pin_M (h : MD X Y mof mdy i) (hW : WB X Y) {yr : Int} (y0 : 2016 ≤ yr) (y1 : yr ≤ 2066) {N0 : Nat} (hN0 : 200 ≤ N0) {K14 : Int64 → Option (Int64 × (Nat → Int32))} (A : Int) : ∀ (k j : Nat) (l s : Int), ((j + k : Nat) : Int) = X 6 → 0 ≤ l → l ≤ 10000 → ∀ N : Nat, k + 1 ≤ N → f_X5_paysIn_L74 mof (II i) mdy N0 (II yr) K14 N (LL (A + X 9 * s)) (II l) (II j) = K14 (LL (A + X 9 * PI9 X Y yr k j l s)) := by
  have h6 := hW.2.1
  have h11 := hW.2.2.1
  intro k
  induction k with
  | zero =>
    intro j l s hj h1 h2 N hN
    obtain ⟨N, rfl⟩ : ∃ N', N = N' + 1 := ⟨N - 1, by omega⟩
    unfold f_X5_paysIn_L74 PI9
    simp (disch := omega) only [true_or, or_true, gd_T, bd_e, jn_e, bi_e, gd_t, it_e, ie_e, if_true, if_false, ii_lit, ii_add, ii_sub, ii_mul, ii_neg, ii_lt, ii_le, ii_eq, ii_nat, ii_div, ii_nI, ll_lit, ll_add, ll_sub, ll_mul, ll_neg, ll_div, ii_toL, ll_toI, lz_gt, lz_lt, lz_le, lz_ge, lz_eq, ll_lt, ll_le, ll_eq, own_6 h]
  | succ k ih =>
    intro j l s hj h1 h2 N hN
    obtain ⟨N, rfl⟩ : ∃ N', N = N' + 1 := ⟨N - 1, by omega⟩
    have hjj : (j : Int) < X 6 := by omega
    have r := sk_r hW (j := j) h1
    have yy := wb_y hW (j := j + 1) (by omega)
    have ry := cy_r (n := Y (j + 1)) yy.1 (by omega)
    have e : ((j : Int) + 1) = ((j + 1 : Nat) : Int) := by omega
    have ec := cd_k h hW (j := j) (by omega)
    have ed := dat_x5 (n := Y (j + 1)) (N := N0) yy.1 (by omega) (by omega)
    have ey := dd_y (n := Y (j + 1)) yy.1 (by omega)
    have b1 := dd_b (n := Y (j + 1)) yy.1 (by omega)
    have cp := cp_r hW hjj (F := 10 * l) (by omega) (by omega)
    have ep := cpn_m h hW hjj (F := 10 * l) (by omega) (by omega) hN0
    obtain ⟨s1, s2⟩ := sk_su X Y j l
    unfold f_X5_paysIn_L74 PI9
    by_cases cl : (j : Int) = X 6 - 1
    · have hk : k = 0 := by omega
      have eP : PY X Y j l = CP X Y j (10 * l) + 10 * l := by unfold PY; rw [if_pos cl]
      subst hk
      by_cases c : 2016 + cy (Y (j + 1)) = yr
      · have ih := ih (j + 1) (l - l) (s + (CP X Y j (10 * l) + 10 * l)) (by omega) (by omega) (by omega) N (by omega)
        rw [eP]
        rw [Int.mul_add, ← Int.add_assoc] at ih
        unfold PI9 at ih ⊢
        simp (disch := omega) only [true_or, or_true, gd_T, bd_e, jn_e, bi_e, gd_t, it_e, ie_e, if_true, if_false, ii_lit, ii_add, ii_sub, ii_mul, ii_neg, ii_lt, ii_le, ii_eq, ii_nat, ii_div, ii_nI, ll_lit, ll_add, ll_sub, ll_mul, ll_neg, ll_div, ii_toL, ll_toI, lz_gt, lz_lt, lz_le, lz_ge, lz_eq, ll_lt, ll_le, ll_eq, own_6 h, own_9 h, ec, ed, ey, ep, e, ih]
      · have ih := ih (j + 1) (l - l) s (by omega) (by omega) (by omega) N (by omega)
        unfold PI9 at ih ⊢
        simp (disch := omega) only [true_or, or_true, gd_T, bd_e, jn_e, bi_e, gd_t, it_e, ie_e, if_true, if_false, ii_lit, ii_add, ii_sub, ii_mul, ii_neg, ii_lt, ii_le, ii_eq, ii_nat, ii_div, ii_nI, ll_lit, ll_add, ll_sub, ll_mul, ll_neg, ll_div, ii_toL, ll_toI, lz_gt, lz_lt, lz_le, lz_ge, lz_eq, ll_lt, ll_le, ll_eq, own_6 h, ec, ed, ey, e, ih]
    · have eP : PY X Y j l = CP X Y j (10 * l) + 10 * SK X Y j l := by unfold PY; rw [if_neg cl]
      have go : ∀ z : Int, z = SK X Y j l → 0 ≤ z → z ≤ l → (if 2016 + cy (Y (j + 1)) = yr then f_X5_paysIn_L74 mof (II i) mdy N0 (II yr) K14 N (LL (A + X 9 * s + X 9 * (CP X Y j (10 * l) + 10 * z))) (II (l - z)) (II ((j + 1 : Nat) : Int)) else f_X5_paysIn_L74 mof (II i) mdy N0 (II yr) K14 N (LL (A + X 9 * s)) (II (l - z)) (II ((j + 1 : Nat) : Int))) = K14 (LL (A + X 9 * PI9 X Y yr k (j + 1) (l - SK X Y j l) (if 2016 + cy (Y (j + 1)) = yr then s + PY X Y j l else s))) := fun z hz z0 z1 => by
        subst hz
        by_cases c : 2016 + cy (Y (j + 1)) = yr
        · have ih := ih (j + 1) (l - SK X Y j l) (s + PY X Y j l) (by omega) (by omega) (by omega) N (by omega)
          have e8 : A + X 9 * s + X 9 * (CP X Y j (10 * l) + 10 * SK X Y j l) = A + X 9 * (s + PY X Y j l) := by rw [eP, Int.mul_add (X 9) s, ← Int.add_assoc]
          rw [if_pos c, if_pos c, ← ih, e8]
        · have ih := ih (j + 1) (l - SK X Y j l) s (by omega) (by omega) (by omega) N (by omega)
          rw [if_neg c, if_neg c, ← ih]
      rcases snk_m h hW hjj with ⟨a1, a2⟩ | ⟨a1, a2⟩
      · have e1 := s1 a1
        by_cases c2 : X 11 < l
        · rw [if_neg (by omega)] at e1
          rw [← go (X 11) e1.symm (by omega) (by omega)]
          by_cases c : 2016 + cy (Y (j + 1)) = yr
          · simp (disch := omega) only [true_or, or_true, gd_T, bd_e, jn_e, bi_e, gd_t, it_e, ie_e, if_true, if_false, ii_lit, ii_add, ii_sub, ii_mul, ii_neg, ii_lt, ii_le, ii_eq, ii_nat, ii_div, ii_nI, ll_lit, ll_add, ll_sub, ll_mul, ll_neg, ll_div, ii_toL, ll_toI, lz_gt, lz_lt, lz_le, lz_ge, lz_eq, ll_lt, ll_le, ll_eq, own_6 h, own_9 h, own_11 h, a2, ec, ed, ey, ep, e]
          · simp (disch := omega) only [true_or, or_true, gd_T, bd_e, jn_e, bi_e, gd_t, it_e, ie_e, if_true, if_false, ii_lit, ii_add, ii_sub, ii_mul, ii_neg, ii_lt, ii_le, ii_eq, ii_nat, ii_div, ii_nI, ll_lit, ll_add, ll_sub, ll_mul, ll_neg, ll_div, ii_toL, ll_toI, lz_gt, lz_lt, lz_le, lz_ge, lz_eq, ll_lt, ll_le, ll_eq, own_6 h, own_11 h, a2, ec, ed, ey, e]
        · have e3 : SK X Y j l = l := by
            by_cases c4 : l < X 11
            · rw [if_pos c4] at e1; exact e1
            · rw [if_neg c4] at e1; omega
          rw [← go l e3.symm h1 (by omega)]
          by_cases c : 2016 + cy (Y (j + 1)) = yr
          · simp (disch := omega) only [true_or, or_true, gd_T, bd_e, jn_e, bi_e, gd_t, it_e, ie_e, if_true, if_false, ii_lit, ii_add, ii_sub, ii_mul, ii_neg, ii_lt, ii_le, ii_eq, ii_nat, ii_div, ii_nI, ll_lit, ll_add, ll_sub, ll_mul, ll_neg, ll_div, ii_toL, ll_toI, lz_gt, lz_lt, lz_le, lz_ge, lz_eq, ll_lt, ll_le, ll_eq, own_6 h, own_9 h, own_11 h, a2, ec, ed, ey, ep, e]
          · simp (disch := omega) only [true_or, or_true, gd_T, bd_e, jn_e, bi_e, gd_t, it_e, ie_e, if_true, if_false, ii_lit, ii_add, ii_sub, ii_mul, ii_neg, ii_lt, ii_le, ii_eq, ii_nat, ii_div, ii_nI, ll_lit, ll_add, ll_sub, ll_mul, ll_neg, ll_div, ii_toL, ll_toI, lz_gt, lz_lt, lz_le, lz_ge, lz_eq, ll_lt, ll_le, ll_eq, own_6 h, own_11 h, a2, ec, ed, ey, e]
      · have e1 := s2 a1
        rw [← go 0 e1.symm (by omega) h1]
        by_cases c : 2016 + cy (Y (j + 1)) = yr
        · simp (disch := omega) only [true_or, or_true, gd_T, bd_e, jn_e, bi_e, gd_t, it_e, ie_e, if_true, if_false, ii_lit, ii_add, ii_sub, ii_mul, ii_neg, ii_lt, ii_le, ii_eq, ii_nat, ii_div, ii_nI, ll_lit, ll_add, ll_sub, ll_mul, ll_neg, ll_div, ii_toL, ll_toI, lz_gt, lz_lt, lz_le, lz_ge, lz_eq, ll_lt, ll_le, ll_eq, own_6 h, own_9 h, a2, ec, ed, ey, ep, e]
        · simp (disch := omega) only [true_or, or_true, gd_T, bd_e, jn_e, bi_e, gd_t, it_e, ie_e, if_true, if_false, ii_lit, ii_add, ii_sub, ii_mul, ii_neg, ii_lt, ii_le, ii_eq, ii_nat, ii_div, ii_nI, ll_lit, ll_add, ll_sub, ll_mul, ll_neg, ll_div, ii_toL, ll_toI, lz_gt, lz_lt, lz_le, lz_ge, lz_eq, ll_lt, ll_le, ll_eq, own_6 h, a2, ec, ed, ey, e]
end PAC
