/-! pure: paysIn agrees -/
def PS9 (X Y : Nat → Nat → Int) (td yr : Int) : Nat → Nat → Int → Int
  | 0, _, s => s
  | k + 1, j, s => PS9 X Y td yr k (j + 1) (s + X j 9 * PI9 (X j) (Y j) yr ((X j 6).toNat - FB (Y j) td (X j 6).toNat 0) (FB (Y j) td (X j 6).toNat 0) (X j 5) 0)
section PAD
variable {td : Int} {nh : Nat} {hd : Nat → Int} {rt : Int} {X Y : Nat → Nat → Int} {g : SG} {μ : SM}
theorem psn_t {nb N0 : Nat} {bB bS : Nat → Nat → Int32} {bT : Nat → Nat → Int64} {bn : Nat → Nat} {bds : Nat → Nat → Int32} {K : Nat → Int32} {a0 : Int32} {s : Int64} : ∀ (k j : Nat), j + k = 10 → nb ≤ j → ∀ N : Nat, k + 1 ≤ N → f_X4_paysIn_L20 nb N0 bB bS bT bn bds a0 K N s (II j) = some (.inl s)
  | 0, j, hj, hn, N, hN => by
    obtain ⟨N, rfl⟩ : ∃ N', N = N' + 1 := ⟨N - 1, by omega⟩
    unfold f_X4_paysIn_L20
    simp (disch := omega) only [true_or, or_true, gd_T, bd_e, jn_e, bi_e, gd_t, it_e, ie_e, if_true, if_false, ii_lit, ii_add, ii_sub, ii_mul, ii_neg, ii_lt, ii_le, ii_eq, ii_nat, ii_div, ii_nI]
  | k + 1, j, hj, hn, N, hN => by
    obtain ⟨N, rfl⟩ : ∃ N', N = N' + 1 := ⟨N - 1, by omega⟩
    have e : ((j : Int) + 1) = ((j + 1 : Nat) : Int) := by omega
    have ih := psn_t (nb := nb) (N0 := N0) (bB := bB) (bS := bS) (bT := bT) (bn := bn) (bds := bds) (K := K) (a0 := a0) (s := s) k (j + 1) (by omega) (by omega) N (by omega)
    unfold f_X4_paysIn_L20
    simp (disch := omega) only [true_or, or_true, gd_T, bd_e, jn_e, bi_e, gd_t, it_e, ie_e, if_true, if_false, ii_lit, ii_add, ii_sub, ii_mul, ii_neg, ii_lt, ii_le, ii_eq, ii_nat, ii_div, ii_nI, Int.toNat_natCast, e, ih]
theorem psn_L (h : Inv9 td nh hd rt X Y g μ) {N0 : Nat} (hN0 : 300 ≤ N0) {yr : Int} (y0 : 2016 ≤ yr) (y1 : yr ≤ 2066) : ∀ (k j : Nat) (s : Int), j + k = g.2.2.2.2.1 → ∀ N : Nat, 20 ≤ N + j → f_X4_paysIn_L20 g.2.2.2.2.1 N0 g.2.2.2.2.2.1 g.2.2.2.2.2.2.1 g.2.2.2.2.2.2.2.1 g.2.2.2.2.2.2.2.2.1 g.2.2.2.2.2.2.2.2.2 (II yr) g.1 N (LL s) (II j) = some (.inl (LL (PS9 X Y td yr k j s))) := by
  obtain ⟨⟨t0, t1, r0, r1, hnb⟩, ⟨k3, k4, k5, k7⟩, -, -, -, hB⟩ := id h
  intro k
  induction k with
  | zero =>
    intro j s hj N hN
    unfold PS9
    exact psn_t (10 - j) j (by omega) (by omega) N (by omega)
  | succ k ih =>
    intro j s hj N hN
    obtain ⟨N, rfl⟩ : ∃ N', N = N' + 1 := ⟨N - 1, by omega⟩
    obtain ⟨hW, hC, hM⟩ := hB j (by omega)
    have h9 := hW.2.1
    have hn := hC.1.1
    have b1 := hC.1.2.1
    have b4 := hC.1.2.2.2.2.1
    have e : ((j : Int) + 1) = ((j + 1 : Nat) : Int) := by omega
    have ef := fbh_e hC hW t0 (show td ≤ 18627 by omega) (show 200 ≤ N0 by omega)
    obtain ⟨q1, -⟩ := fb_n hW td
    have ep := pin_L hC hW y0 y1 ((X j 6).toNat - FB (Y j) td (X j 6).toNat 0) (FB (Y j) td (X j 6).toNat 0) (X j 5) 0 (by omega) h9.1 h9.2.1 N0 (by omega)
    have ih := ih (j + 1) (s + X j 9 * PI9 (X j) (Y j) yr ((X j 6).toNat - FB (Y j) td (X j 6).toNat 0) (FB (Y j) td (X j 6).toNat 0) (X j 5) 0) (by omega) N (by omega)
    unfold f_X4_paysIn_L20 PS9 f_X0_paymentsIn
    generalize PI9 (X j) (Y j) yr ((X j 6).toNat - FB (Y j) td (X j 6).toNat 0) (FB (Y j) td (X j 6).toNat 0) (X j 5) 0 = pv at *
    simp (disch := omega) only [true_or, or_true, gd_T, bd_e, jn_e, bi_e, gd_t, it_e, ie_e, if_true, if_false, ii_lit, ii_add, ii_sub, ii_mul, ii_neg, ii_lt, ii_le, ii_eq, ii_nat, ii_div, ii_nI, ll_lit, ll_add, ll_sub, ll_mul, ll_neg, ll_div, ii_toL, ll_toI, lz_gt, lz_lt, lz_le, lz_ge, lz_eq, ll_lt, ll_le, ll_eq, Int.toNat_natCast, b1, b4, k5, ef, ep, e, ih]
theorem psn_M (h : Inv9 td nh hd rt X Y g μ) {N0 : Nat} (hN0 : 300 ≤ N0) {yr : Int} (y0 : 2016 ≤ yr) (y1 : yr ≤ 2066) : ∀ (k j : Nat) (s : Int), j + k = g.2.2.2.2.1 → ∀ N : Nat, 20 ≤ N + j → f_X5_paysIn_L30 μ.1 μ.2.2.2.1 N0 μ.2.2.2.2.1 (II yr) N (LL s) (II j) = some (LL (PS9 X Y td yr k j s), va_up μ.1 0 (II 0)) := by
  obtain ⟨⟨t0, t1, r0, r1, hnb⟩, -, -, ⟨m1, m3, m4⟩, -, hB⟩ := id h
  intro k
  induction k with
  | zero =>
    intro j s hj N hN
    obtain ⟨N, rfl⟩ : ∃ N', N = N' + 1 := ⟨N - 1, by omega⟩
    unfold f_X5_paysIn_L30 PS9
    simp (disch := omega) only [true_or, or_true, gd_T, bd_e, jn_e, bi_e, gd_t, it_e, ie_e, if_true, if_false, ii_lit, ii_add, ii_sub, ii_mul, ii_neg, ii_lt, ii_le, ii_eq, ii_nat, ii_div, ii_nI, m4]
  | succ k ih =>
    intro j s hj N hN
    obtain ⟨N, rfl⟩ : ∃ N', N = N' + 1 := ⟨N - 1, by omega⟩
    obtain ⟨hW, hC, hM⟩ := hB j (by omega)
    have h9 := hW.2.1
    have e : ((j : Int) + 1) = ((j + 1 : Nat) : Int) := by omega
    have ef := beh_e hM hW t0 (show td ≤ 18627 by omega) (show 200 ≤ N0 by omega)
    obtain ⟨q1, -⟩ := fb_n hW td
    have ep := fun K14 => pin_M hM hW y0 y1 (N0 := N0) (by omega) (K14 := K14) s ((X j 6).toNat - FB (Y j) td (X j 6).toNat 0) (FB (Y j) td (X j 6).toNat 0) (X j 5) 0 (by omega) h9.1 h9.2.1 N0 (by omega)
    have es : s + X j 9 * 0 = s := by omega
    rw [es] at ep
    have ih := ih (j + 1) (s + X j 9 * PI9 (X j) (Y j) yr ((X j 6).toNat - FB (Y j) td (X j 6).toNat 0) (FB (Y j) td (X j 6).toNat 0) (X j 5) 0) (by omega) N (by omega)
    unfold f_X5_paysIn_L30 PS9
    generalize PI9 (X j) (Y j) yr ((X j 6).toNat - FB (Y j) td (X j 6).toNat 0) (FB (Y j) td (X j 6).toNat 0) (X j 5) 0 = pv at *
    by_cases c : X j 9 = 0
    · have e0 : s + 0 * pv = s := by omega
      rw [c, e0] at ih
      rw [c]
      simp (disch := omega) only [true_or, or_true, gd_T, bd_e, jn_e, bi_e, gd_t, it_e, ie_e, if_true, if_false, ii_lit, ii_add, ii_sub, ii_mul, ii_neg, ii_lt, ii_le, ii_eq, ii_nat, ii_div, ii_nI, ll_lit, ll_add, ll_sub, ll_mul, ll_neg, ll_div, ii_toL, ll_toI, lz_gt, lz_lt, lz_le, lz_ge, lz_eq, ll_lt, ll_le, ll_eq, m4, own_9 hM, c, e, e0, ih]
    · simp (disch := omega) only [true_or, or_true, gd_T, bd_e, jn_e, bi_e, gd_t, it_e, ie_e, if_true, if_false, ii_lit, ii_add, ii_sub, ii_mul, ii_neg, ii_lt, ii_le, ii_eq, ii_nat, ii_div, ii_nI, ll_lit, ll_add, ll_sub, ll_mul, ll_neg, ll_div, ii_toL, ll_toI, lz_gt, lz_lt, lz_le, lz_ge, lz_eq, ll_lt, ll_le, ll_eq, m4, m1, own_9 hM, own_5 hM, ef, ep, e, ih]
end PAD
theorem ok_paysIn {g : SG} {μ : SM} (hI : Inv g μ) {N : Nat} (hN : 10000 ≤ N) (a0 : Int32) : OkM Inv ["java/lang/IllegalArgumentException"] (fun v : Int64 => v) (fun v : Int64 => v) g (k_paysIn N g a0) (q_paysIn N μ a0) := by
  obtain ⟨td, nh, hd, rt, X, Y, h9⟩ := id hI
  obtain ⟨x, x1, x2, rfl⟩ := rng a0
  have ez : II ((0 : Nat) : Int) = II 0 := rfl
  by_cases c : 2016 ≤ x ∧ x ≤ 2066
  · have e1 := psn_L h9 (N0 := N) (by omega) c.1 c.2 g.2.2.2.2.1 0 0 (by omega) N (by omega)
    have e2 := psn_M h9 (N0 := N) (by omega) c.1 c.2 g.2.2.2.2.1 0 0 (by omega) N (by omega)
    rw [ez] at e1 e2
    refine ok_v (v := LL (PS9 X Y td x g.2.2.2.2.1 0 0)) (b := LL (PS9 X Y td x g.2.2.2.2.1 0 0)) (M' := va_up μ.1 0 (II 0)) hI ?_ ?_ (va_up_self _ _ _) (up1 _ _) rfl
    · unfold f_X4_paysIn f_X4_requireYear
      simp (disch := omega) only [true_or, or_true, gd_T, bd_e, jn_e, bi_e, gd_t, it_e, ie_e, if_true, if_false, ii_lit, ii_add, ii_sub, ii_mul, ii_neg, ii_lt, ii_le, ii_eq, ii_nat, ii_div, ii_nI, ll_lit, ll_add, ll_sub, ll_mul, ll_neg, ll_div, ii_toL, ll_toI, lz_gt, lz_lt, lz_le, lz_ge, lz_eq, ll_lt, ll_le, ll_eq, ex_i, e1]
    · unfold q_paysIn f_X5_paysIn
      simp (disch := omega) only [true_or, or_true, gd_T, bd_e, jn_e, bi_e, gd_t, it_e, ie_e, if_true, if_false, ii_lit, ii_add, ii_sub, ii_mul, ii_neg, ii_lt, ii_le, ii_eq, ii_nat, ii_div, ii_nI, ll_lit, ll_add, ll_sub, ll_mul, ll_neg, ll_div, ii_toL, ll_toI, lz_gt, lz_lt, lz_le, lz_ge, lz_eq, ll_lt, ll_le, ll_eq, isin, e2, mp_e]
  · refine ok_x (E := "java/lang/IllegalArgumentException") (b := LL 0) (M' := va_up (va_up μ.1 0 (II 0)) 0 (II 1)) hI ?_ (by decide) ?_ ((va_up_self _ _ _).trans (by decide)) (up2 _ _ _)
    · unfold f_X4_paysIn f_X4_requireYear
      by_cases c1 : x < 2016
      · simp (disch := omega) only [true_or, or_true, gd_T, bd_e, jn_e, bi_e, gd_t, it_e, ie_e, if_true, if_false, ii_lit, ii_add, ii_sub, ii_mul, ii_neg, ii_lt, ii_le, ii_eq, ii_nat, ii_div, ii_nI, ll_lit, ll_add, ll_sub, ll_mul, ll_neg, ll_div, ii_toL, ll_toI, lz_gt, lz_lt, lz_le, lz_ge, lz_eq, ll_lt, ll_le, ll_eq, ex_e]
      · simp (disch := omega) only [true_or, or_true, gd_T, bd_e, jn_e, bi_e, gd_t, it_e, ie_e, if_true, if_false, ii_lit, ii_add, ii_sub, ii_mul, ii_neg, ii_lt, ii_le, ii_eq, ii_nat, ii_div, ii_nI, ll_lit, ll_add, ll_sub, ll_mul, ll_neg, ll_div, ii_toL, ll_toI, lz_gt, lz_lt, lz_le, lz_ge, lz_eq, ll_lt, ll_le, ll_eq, ex_e]
    · unfold q_paysIn f_X5_paysIn f_X5_no
      simp (disch := omega) only [true_or, or_true, gd_T, bd_e, jn_e, bi_e, gd_t, it_e, ie_e, if_true, if_false, ii_lit, ii_add, ii_sub, ii_mul, ii_neg, ii_lt, ii_le, ii_eq, ii_nat, ii_div, ii_nI, ll_lit, ll_add, ll_sub, ll_mul, ll_neg, ll_div, ii_toL, ll_toI, lz_gt, lz_lt, lz_le, lz_ge, lz_eq, ll_lt, ll_le, ll_eq, isin, mp_e]
