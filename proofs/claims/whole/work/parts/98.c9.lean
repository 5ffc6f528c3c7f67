/-! pure: years agrees -/
theorem nn9 {u : UInt64} (h : u.toNat % 2 ^ 63 < 2047 * 2 ^ 52) : u &&& 0x7fffffffffffffff ≤ 0x7ff0000000000000 := by
  rw [UInt64.le_iff_toNat_le, UInt64.toNat_and]
  have e : (0x7fffffffffffffff : UInt64).toNat = 2 ^ 63 - 1 := rfl
  have e2 : (0x7ff0000000000000 : UInt64).toNat = 9218868437227405312 := rfl
  rw [e, e2, Nat.and_two_pow_sub_one_eq_mod]
  omega
theorem dv_ok (a : Int64) {b : Int64} (h : b ≠ 0) : (FP.ddiv (FP.l2d a) (FP.l2d b) &&& 0x7fffffffffffffff ≤ 0x7ff0000000000000) ∧ (FP.ddiv (FP.ddiv (FP.l2d a) (FP.l2d b)) 4645128764097822720 &&& 0x7fffffffffffffff ≤ 0x7ff0000000000000) := by
  have a1 := FP.Core.l2d_mag a
  have b1 := FP.Core.l2d_big (FP.Core.int64_ne h)
  have q1 : (FP.ddiv (FP.l2d a) (FP.l2d b)).toNat % 2 ^ 63 < (1088 + (1074 - 52 - 1) - 1023 + 3) * 2 ^ 52 := FP.Core.ddiv_mag a1 b1.1 b1.2 (by decide) (by decide)
  have c1 : 1031 * 2 ^ 52 ≤ (4645128764097822720 : UInt64).toNat % 2 ^ 63 := by decide
  have c2 : (4645128764097822720 : UInt64).toNat % 2 ^ 63 < 2047 * 2 ^ 52 := by decide
  have q2 : (FP.ddiv (FP.ddiv (FP.l2d a) (FP.l2d b)) 4645128764097822720).toNat % 2 ^ 63 < (1089 + (1074 - 52 - 1) - 1031 + 3) * 2 ^ 52 := FP.Core.ddiv_mag q1 c1 c2 (by decide) (by decide)
  exact ⟨nn9 (by omega), nn9 (by omega)⟩
def YF9 (X : Nat → Nat → Int) : Nat → Nat → Int → Int
  | 0, _, s => s
  | k + 1, j, s => YF9 X k (j + 1) (s + X j 9 * (10 * X j 5))
def YD9 (X : Nat → Nat → Int) (td : Int) : Nat → Nat → Int → Int
  | 0, _, s => s
  | k + 1, j, s => YD9 X td k (j + 1) (s + X j 9 * (10 * X j 5) * (X j 1 - td))
section YRS
variable {td : Int} {nh : Nat} {hd : Nat → Int} {rt : Int} {X Y : Nat → Nat → Int} {g : SG} {μ : SM}
theorem yrs_t {nb : Nat} {bB bS : Nat → Nat → Int32} {K : Nat → Int32} {K4 : Int64 → Int64 → Option UInt64} {s1 s2 : Int64} : ∀ (k j : Nat), j + k = 10 → nb ≤ j → ∀ N : Nat, k + 1 ≤ N → f_X4_years_L18 nb bB K bS K4 N s1 s2 (II j) = K4 s1 s2
  | 0, j, hj, hn, N, hN => by
    obtain ⟨N, rfl⟩ : ∃ N', N = N' + 1 := ⟨N - 1, by omega⟩
    unfold f_X4_years_L18
    simp (disch := omega) only [true_or, or_true, gd_T, bd_e, jn_e, bi_e, gd_t, it_e, ie_e, if_true, if_false, ii_lit, ii_add, ii_sub, ii_mul, ii_neg, ii_lt, ii_le, ii_eq, ii_nat, ii_div, ii_nI]
  | k + 1, j, hj, hn, N, hN => by
    obtain ⟨N, rfl⟩ : ∃ N', N = N' + 1 := ⟨N - 1, by omega⟩
    have e : ((j : Int) + 1) = ((j + 1 : Nat) : Int) := by omega
    have ih := yrs_t (nb := nb) (bB := bB) (bS := bS) (K := K) (K4 := K4) (s1 := s1) (s2 := s2) k (j + 1) (by omega) (by omega) N (by omega)
    unfold f_X4_years_L18
    simp (disch := omega) only [true_or, or_true, gd_T, bd_e, jn_e, bi_e, gd_t, it_e, ie_e, if_true, if_false, ii_lit, ii_add, ii_sub, ii_mul, ii_neg, ii_lt, ii_le, ii_eq, ii_nat, ii_div, ii_nI, Int.toNat_natCast, e, ih]
theorem yrs_L (h : Inv9 td nh hd rt X Y g μ) {K4 : Int64 → Int64 → Option UInt64} : ∀ (k j : Nat) (s1 s2 : Int), j + k = g.2.2.2.2.1 → ∀ N : Nat, 20 ≤ N + j → f_X4_years_L18 g.2.2.2.2.1 g.2.2.2.2.2.1 g.1 g.2.2.2.2.2.2.1 K4 N (LL s1) (LL s2) (II j) = K4 (LL (YF9 X k j s1)) (LL (YD9 X td k j s2)) := by
  obtain ⟨⟨t0, t1, r0, r1, hnb⟩, ⟨k3, k4, k5, k7⟩, -, -, -, hB⟩ := id h
  intro k
  induction k with
  | zero =>
    intro j s1 s2 hj N hN
    unfold YF9 YD9
    exact yrs_t (10 - j) j (by omega) (by omega) N (by omega)
  | succ k ih =>
    intro j s1 s2 hj N hN
    obtain ⟨N, rfl⟩ : ∃ N', N = N' + 1 := ⟨N - 1, by omega⟩
    obtain ⟨hW, hC, hM⟩ := hB j (by omega)
    have h1 := hW.1
    have h9 := hW.2.1
    have b1 := hC.1.2.1
    have b4 := hC.1.2.2.2.2.1
    have s1e := hC.2.1.2.1
    have e : ((j : Int) + 1) = ((j + 1 : Nat) : Int) := by omega
    have ef := fo_c h9.1 h9.2.1
    have eb := btw_x1 t0 (show td ≤ 18627 by omega) (show 0 ≤ X j 1 by omega) (show X j 1 ≤ 18627 by omega)
    have ih := ih (j + 1) (s1 + X j 9 * (10 * X j 5)) (s2 + X j 9 * (10 * X j 5) * (X j 1 - td)) (by omega) N (by omega)
    unfold f_X4_years_L18 YF9 YD9 f_X0_face
    simp (disch := omega) only [true_or, or_true, gd_T, bd_e, jn_e, bi_e, gd_t, it_e, ie_e, if_true, if_false, ii_lit, ii_add, ii_sub, ii_mul, ii_neg, ii_lt, ii_le, ii_eq, ii_nat, ii_div, ii_nI, ll_lit, ll_add, ll_sub, ll_mul, ll_neg, ll_div, ii_toL, ll_toI, lz_gt, lz_lt, lz_le, lz_ge, lz_eq, ll_lt, ll_le, ll_eq, Int.toNat_natCast, b1, b4, s1e, k5, ef, eb, e, ih]
theorem yrm_L (h : Inv9 td nh hd rt X Y g μ) {K4 : Int64 → Int64 → Option (UInt64 × (Nat → Int32))} : ∀ (k j : Nat) (s1 s2 : Int), j + k = g.2.2.2.2.1 → ∀ N : Nat, 20 ≤ N + j → f_X5_years_L12 μ.1 μ.2.2.2.1 K4 N (LL s1) (LL s2) (II j) = K4 (LL (YF9 X k j s1)) (LL (YD9 X td k j s2)) := by
  obtain ⟨⟨t0, t1, r0, r1, hnb⟩, -, -, ⟨m1, m3, m4⟩, -, hB⟩ := id h
  intro k
  induction k with
  | zero =>
    intro j s1 s2 hj N hN
    obtain ⟨N, rfl⟩ : ∃ N', N = N' + 1 := ⟨N - 1, by omega⟩
    unfold f_X5_years_L12 YF9 YD9
    simp (disch := omega) only [true_or, or_true, gd_T, bd_e, jn_e, bi_e, gd_t, it_e, ie_e, if_true, if_false, ii_lit, ii_add, ii_sub, ii_mul, ii_neg, ii_lt, ii_le, ii_eq, ii_nat, ii_div, ii_nI, m4]
  | succ k ih =>
    intro j s1 s2 hj N hN
    obtain ⟨N, rfl⟩ : ∃ N', N = N' + 1 := ⟨N - 1, by omega⟩
    obtain ⟨hW, hC, hM⟩ := hB j (by omega)
    have h1 := hW.1
    have h9 := hW.2.1
    have e : ((j : Int) + 1) = ((j + 1 : Nat) : Int) := by omega
    have em : 10 * X j 5 * X j 9 = X j 9 * (10 * X j 5) := Int.mul_comm _ _
    have ih := ih (j + 1) (s1 + X j 9 * (10 * X j 5)) (s2 + X j 9 * (10 * X j 5) * (X j 1 - td)) (by omega) N (by omega)
    unfold f_X5_years_L12 YF9 YD9
    simp (disch := omega) only [true_or, or_true, gd_T, bd_e, jn_e, bi_e, gd_t, it_e, ie_e, if_true, if_false, ii_lit, ii_add, ii_sub, ii_mul, ii_neg, ii_lt, ii_le, ii_eq, ii_nat, ii_div, ii_nI, ll_lit, ll_add, ll_sub, ll_mul, ll_neg, ll_div, ii_toL, ll_toI, lz_gt, lz_lt, lz_le, lz_ge, lz_eq, ll_lt, ll_le, ll_eq, m4, m1, own_9 hM, own_5 hM, own_1 hM, em, e, ih]
theorem yf_r (h : Inv9 td nh hd rt X Y g μ) : ∀ (k j : Nat) (s : Int), j + k ≤ g.2.2.2.2.1 → 0 ≤ s → 0 ≤ YF9 X k j s ∧ YF9 X k j s ≤ s + 100000000 * k
  | 0, j, s, hj, hs => by unfold YF9; omega
  | k + 1, j, s, hj, hs => by
    have h9 := (h.2.2.2.2.2 j (by omega)).1.2.1
    have p := mulr (a := X j 9) (b := 10 * X j 5) (A := 1000) (B := 100000) (by omega) (by omega) (by omega) (by omega)
    unfold YF9
    generalize X j 9 * (10 * X j 5) = v at *
    have := yf_r h k (j + 1) (s + v) (by omega) (by omega)
    omega
end YRS
theorem ok_years {g : SG} {μ : SM} (hI : Inv g μ) {N : Nat} (hN : 10000 ≤ N) : ∃ r, f_X4_years N g.1 g.2.2.2.2.1 g.2.2.2.2.2.1 g.2.2.2.2.2.2.1 = some r.1 ∧ q_years N μ = some r ∧ Inv g r.2 := by
  obtain ⟨td, nh, hd, rt, X, Y, h9⟩ := id hI
  have hnb := h9.1.2.2.2.2
  have ez : II ((0 : Nat) : Int) = II 0 := rfl
  have e1 := fun K4 => yrs_L (K4 := K4) h9 g.2.2.2.2.1 0 0 0 (by omega) N (by omega)
  have e2 := fun K4 => yrm_L (K4 := K4) h9 g.2.2.2.2.1 0 0 0 (by omega) N (by omega)
  rw [ez] at e1 e2
  have hr := yf_r h9 g.2.2.2.2.1 0 0 (by omega) (by omega)
  generalize YF9 X g.2.2.2.2.1 0 0 = F at *
  generalize YD9 X td g.2.2.2.2.1 0 0 = D at *
  have hi := inv_M (M' := va_up μ.1 0 (II 0)) hI (up1 _ _)
  by_cases c : F = 0
  · refine ⟨(FP.dconst0, va_up μ.1 0 (II 0), μ.2), ?_, ?_, hi⟩
    · unfold f_X4_years
      simp (disch := omega) only [true_or, or_true, gd_T, bd_e, jn_e, bi_e, gd_t, it_e, ie_e, if_true, if_false, ii_lit, ii_add, ii_sub, ii_mul, ii_neg, ii_lt, ii_le, ii_eq, ii_nat, ii_div, ii_nI, ll_lit, ll_add, ll_sub, ll_mul, ll_neg, ll_div, ii_toL, ll_toI, lz_gt, lz_lt, lz_le, lz_ge, lz_eq, ll_lt, ll_le, ll_eq, e1, c]
    · unfold q_years f_X5_years
      simp (disch := omega) only [true_or, or_true, gd_T, bd_e, jn_e, bi_e, gd_t, it_e, ie_e, if_true, if_false, ii_lit, ii_add, ii_sub, ii_mul, ii_neg, ii_lt, ii_le, ii_eq, ii_nat, ii_div, ii_nI, ll_lit, ll_add, ll_sub, ll_mul, ll_neg, ll_div, ii_toL, ll_toI, lz_gt, lz_lt, lz_le, lz_ge, lz_eq, ll_lt, ll_le, ll_eq, e2, c, mp_e]
  · have hz : LL F ≠ 0 := by
      have := ll_eq (a := F) (b := 0) (by omega) (by omega) (by omega) (by omega)
      intro hh
      exact c (this.mp (hh.trans (ll_lit 0)))
    obtain ⟨d1, d2⟩ := dv_ok (LL D) hz
    have p1 : II 0 < lg_cmp (LL F) (LL 0) := by
      rw [lz_gt, ll_lt (by omega) (by omega) (by omega) (by omega)]
      omega
    have p2 : ¬ lg_cmp (LL F) (LL 0) = II 0 := by
      rw [lz_eq]
      exact fun hh => hz (hh.trans (ll_lit 0).symm)
    refine ⟨(FP.ddiv (FP.ddiv (FP.l2d (LL D)) (FP.l2d (LL F))) 4645128764097822720, va_up μ.1 0 (II 0), μ.2), ?_, ?_, hi⟩
    · unfold f_X4_years
      rw [show (0 : Int64) = LL 0 from ll_lit 0, show (0 : Int32) = II 0 from ii_lit 0, e1]
      exact (if_pos p1).trans ((gd_t d1).trans (gd_t d2))
    · unfold q_years f_X5_years
      rw [show (0 : Int64) = LL 0 from ll_lit 0, show (0 : Int32) = II 0 from ii_lit 0, e2]
      exact congrArg (Option.map _) ((if_neg p2).trans ((gd_t d1).trans (gd_t d2)))
