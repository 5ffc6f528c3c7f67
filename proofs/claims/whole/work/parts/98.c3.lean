/-! pure: ladder: the least worth of a rung -/
def LW9 (X Y : Nat → Nat → Int) (td rt yr : Int) : Nat → Nat → Int → Int
  | 0, _, l => l
  | k + 1, j, l => LW9 X Y td rt yr k (j + 1) (if X j 8 = 0 ∧ X j 0 ≤ td ∧ td < X j 1 ∧ 2016 + cy (X j 1) = yr then (if l < 0 ∨ WO (X j) (Y j) td (X j 5) rt < l then WO (X j) (Y j) td (X j 5) rt else l) else l)
section LAD
variable {td : Int} {nh : Nat} {hd : Nat → Int} {rt : Int} {X Y : Nat → Nat → Int} {g : SG} {μ : SM}
theorem lad_t {nb N0 : Nat} {bB bS : Nat → Nat → Int32} {bT : Nat → Nat → Int64} {bn : Nat → Nat} {bds : Nat → Nat → Int32} {K : Nat → Int32} {a0 : Int32} {s : Int64} : ∀ (k j : Nat), j + k = 10 → nb ≤ j → ∀ N : Nat, k + 1 ≤ N → f_X4_leastWorth_L18 nb bB bS a0 K N0 bT bn bds N s (II j) = some s
  | 0, j, hj, hn, N, hN => by
    obtain ⟨N, rfl⟩ : ∃ N', N = N' + 1 := ⟨N - 1, by omega⟩
    unfold f_X4_leastWorth_L18
    simp (disch := omega) only [true_or, or_true, gd_T, bd_e, jn_e, bi_e, gd_t, it_e, ie_e, if_true, if_false, ii_lit, ii_add, ii_sub, ii_mul, ii_neg, ii_lt, ii_le, ii_eq, ii_nat, ii_div, ii_nI]
  | k + 1, j, hj, hn, N, hN => by
    obtain ⟨N, rfl⟩ : ∃ N', N = N' + 1 := ⟨N - 1, by omega⟩
    have e : ((j : Int) + 1) = ((j + 1 : Nat) : Int) := by omega
    have ih := lad_t (nb := nb) (N0 := N0) (bB := bB) (bS := bS) (bT := bT) (bn := bn) (bds := bds) (K := K) (a0 := a0) (s := s) k (j + 1) (by omega) (by omega) N (by omega)
    unfold f_X4_leastWorth_L18
    simp (disch := omega) only [true_or, or_true, gd_T, bd_e, jn_e, bi_e, gd_t, it_e, ie_e, if_true, if_false, ii_lit, ii_add, ii_sub, ii_mul, ii_neg, ii_lt, ii_le, ii_eq, ii_nat, ii_div, ii_nI, Int.toNat_natCast, e, ih]
theorem rung_c {X Y : Nat → Int} {B S : Nat → Int32} {T : Nat → Int64} {n : Nat} {ds : Nat → Int32} (hC : CB X Y B S T n ds) (hW : WB X Y) {t yr : Int} (t0 : 0 ≤ t) (t1 : t ≤ 18627) (y0 : 2016 ≤ yr) (y1 : yr ≤ 2066) : f_X0_isRung B S (II yr) (II (DD t)) = some (if X 8 = 0 ∧ X 0 ≤ t ∧ t < X 1 ∧ 2016 + cy (X 1) = yr then II 1 else II 0) := by
  have hw1 := hW.1
  have b0 := dd_b t0 t1
  have b1 := dd_b (n := X 1) (by omega) (by omega)
  have r1 := cy_r (n := X 1) (by omega) (by omega)
  have ec := dd_le_iff (a := X 1) (b := t) (by omega) (by omega) t0 t1
  have eg := gone_c hC hW
  have ei := iss_c hC hW t0 t1
  have ey := yr_x1 (a := X 1) (by omega) (by omega)
  have s1 := hC.2.1.2.1
  unfold f_X0_isRung
  by_cases c8 : X 8 = 0
  · by_cases c0 : X 0 ≤ t
    · by_cases c1 : t < X 1
      · by_cases cy9 : 2016 + cy (X 1) = yr
        · simp (disch := omega) only [true_or, or_true, gd_T, bd_e, jn_e, bi_e, gd_t, it_e, ie_e, if_true, if_false, ii_lit, ii_add, ii_sub, ii_mul, ii_neg, ii_lt, ii_le, ii_eq, ii_nat, ii_div, ii_nI, eg, ei, s1, ec, ey]
        · simp (disch := omega) only [true_or, or_true, gd_T, bd_e, jn_e, bi_e, gd_t, it_e, ie_e, if_true, if_false, ii_lit, ii_add, ii_sub, ii_mul, ii_neg, ii_lt, ii_le, ii_eq, ii_nat, ii_div, ii_nI, eg, ei, s1, ec, ey]
      · simp (disch := omega) only [true_or, or_true, gd_T, bd_e, jn_e, bi_e, gd_t, it_e, ie_e, if_true, if_false, ii_lit, ii_add, ii_sub, ii_mul, ii_neg, ii_lt, ii_le, ii_eq, ii_nat, ii_div, ii_nI, eg, ei, s1, ec]
    · simp (disch := omega) only [true_or, or_true, gd_T, bd_e, jn_e, bi_e, gd_t, it_e, ie_e, if_true, if_false, ii_lit, ii_add, ii_sub, ii_mul, ii_neg, ii_lt, ii_le, ii_eq, ii_nat, ii_div, ii_nI, eg, ei]
  · simp (disch := omega) only [true_or, or_true, gd_T, bd_e, jn_e, bi_e, gd_t, it_e, ie_e, if_true, if_false, ii_lit, ii_add, ii_sub, ii_mul, ii_neg, ii_lt, ii_le, ii_eq, ii_nat, ii_div, ii_nI, eg]
theorem lad_L (h : Inv9 td nh hd rt X Y g μ) {N0 : Nat} (hN0 : 300 ≤ N0) {yr : Int} (y0 : 2016 ≤ yr) (y1 : yr ≤ 2066) : ∀ (k j : Nat) (l : Int), j + k = g.2.2.2.2.1 → -1 ≤ l → l ≤ 200000000 → ∀ N : Nat, 20 ≤ N + j → f_X4_leastWorth_L18 g.2.2.2.2.1 g.2.2.2.2.2.1 g.2.2.2.2.2.2.1 (II yr) g.1 N0 g.2.2.2.2.2.2.2.1 g.2.2.2.2.2.2.2.2.1 g.2.2.2.2.2.2.2.2.2 N (LL l) (II j) = some (LL (LW9 X Y td rt yr k j l)) := by
  obtain ⟨⟨t0, t1, r0, r1, hnb⟩, ⟨k3, k4, k5, k7⟩, -, -, -, hB⟩ := id h
  intro k
  induction k with
  | zero =>
    intro j l hj h1 h2 N hN
    unfold LW9
    exact lad_t (10 - j) j (by omega) (by omega) N (by omega)
  | succ k ih =>
    intro j l hj h1 h2 N hN
    obtain ⟨N, rfl⟩ : ∃ N', N = N' + 1 := ⟨N - 1, by omega⟩
    obtain ⟨hW, hC, hM⟩ := hB j (by omega)
    have h9 := hW.2.1
    have b1 := hC.1.2.1
    have e : ((j : Int) + 1) = ((j + 1 : Nat) : Int) := by omega
    have er := rung_c hC hW t0 (show td ≤ 18627 by omega) y0 y1
    have ew := wor_c hC hW (t := td) (l := X j 5) (y := rt) t0 t1 h9.1 h9.2.1 r0 (by omega) (show 200 ≤ N0 by omega)
    have wr := wo_r hW (t := td) (l := X j 5) (y := rt) t0 h9.1 h9.2.1 r0 (by omega)
    unfold f_X4_leastWorth_L18 LW9
    by_cases c : X j 8 = 0 ∧ X j 0 ≤ td ∧ td < X j 1 ∧ 2016 + cy (X j 1) = yr
    · rw [if_pos c.1] at ew
      rw [if_pos c] at er
      generalize WO (X j) (Y j) td (X j 5) rt = w at *
      by_cases c2 : l < 0
      · have ih := ih (j + 1) w (by omega) (by omega) (by omega) N (by omega)
        simp (disch := omega) only [true_or, or_true, gd_T, bd_e, jn_e, bi_e, gd_t, it_e, ie_e, if_true, if_false, ii_lit, ii_add, ii_sub, ii_mul, ii_neg, ii_lt, ii_le, ii_eq, ii_nat, ii_div, ii_nI, ll_lit, ll_add, ll_sub, ll_mul, ll_neg, ll_div, ii_toL, ll_toI, lz_gt, lz_lt, lz_le, lz_ge, lz_eq, ll_lt, ll_le, ll_eq, Int.toNat_natCast, er, b1, k5, k7, ew, e, ih]
      · by_cases c3 : w < l
        · have ih := ih (j + 1) w (by omega) (by omega) (by omega) N (by omega)
          simp (disch := omega) only [true_or, or_true, gd_T, bd_e, jn_e, bi_e, gd_t, it_e, ie_e, if_true, if_false, ii_lit, ii_add, ii_sub, ii_mul, ii_neg, ii_lt, ii_le, ii_eq, ii_nat, ii_div, ii_nI, ll_lit, ll_add, ll_sub, ll_mul, ll_neg, ll_div, ii_toL, ll_toI, lz_gt, lz_lt, lz_le, lz_ge, lz_eq, ll_lt, ll_le, ll_eq, Int.toNat_natCast, er, b1, k5, k7, ew, e, ih]
        · have ih := ih (j + 1) l (by omega) (by omega) (by omega) N (by omega)
          simp (disch := omega) only [true_or, or_true, gd_T, bd_e, jn_e, bi_e, gd_t, it_e, ie_e, if_true, if_false, ii_lit, ii_add, ii_sub, ii_mul, ii_neg, ii_lt, ii_le, ii_eq, ii_nat, ii_div, ii_nI, ll_lit, ll_add, ll_sub, ll_mul, ll_neg, ll_div, ii_toL, ll_toI, lz_gt, lz_lt, lz_le, lz_ge, lz_eq, ll_lt, ll_le, ll_eq, Int.toNat_natCast, er, b1, k5, k7, ew, e, ih]
    · rw [if_neg c] at er
      have ih := ih (j + 1) l (by omega) (by omega) (by omega) N (by omega)
      simp (disch := omega) only [true_or, or_true, gd_T, bd_e, jn_e, bi_e, gd_t, it_e, ie_e, if_true, if_false, ii_lit, ii_add, ii_sub, ii_mul, ii_neg, ii_lt, ii_le, ii_eq, ii_nat, ii_div, ii_nI, ll_lit, ll_add, ll_sub, ll_mul, ll_neg, ll_div, ii_toL, ll_toI, lz_gt, lz_lt, lz_le, lz_ge, lz_eq, ll_lt, ll_le, ll_eq, Int.toNat_natCast, k5, er, e, ih]
end LAD
