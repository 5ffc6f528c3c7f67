/-! pure: ladder agrees -/
section LAE
variable {td : Int} {nh : Nat} {hd : Nat → Int} {rt : Int} {X Y : Nat → Nat → Int} {g : SG} {μ : SM}
theorem lad_M (h : Inv9 td nh hd rt X Y g μ) {N0 : Nat} (hN0 : 300 ≤ N0) {yr : Int} (y0 : 2016 ≤ yr) (y1 : yr ≤ 2066) {K15 : Int64 → Option (Int32 × (Nat → Int32))} : ∀ (k j : Nat) (l : Int), j + k = g.2.2.2.2.1 → -1 ≤ l → l ≤ 200000000 → ∀ N : Nat, 20 ≤ N + j → f_X5_ladder_L54 μ.1 μ.2.2.2.1 N0 (II yr) μ.2.2.2.2.1 K15 N (LL l) (II j) = K15 (LL (LW9 X Y td rt yr k j l)) := by
  obtain ⟨⟨t0, t1, r0, r1, hnb⟩, -, -, ⟨m1, m3, m4⟩, -, hB⟩ := id h
  have m1z : (va_up μ.1 0 (II 0)) 1 = II td := (va_up_ne _ _ (by decide)).trans m1
  intro k
  induction k with
  | zero =>
    intro j l hj h1 h2 N hN
    obtain ⟨N, rfl⟩ : ∃ N', N = N' + 1 := ⟨N - 1, by omega⟩
    unfold f_X5_ladder_L54 LW9
    simp (disch := omega) only [true_or, or_true, gd_T, bd_e, jn_e, bi_e, gd_t, it_e, ie_e, if_true, if_false, ii_lit, ii_add, ii_sub, ii_mul, ii_neg, ii_lt, ii_le, ii_eq, ii_nat, ii_div, ii_nI, m4]
  | succ k ih =>
    intro j l hj h1 h2 N hN
    obtain ⟨N, rfl⟩ : ∃ N', N = N' + 1 := ⟨N - 1, by omega⟩
    obtain ⟨hW, hC, hM⟩ := hB j (by omega)
    have h9 := hW.2.1
    have hw1 := hW.1
    have e : ((j : Int) + 1) = ((j + 1 : Nat) : Int) := by omega
    have ew := wnow_m hM hW m1z (y := rt) t0 t1 r0 (by omega) hN0
    have wr := wo_r hW (t := td) (l := X j 5) (y := rt) t0 h9.1 h9.2.1 r0 (by omega)
    have b1 := dd_b (n := X j 1) (by omega) (by omega)
    have ry := cy_r (n := X j 1) (by omega) (by omega)
    have ey := dd_y (n := X j 1) (by omega) (by omega)
    have ed := dat_x5 (n := X j 1) (N := N0) (by omega) (by omega) (by omega)
    have ihl := ih (j + 1) l (by omega) h1 h2 N (by omega)
    unfold f_X5_ladder_L54 LW9
    by_cases c8 : X j 8 = 0
    · by_cases c0 : X j 0 ≤ td
      · by_cases c1 : td < X j 1
        · by_cases c9 : 2016 + cy (X j 1) = yr
          · rw [if_pos c8] at ew
            generalize WO (X j) (Y j) td (X j 5) rt = w at *
            have ihw := ih (j + 1) w (by omega) (by omega) (by omega) N (by omega)
            by_cases c2 : l < 0
            · simp (disch := omega) only [true_or, or_true, gd_T, bd_e, jn_e, bi_e, gd_t, it_e, ie_e, if_true, if_false, ii_lit, ii_add, ii_sub, ii_mul, ii_neg, ii_lt, ii_le, ii_eq, ii_nat, ii_div, ii_nI, ll_lit, ll_add, ll_sub, ll_mul, ll_neg, ll_div, ii_toL, ll_toI, lz_gt, lz_lt, lz_le, lz_ge, lz_eq, ll_lt, ll_le, ll_eq, m4, m1, m3, thr_m hM hW, own_0 hM, own_1 hM, ed, ey, ew, e, ihw]
            · by_cases c3 : w < l
              · simp (disch := omega) only [true_or, or_true, gd_T, bd_e, jn_e, bi_e, gd_t, it_e, ie_e, if_true, if_false, ii_lit, ii_add, ii_sub, ii_mul, ii_neg, ii_lt, ii_le, ii_eq, ii_nat, ii_div, ii_nI, ll_lit, ll_add, ll_sub, ll_mul, ll_neg, ll_div, ii_toL, ll_toI, lz_gt, lz_lt, lz_le, lz_ge, lz_eq, ll_lt, ll_le, ll_eq, m4, m1, m3, thr_m hM hW, own_0 hM, own_1 hM, ed, ey, ew, e, ihw]
              · simp (disch := omega) only [true_or, or_true, gd_T, bd_e, jn_e, bi_e, gd_t, it_e, ie_e, if_true, if_false, ii_lit, ii_add, ii_sub, ii_mul, ii_neg, ii_lt, ii_le, ii_eq, ii_nat, ii_div, ii_nI, ll_lit, ll_add, ll_sub, ll_mul, ll_neg, ll_div, ii_toL, ll_toI, lz_gt, lz_lt, lz_le, lz_ge, lz_eq, ll_lt, ll_le, ll_eq, m4, m1, m3, thr_m hM hW, own_0 hM, own_1 hM, ed, ey, ew, e, ihl]
          · simp (disch := omega) only [true_or, or_true, gd_T, bd_e, jn_e, bi_e, gd_t, it_e, ie_e, if_true, if_false, ii_lit, ii_add, ii_sub, ii_mul, ii_neg, ii_lt, ii_le, ii_eq, ii_nat, ii_div, ii_nI, ll_lit, ll_add, ll_sub, ll_mul, ll_neg, ll_div, ii_toL, ll_toI, lz_gt, lz_lt, lz_le, lz_ge, lz_eq, ll_lt, ll_le, ll_eq, m4, m1, thr_m hM hW, own_0 hM, own_1 hM, ed, ey, e, ihl]
        · simp (disch := omega) only [true_or, or_true, gd_T, bd_e, jn_e, bi_e, gd_t, it_e, ie_e, if_true, if_false, ii_lit, ii_add, ii_sub, ii_mul, ii_neg, ii_lt, ii_le, ii_eq, ii_nat, ii_div, ii_nI, ll_lit, ll_add, ll_sub, ll_mul, ll_neg, ll_div, ii_toL, ll_toI, lz_gt, lz_lt, lz_le, lz_ge, lz_eq, ll_lt, ll_le, ll_eq, m4, m1, thr_m hM hW, own_0 hM, own_1 hM, e, ihl]
      · simp (disch := omega) only [true_or, or_true, gd_T, bd_e, jn_e, bi_e, gd_t, it_e, ie_e, if_true, if_false, ii_lit, ii_add, ii_sub, ii_mul, ii_neg, ii_lt, ii_le, ii_eq, ii_nat, ii_div, ii_nI, ll_lit, ll_add, ll_sub, ll_mul, ll_neg, ll_div, ii_toL, ll_toI, lz_gt, lz_lt, lz_le, lz_ge, lz_eq, ll_lt, ll_le, ll_eq, m4, m1, thr_m hM hW, own_0 hM, e, ihl]
    · simp (disch := omega) only [true_or, or_true, gd_T, bd_e, jn_e, bi_e, gd_t, it_e, ie_e, if_true, if_false, ii_lit, ii_add, ii_sub, ii_mul, ii_neg, ii_lt, ii_le, ii_eq, ii_nat, ii_div, ii_nI, ll_lit, ll_add, ll_sub, ll_mul, ll_neg, ll_div, ii_toL, ll_toI, lz_gt, lz_lt, lz_le, lz_ge, lz_eq, ll_lt, ll_le, ll_eq, m4, m1, thr_m hM hW, e, ihl]
end LAE
