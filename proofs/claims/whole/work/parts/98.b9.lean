/-! pure: count, on -/
section CNU
variable {td : Int} {nh : Nat} {hd : Nat → Int} {rt : Int} {X Y : Nat → Nat → Int} {g : SG} {μ : SM} {M : Nat → Int32}
theorem ctd_L (h : Inv9 td nh hd rt X Y g μ) (m4 : M 4 = II g.2.2.2.2.1) {K4 : Int64 → Int64 → Option Int64} : ∀ (k j : Nat) (s1 s2 : Int), j + k = g.2.2.2.2.1 → ∀ N : Nat, 20 ≤ N + j → f_X5_counted_L8 M μ.2.2.2.1 K4 N (LL s1) (LL s2) (II j) = K4 (LL (SB9 X k j s1)) (LL (SH9 X k j s2))
  | 0, j, s1, s2, hj, N, hN => by
    have hnb := h.1.2.2.2.2
    obtain ⟨N, rfl⟩ : ∃ N', N = N' + 1 := ⟨N - 1, by omega⟩
    unfold f_X5_counted_L8 SB9 SH9
    simp (disch := omega) only [true_or, or_true, gd_T, bd_e, jn_e, bi_e, gd_t, it_e, ie_e, if_true, if_false, ii_lit, ii_add, ii_sub, ii_mul, ii_neg, ii_lt, ii_le, ii_eq, ii_nat, ii_div, ii_nI, m4]
  | k + 1, j, s1, s2, hj, N, hN => by
    have hnb := h.1.2.2.2.2
    obtain ⟨N, rfl⟩ : ∃ N', N = N' + 1 := ⟨N - 1, by omega⟩
    obtain ⟨hW, hC, hM⟩ := h.2.2.2.2.2 j (by omega)
    have h9 := hW.2.1
    have e : ((j : Int) + 1) = ((j + 1 : Nat) : Int) := by omega
    unfold f_X5_counted_L8 SB9 SH9
    by_cases c : X j 8 = 0
    · have ih := ctd_L h m4 (K4 := K4) k (j + 1) (s1 + 1) (s2 + X j 9) (by omega) N (by omega)
      simp (disch := omega) only [true_or, or_true, gd_T, bd_e, jn_e, bi_e, gd_t, it_e, ie_e, if_true, if_false, ii_lit, ii_add, ii_sub, ii_mul, ii_neg, ii_lt, ii_le, ii_eq, ii_nat, ii_div, ii_nI, ll_lit, ll_add, ll_sub, ll_mul, ll_neg, ll_div, ii_toL, ll_toI, lz_gt, lz_lt, lz_le, lz_ge, lz_eq, ll_lt, ll_le, ll_eq, m4, thr_m hM hW, own_9 hM, e, ih]
    · have ih := ctd_L h m4 (K4 := K4) k (j + 1) (s1 + 0) (s2 + X j 9) (by omega) N (by omega)
      simp (disch := omega) only [true_or, or_true, gd_T, bd_e, jn_e, bi_e, gd_t, it_e, ie_e, if_true, if_false, ii_lit, ii_add, ii_sub, ii_mul, ii_neg, ii_lt, ii_le, ii_eq, ii_nat, ii_div, ii_nI, ll_lit, ll_add, ll_sub, ll_mul, ll_neg, ll_div, ii_toL, ll_toI, lz_gt, lz_lt, lz_le, lz_ge, lz_eq, ll_lt, ll_le, ll_eq, m4, thr_m hM hW, own_9 hM, e, ih]
theorem ctw_L (h : Inv9 td nh hd rt X Y g μ) (m4 : M 4 = II g.2.2.2.2.1) (m1 : M 1 = II td) (m3 : M 3 = II rt) {N0 : Nat} (hN0 : 300 ≤ N0) : ∀ (k j : Nat) (s : Int), j + k = g.2.2.2.2.1 → ∀ N : Nat, 20 ≤ N + j → f_X5_counted_L159 M μ.2.2.2.1 N0 μ.2.2.2.2.1 N (LL s) (II j) = some (LL (SW9 X Y td rt k j s))
  | 0, j, s, hj, N, hN => by
    have hnb := h.1.2.2.2.2
    obtain ⟨N, rfl⟩ : ∃ N', N = N' + 1 := ⟨N - 1, by omega⟩
    unfold f_X5_counted_L159 SW9
    simp (disch := omega) only [true_or, or_true, gd_T, bd_e, jn_e, bi_e, gd_t, it_e, ie_e, if_true, if_false, ii_lit, ii_add, ii_sub, ii_mul, ii_neg, ii_lt, ii_le, ii_eq, ii_nat, ii_div, ii_nI, m4]
  | k + 1, j, s, hj, N, hN => by
    have hnb := h.1
    obtain ⟨N, rfl⟩ : ∃ N', N = N' + 1 := ⟨N - 1, by omega⟩
    obtain ⟨hW, hC, hM⟩ := h.2.2.2.2.2 j (by omega)
    have h9 := hW.2.1
    have e : ((j : Int) + 1) = ((j + 1 : Nat) : Int) := by omega
    have ih := ctw_L h m4 m1 m3 hN0 k (j + 1) (s + X j 9 * (if X j 8 = 0 then WO (X j) (Y j) td (X j 5) rt else 0)) (by omega) N (by omega)
    have ew := wnow_m hM hW m1 (y := rt) (by omega) (by omega) (by omega) (by omega) hN0
    unfold f_X5_counted_L159 SW9
    generalize (if X j 8 = 0 then WO (X j) (Y j) td (X j 5) rt else 0) = wv at *
    by_cases c : X j 9 = 0
    · have e0 : s + 0 * wv = s := by omega
      rw [c, e0] at ih
      rw [c]
      simp (disch := omega) only [true_or, or_true, gd_T, bd_e, jn_e, bi_e, gd_t, it_e, ie_e, if_true, if_false, ii_lit, ii_add, ii_sub, ii_mul, ii_neg, ii_lt, ii_le, ii_eq, ii_nat, ii_div, ii_nI, ll_lit, ll_add, ll_sub, ll_mul, ll_neg, ll_div, ii_toL, ll_toI, lz_gt, lz_lt, lz_le, lz_ge, lz_eq, ll_lt, ll_le, ll_eq, m4, own_9 hM, c, e, e0, ih]
    · simp (disch := omega) only [true_or, or_true, gd_T, bd_e, jn_e, bi_e, gd_t, it_e, ie_e, if_true, if_false, ii_lit, ii_add, ii_sub, ii_mul, ii_neg, ii_lt, ii_le, ii_eq, ii_nat, ii_div, ii_nI, ll_lit, ll_add, ll_sub, ll_mul, ll_neg, ll_div, ii_toL, ll_toI, lz_gt, lz_lt, lz_le, lz_ge, lz_eq, ll_lt, ll_le, ll_eq, m4, own_9 hM, m3, ew, e, ih]
/-- what is counted, to both -/
theorem cnt_eq (h : Inv9 td nh hd rt X Y g μ) (m4 : M 4 = II g.2.2.2.2.1) (m1 : M 1 = II td) (m3 : M 3 = II rt) (m5 : M 5 = II nh) {N : Nat} (hN : 10000 ≤ N) {w : Int} (h1 : 0 ≤ w) (h2 : w ≤ 11) : ∃ v : Int64, f_X4_tell N g.1 g.2.1 g.2.2.2.1 g.2.2.2.2.1 g.2.2.2.2.2.1 g.2.2.2.2.2.2.1 g.2.2.2.2.2.2.2.1 g.2.2.2.2.2.2.2.2.1 g.2.2.2.2.2.2.2.2.2 (II w) = some v ∧ f_X5_counted N M μ.2.1 μ.2.2.2.1 μ.2.2.2.2.1 μ.2.2.2.2.2 (II w) = some v := by
  have ez : II ((0 : Nat) : Int) = II 0 := rfl
  obtain ⟨⟨t0, t1, r0, r1, hnb⟩, ⟨k3, k4, k5, k7⟩, ⟨hc, hm⟩, -, ⟨hkc, hLG⟩, hB⟩ := id h
  have h30 := hc.1
  have bd9 := dd_b t0 (show td ≤ 18627 by omega)
  have sb := bth_L h g.2.2.2.2.1 0 0 (by omega) (by omega) (by omega) N (by omega)
  have sh := phd_L h g.2.2.2.2.1 0 0 (by omega) (by omega) (by omega) N (by omega)
  have sw := whd_L h (N0 := N) (by omega) g.2.2.2.2.1 0 0 (by omega) N (by omega)
  have tw := ctw_L h m4 m1 m3 (N0 := N) (by omega) g.2.2.2.2.1 0 0 (by omega) N (by omega)
  have rb : ∀ (k j : Nat) (s : Int), 0 ≤ s → 0 ≤ SB9 X k j s ∧ SB9 X k j s ≤ s + k := by
    intro k
    induction k with
    | zero => intro j s hs; unfold SB9; omega
    | succ k ih =>
      intro j s hs
      unfold SB9
      split
      · have := ih (j + 1) (s + 1) (by omega); omega
      · have := ih (j + 1) (s + 0) (by omega); omega
  have rh : ∀ (k j : Nat) (s : Int), j + k ≤ g.2.2.2.2.1 → 0 ≤ s → 0 ≤ SH9 X k j s ∧ SH9 X k j s ≤ s + 1000 * k := by
    intro k
    induction k with
    | zero => intro j s _ hs; unfold SH9; omega
    | succ k ih =>
      intro j s hj hs
      have h9 := (hB j (by omega)).1.2.1
      have := ih (j + 1) (s + X j 9) (by omega) (by omega)
      unfold SH9
      omega
  have rb1 := rb g.2.2.2.2.1 0 0 (by omega)
  have rh1 := rh g.2.2.2.2.1 0 0 (by omega) (by omega)
  rw [ez] at sb sh sw tw
  have L0 := hLG 0 (by decide)
  have L1 := hLG 1 (by decide)
  have L2 := hLG 2 (by decide)
  have L3 := hLG 3 (by decide)
  unfold f_X4_tell f_X5_counted f_X4_bondsThere f_X4_piecesHeld f_X4_worthHeld
  have cl := fun K4 => ctd_L (K4 := K4) h m4 g.2.2.2.2.1 0 0 0 (by omega) N (by omega)
  rw [ez] at cl
  have z0 : ((0 : Int32)) = II 0 := rfl
  have z1 : ((0 : Int64)) = LL 0 := rfl
  rw [z0, z1, cl]
  have q7 : (7 - 7 : Int).toNat = 0 := rfl
  have q8 : (8 - 7 : Int).toNat = 1 := rfl
  have q9 : (9 - 7 : Int).toNat = 2 := rfl
  have q10 : (10 - 7 : Int).toNat = 3 := rfl
  rcases (show w = 0 ∨ w = 1 ∨ w = 2 ∨ w = 3 ∨ w = 4 ∨ w = 5 ∨ w = 6 ∨ w = 7 ∨ w = 8 ∨ w = 9 ∨ w = 10 ∨ w = 11 by omega) with rfl | rfl | rfl | rfl | rfl | rfl | rfl | rfl | rfl | rfl | rfl | rfl
  · refine ⟨LL (DD td), ?_, ?_⟩ <;> simp (disch := omega) only [true_or, or_true, gd_T, bd_e, jn_e, bi_e, gd_t, it_e, ie_e, if_true, if_false, ii_lit, ii_add, ii_sub, ii_mul, ii_neg, ii_lt, ii_le, ii_eq, ii_nat, ii_div, ii_nI, ll_lit, ll_add, ll_sub, ll_mul, ll_neg, ll_div, ii_toL, ll_toI, lz_gt, lz_lt, lz_le, lz_ge, lz_eq, ll_lt, ll_le, ll_eq, k5, m1, dat_x5 t0 (show td ≤ 18627 by omega) (show 100 ≤ N by omega)]
  · refine ⟨g.2.1, ?_, ?_⟩ <;> simp (disch := omega) only [true_or, or_true, gd_T, bd_e, jn_e, bi_e, gd_t, it_e, ie_e, if_true, if_false, ii_lit, ii_add, ii_sub, ii_mul, ii_neg, ii_lt, ii_le, ii_eq, ii_nat, ii_div, ii_nI, ll_lit, ll_add, ll_sub, ll_mul, ll_neg, ll_div, ii_toL, ll_toI, lz_gt, lz_lt, lz_le, lz_ge, lz_eq, ll_lt, ll_le, ll_eq, hkc]
  · refine ⟨LL rt, ?_, ?_⟩ <;> simp (disch := omega) only [true_or, or_true, gd_T, bd_e, jn_e, bi_e, gd_t, it_e, ie_e, if_true, if_false, ii_lit, ii_add, ii_sub, ii_mul, ii_neg, ii_lt, ii_le, ii_eq, ii_nat, ii_div, ii_nI, ll_lit, ll_add, ll_sub, ll_mul, ll_neg, ll_div, ii_toL, ll_toI, lz_gt, lz_lt, lz_le, lz_ge, lz_eq, ll_lt, ll_le, ll_eq, k7, m3]
  · refine ⟨LL g.2.2.2.2.1, ?_, ?_⟩ <;> simp (disch := omega) only [true_or, or_true, gd_T, bd_e, jn_e, bi_e, gd_t, it_e, ie_e, if_true, if_false, ii_lit, ii_add, ii_sub, ii_mul, ii_neg, ii_lt, ii_le, ii_eq, ii_nat, ii_div, ii_nI, ll_lit, ll_add, ll_sub, ll_mul, ll_neg, ll_div, ii_toL, ll_toI, lz_gt, lz_lt, lz_le, lz_ge, lz_eq, ll_lt, ll_le, ll_eq, k4, m4]
  · refine ⟨LL (SB9 X g.2.2.2.2.1 0 0), ?_, ?_⟩ <;> simp (disch := omega) only [true_or, or_true, gd_T, bd_e, jn_e, bi_e, gd_t, it_e, ie_e, if_true, if_false, ii_lit, ii_add, ii_sub, ii_mul, ii_neg, ii_lt, ii_le, ii_eq, ii_nat, ii_div, ii_nI, ll_lit, ll_add, ll_sub, ll_mul, ll_neg, ll_div, ii_toL, ll_toI, lz_gt, lz_lt, lz_le, lz_ge, lz_eq, ll_lt, ll_le, ll_eq, sb]
  · refine ⟨LL nh, ?_, ?_⟩ <;> simp (disch := omega) only [true_or, or_true, gd_T, bd_e, jn_e, bi_e, gd_t, it_e, ie_e, if_true, if_false, ii_lit, ii_add, ii_sub, ii_mul, ii_neg, ii_lt, ii_le, ii_eq, ii_nat, ii_div, ii_nI, ll_lit, ll_add, ll_sub, ll_mul, ll_neg, ll_div, ii_toL, ll_toI, lz_gt, lz_lt, lz_le, lz_ge, lz_eq, ll_lt, ll_le, ll_eq, k3, m5]
  · refine ⟨LL (SH9 X g.2.2.2.2.1 0 0), ?_, ?_⟩ <;> simp (disch := omega) only [true_or, or_true, gd_T, bd_e, jn_e, bi_e, gd_t, it_e, ie_e, if_true, if_false, ii_lit, ii_add, ii_sub, ii_mul, ii_neg, ii_lt, ii_le, ii_eq, ii_nat, ii_div, ii_nI, ll_lit, ll_add, ll_sub, ll_mul, ll_neg, ll_div, ii_toL, ll_toI, lz_gt, lz_lt, lz_le, lz_ge, lz_eq, ll_lt, ll_le, ll_eq, sh]
  · refine ⟨g.2.2.2.1 0, ?_, ?_⟩ <;> simp (disch := omega) only [true_or, or_true, gd_T, bd_e, jn_e, bi_e, gd_t, it_e, ie_e, if_true, if_false, ii_lit, ii_add, ii_sub, ii_mul, ii_neg, ii_lt, ii_le, ii_eq, ii_nat, ii_div, ii_nI, ll_lit, ll_add, ll_sub, ll_mul, ll_neg, ll_div, ii_toL, ll_toI, lz_gt, lz_lt, lz_le, lz_ge, lz_eq, ll_lt, ll_le, ll_eq, q7, L0]
  · refine ⟨g.2.2.2.1 1, ?_, ?_⟩ <;> simp (disch := omega) only [true_or, or_true, gd_T, bd_e, jn_e, bi_e, gd_t, it_e, ie_e, if_true, if_false, ii_lit, ii_add, ii_sub, ii_mul, ii_neg, ii_lt, ii_le, ii_eq, ii_nat, ii_div, ii_nI, ll_lit, ll_add, ll_sub, ll_mul, ll_neg, ll_div, ii_toL, ll_toI, lz_gt, lz_lt, lz_le, lz_ge, lz_eq, ll_lt, ll_le, ll_eq, q8, L1]
  · refine ⟨g.2.2.2.1 2, ?_, ?_⟩ <;> simp (disch := omega) only [true_or, or_true, gd_T, bd_e, jn_e, bi_e, gd_t, it_e, ie_e, if_true, if_false, ii_lit, ii_add, ii_sub, ii_mul, ii_neg, ii_lt, ii_le, ii_eq, ii_nat, ii_div, ii_nI, ll_lit, ll_add, ll_sub, ll_mul, ll_neg, ll_div, ii_toL, ll_toI, lz_gt, lz_lt, lz_le, lz_ge, lz_eq, ll_lt, ll_le, ll_eq, q9, L2]
  · refine ⟨g.2.2.2.1 3, ?_, ?_⟩ <;> simp (disch := omega) only [true_or, or_true, gd_T, bd_e, jn_e, bi_e, gd_t, it_e, ie_e, if_true, if_false, ii_lit, ii_add, ii_sub, ii_mul, ii_neg, ii_lt, ii_le, ii_eq, ii_nat, ii_div, ii_nI, ll_lit, ll_add, ll_sub, ll_mul, ll_neg, ll_div, ii_toL, ll_toI, lz_gt, lz_lt, lz_le, lz_ge, lz_eq, ll_lt, ll_le, ll_eq, q10, L3]
  · refine ⟨LL (SW9 X Y td rt g.2.2.2.2.1 0 0), ?_, ?_⟩ <;> simp (disch := omega) only [true_or, or_true, gd_T, bd_e, jn_e, bi_e, gd_t, it_e, ie_e, if_true, if_false, ii_lit, ii_add, ii_sub, ii_mul, ii_neg, ii_lt, ii_le, ii_eq, ii_nat, ii_div, ii_nI, ll_lit, ll_add, ll_sub, ll_mul, ll_neg, ll_div, ii_toL, ll_toI, lz_gt, lz_lt, lz_le, lz_ge, lz_eq, ll_lt, ll_le, ll_eq, sw, tw]
end CNU
